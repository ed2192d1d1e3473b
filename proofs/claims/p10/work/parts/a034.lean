/-! from 95.m38 -/
/-! COUNTS, the class (written by wip/tools/gen20k.py) -/
theorem g_156_64_sk_p84_0 {X : Nat × (Nat → Int32)} {d w : Nat} {S : ma_S} {Q : Option ma_V ⊕ Nat → ma_S → Prop} (o : Int32) (b : Int32) (hd : 7 ≤ d) (hw : 111 ≤ w) (hS : zT S) (h : mR S 64 11 = some 84 ∧ (mR S 64 11 = some 84 ∧ (ma_wp X (d - 1) (w - 22) 149 0 [(0, .inr (.inr (some 64))), (1, .inl o)] [] S (zo (fun v2 S1 => zT S1 ∧ ((∃ c3, v2 = some c3 ∧ (if b = 0 then ((126 ≤ c3 ∧ c3 < mN S1) ∧ (if (mI S1 c3 7) = 0 then (Q (.inr 6) (ma_bump S1)) else (if b = 0 then (ma_wp X (d - 1) (w - 22) 97 0 [(0, .inr (.inr (some 69))), (1, .inr (.inr (some c3))), (2, .inl (-1 : Int32))] [] S1 (zv (fun S12 => zT S12 ∧ (ma_wp X (d - 1) (w - 24) 24 0 [(0, .inr (.inr (some 84))), (1, .inr (.inr (some c3)))] [] S12 (zv (fun S14 => zT S14 ∧ ((126 ≤ c3 ∧ c3 < mN S14) ∧ (Q (.inl (some (.inl (mI S14 c3 7)))) S14))) (fun _ _ => False)))) (fun x S9 => Q (.inr x) S9))) else (ma_wp X (d - 1) (w - 22) 97 0 [(0, .inr (.inr (some 69))), (1, .inr (.inr (some c3))), (2, .inl (1 : Int32))] [] S1 (zv (fun S16 => zT S16 ∧ (ma_wp X (d - 1) (w - 24) 24 0 [(0, .inr (.inr (some 84))), (1, .inr (.inr (some c3)))] [] S16 (zv (fun S18 => zT S18 ∧ ((126 ≤ c3 ∧ c3 < mN S18) ∧ (Q (.inl (some (.inl (mI S18 c3 7)))) S18))) (fun _ _ => False)))) (fun x S9 => Q (.inr x) S9)))))) else (if b = 0 then (ma_wp X (d - 1) (w - 22) 97 0 [(0, .inr (.inr (some 69))), (1, .inr (.inr (some c3))), (2, .inl (-1 : Int32))] [] S1 (zv (fun S4 => zT S4 ∧ (ma_wp X (d - 1) (w - 24) 24 0 [(0, .inr (.inr (some 84))), (1, .inr (.inr (some c3)))] [] S4 (zv (fun S6 => zT S6 ∧ ((126 ≤ c3 ∧ c3 < mN S6) ∧ (Q (.inl (some (.inl (mI S6 c3 7)))) S6))) (fun _ _ => False)))) (fun x S9 => Q (.inr x) S9))) else (ma_wp X (d - 1) (w - 22) 97 0 [(0, .inr (.inr (some 69))), (1, .inr (.inr (some c3))), (2, .inl (1 : Int32))] [] S1 (zv (fun S8 => zT S8 ∧ (ma_wp X (d - 1) (w - 24) 24 0 [(0, .inr (.inr (some 84))), (1, .inr (.inr (some c3)))] [] S8 (zv (fun S10 => zT S10 ∧ ((126 ≤ c3 ∧ c3 < mN S10) ∧ (Q (.inl (some (.inl (mI S10 c3 7)))) S10))) (fun _ _ => False)))) (fun x S9 => Q (.inr x) S9)))))))) (fun x S9 => Q (.inr x) S9))))) : ma_wp X d w 156 0 [(0, .inr (.inr (some 64))), (1, .inl o), (2, .inl b)] [] S Q := by
  refine zw_push hm_156 dX11_hold_0 (v := .inr (.inr (some 64))) rfl ?_
  refine zw_cv hm_156 dX11_hold_1 v_11_119_11 hm_144 [] [] rfl (zT_rt hS s_64 rfl) ⟨by omega, by omega⟩ rfl ?_
  show ma_wp X (d - 1) (w - 20) 144 0 [(0, .inr (.inr (some 64)))] [] S _
  refine zw_push hm_144 dX11_needCollector_0 (v := .inr (.inr (some 64))) rfl ?_
  obtain ⟨hg, h⟩ := h
  refine zw_gf hm_144 dX11_needCollector_1 (v := .inr (.inr (some 84))) (zT_is hS s_64) (zT_t hS s_64) rfl f_11_98_11 (congrArg (fun z => Sum.inr (Sum.inr z)) hg) ?_
  refine zw_ifnonnull hm_144 dX11_needCollector_4 (t := 15) rfl (fun z => by cases z) (fun _ _ => ?_)
  refine zw_push hm_144 dX11_needCollector_15 (v := .inr (.inr (some 64))) rfl ?_
  obtain ⟨hg, h⟩ := h
  refine zw_gf hm_144 dX11_needCollector_16 (v := .inr (.inr (some 84))) (zT_is hS s_64) (zT_t hS s_64) rfl f_11_98_11 (congrArg (fun z => Sum.inr (Sum.inr z)) hg) ?_
  refine zw_aret hm_144 dX11_needCollector_19 ?_
  show ma_wp X d w 156 4 [(0, .inr (.inr (some 64))), (1, .inl o), (2, .inl b)] [.inr (.inr (some 84))] S _
  refine zw_sto hm_156 dX11_hold_4 [(3, .inr (.inr (some 84))), (0, .inr (.inr (some 64))), (1, .inl o), (2, .inl b)] rfl rfl rfl ?_
  refine zw_push hm_156 dX11_hold_5 (v := .inr (.inr (some 64))) rfl ?_
  refine zw_push hm_156 dX11_hold_6 (v := .inl o) rfl ?_
  refine zw_cv hm_156 dX11_hold_7 v_11_123_11 hm_149 [.inl o] [] rfl (zT_rt hS s_64 rfl) ⟨by omega, by omega⟩ rfl (zw_mono h (zo_go ?_ ?_))
  · intro v2 S1 hv
    obtain ⟨hS1, h⟩ := hv
    obtain ⟨c3, hc, h⟩ := h
    subst hc
    show ma_wp X d w 156 10 [(3, .inr (.inr (some 84))), (0, .inr (.inr (some 64))), (1, .inl o), (2, .inl b)] [.inr (.inr (some c3))] S1 _
    refine zw_sto hm_156 dX11_hold_10 [(4, .inr (.inr (some c3))), (3, .inr (.inr (some 84))), (0, .inr (.inr (some 64))), (1, .inl o), (2, .inl b)] rfl rfl rfl ?_
    refine zw_push hm_156 dX11_hold_12 (v := .inr (.inr (some 84))) rfl ?_
    refine zw_push hm_156 dX11_hold_13 (v := .inr (.inr (some c3))) rfl ?_
    refine zw_cv hm_156 dX11_hold_15 v_11_185_2 hm_269 [.inr (.inr (some c3))] [] rfl (zT_rt hS1 s_84 rfl) ⟨by omega, by omega⟩ rfl ?_
    show ma_wp X (d - 1) (w - 21) 269 0 [(0, .inr (.inr (some 84))), (1, .inr (.inr (some c3)))] [] S1 _
    refine zw_push hm_269 dX1_canHold_0 (v := .inl (1 : Int32)) rfl ?_
    refine zw_bret hm_269 dX1_canHold_1 (by decide) ?_
    show ma_wp X d w 156 18 [(4, .inr (.inr (some c3))), (3, .inr (.inr (some 84))), (0, .inr (.inr (some 64))), (1, .inl o), (2, .inl b)] [.inl (1 : Int32)] S1 _
    refine zw_if0 hm_156 dX11_hold_18 (t := 33) rfl zc0_eq (fun hc => absurd hc (by decide)) (fun _ => ?_)
    refine zw_push hm_156 dX11_hold_21 (v := .inl b) rfl ?_
    refine zw_if0 hm_156 dX11_hold_22 (t := 41) rfl zc0_ne ?_ ?_
    · intro hc
      rw [if_neg hc] at h
      refine zw_push hm_156 dX11_hold_41 (v := .inr (.inr (some 64))) rfl ?_
      refine zw_gf hm_156 dX11_hold_42 (v := .inr (.inr (some 69))) (zT_is hS1 s_64) (zT_t hS1 s_64) rfl f_11_26_11 (zT_f hS1 r_64_8) ?_
      refine zw_push hm_156 dX11_hold_45 (v := .inr (.inr (some c3))) rfl ?_
      refine zw_push hm_156 dX11_hold_47 (v := .inl b) rfl ?_
      refine zw_if0 hm_156 dX11_hold_48 (t := 55) rfl zc0_eq ?_ ?_
      · intro hc
        rw [if_pos hc] at h
        refine zw_push hm_156 dX11_hold_55 (v := .inl (-1 : Int32)) rfl ?_
        refine zw_cv hm_156 dX11_hold_56 v_11_195_7 hm_97 [.inl (-1 : Int32), .inr (.inr (some c3))] [] rfl (zT_rt hS1 s_69 rfl) ⟨by omega, by omega⟩ rfl (zw_mono h (zv_go ?_ ?_))
        · intro S4 hv
          obtain ⟨hS4, h⟩ := hv
          refine zw_push hm_156 dX11_hold_59 (v := .inr (.inr (some 84))) rfl ?_
          refine zw_push hm_156 dX11_hold_60 (v := .inr (.inr (some c3))) rfl ?_
          refine zw_cv hm_156 dX11_hold_62 v_11_157_2 hm_24 [.inr (.inr (some c3))] [] rfl (zT_rt hS4 s_84 rfl) ⟨by omega, by omega⟩ rfl (zw_mono h (zv_go ?_ ?_))
          · intro S6 hv
            obtain ⟨hS6, h⟩ := hv
            refine zw_push hm_156 dX11_hold_65 (v := .inr (.inr (some c3))) rfl ?_
            obtain ⟨hg, h⟩ := h
            refine zw_gf hm_156 dX11_hold_67 (v := .inl (mI S6 c3 7)) (zT_tis hS6 hg) (zT_tt hS6 hg) rfl f_11_189_9 rfl ?_
            exact zw_iret hm_156 dX11_hold_70 h
          · intro x S9 hx
            exact hx.elim
        · intro x S9 hx
          exact ⟨by decide, hx⟩
      · intro hc
        rw [if_neg hc] at h
        refine zw_push hm_156 dX11_hold_51 (v := .inl (1 : Int32)) rfl ?_
        refine zw_goto hm_156 dX11_hold_52 (t := 56) rfl ?_
        refine zw_cv hm_156 dX11_hold_56 v_11_195_7 hm_97 [.inl (1 : Int32), .inr (.inr (some c3))] [] rfl (zT_rt hS1 s_69 rfl) ⟨by omega, by omega⟩ rfl (zw_mono h (zv_go ?_ ?_))
        · intro S8 hv
          obtain ⟨hS8, h⟩ := hv
          refine zw_push hm_156 dX11_hold_59 (v := .inr (.inr (some 84))) rfl ?_
          refine zw_push hm_156 dX11_hold_60 (v := .inr (.inr (some c3))) rfl ?_
          refine zw_cv hm_156 dX11_hold_62 v_11_157_2 hm_24 [.inr (.inr (some c3))] [] rfl (zT_rt hS8 s_84 rfl) ⟨by omega, by omega⟩ rfl (zw_mono h (zv_go ?_ ?_))
          · intro S10 hv
            obtain ⟨hS10, h⟩ := hv
            refine zw_push hm_156 dX11_hold_65 (v := .inr (.inr (some c3))) rfl ?_
            obtain ⟨hg, h⟩ := h
            refine zw_gf hm_156 dX11_hold_67 (v := .inl (mI S10 c3 7)) (zT_tis hS10 hg) (zT_tt hS10 hg) rfl f_11_189_9 rfl ?_
            exact zw_iret hm_156 dX11_hold_70 h
          · intro x S9 hx
            exact hx.elim
        · intro x S9 hx
          exact ⟨by decide, hx⟩
    · intro hc
      rw [if_pos (Classical.not_not.mp hc)] at h
      refine zw_push hm_156 dX11_hold_25 (v := .inr (.inr (some c3))) rfl ?_
      obtain ⟨hg, h⟩ := h
      refine zw_gf hm_156 dX11_hold_27 (v := .inl (mI S1 c3 7)) (zT_tis hS1 hg) (zT_tt hS1 hg) rfl f_11_189_9 rfl ?_
      refine zw_if0 hm_156 dX11_hold_30 (t := 41) rfl zc0_ne ?_ ?_
      · intro hc
        rw [if_neg hc] at h
        refine zw_push hm_156 dX11_hold_41 (v := .inr (.inr (some 64))) rfl ?_
        refine zw_gf hm_156 dX11_hold_42 (v := .inr (.inr (some 69))) (zT_is hS1 s_64) (zT_t hS1 s_64) rfl f_11_26_11 (zT_f hS1 r_64_8) ?_
        refine zw_push hm_156 dX11_hold_45 (v := .inr (.inr (some c3))) rfl ?_
        refine zw_push hm_156 dX11_hold_47 (v := .inl b) rfl ?_
        refine zw_if0 hm_156 dX11_hold_48 (t := 55) rfl zc0_eq ?_ ?_
        · intro hc
          rw [if_pos hc] at h
          refine zw_push hm_156 dX11_hold_55 (v := .inl (-1 : Int32)) rfl ?_
          refine zw_cv hm_156 dX11_hold_56 v_11_195_7 hm_97 [.inl (-1 : Int32), .inr (.inr (some c3))] [] rfl (zT_rt hS1 s_69 rfl) ⟨by omega, by omega⟩ rfl (zw_mono h (zv_go ?_ ?_))
          · intro S12 hv
            obtain ⟨hS12, h⟩ := hv
            refine zw_push hm_156 dX11_hold_59 (v := .inr (.inr (some 84))) rfl ?_
            refine zw_push hm_156 dX11_hold_60 (v := .inr (.inr (some c3))) rfl ?_
            refine zw_cv hm_156 dX11_hold_62 v_11_157_2 hm_24 [.inr (.inr (some c3))] [] rfl (zT_rt hS12 s_84 rfl) ⟨by omega, by omega⟩ rfl (zw_mono h (zv_go ?_ ?_))
            · intro S14 hv
              obtain ⟨hS14, h⟩ := hv
              refine zw_push hm_156 dX11_hold_65 (v := .inr (.inr (some c3))) rfl ?_
              obtain ⟨hg, h⟩ := h
              refine zw_gf hm_156 dX11_hold_67 (v := .inl (mI S14 c3 7)) (zT_tis hS14 hg) (zT_tt hS14 hg) rfl f_11_189_9 rfl ?_
              exact zw_iret hm_156 dX11_hold_70 h
            · intro x S9 hx
              exact hx.elim
          · intro x S9 hx
            exact ⟨by decide, hx⟩
        · intro hc
          rw [if_neg hc] at h
          refine zw_push hm_156 dX11_hold_51 (v := .inl (1 : Int32)) rfl ?_
          refine zw_goto hm_156 dX11_hold_52 (t := 56) rfl ?_
          refine zw_cv hm_156 dX11_hold_56 v_11_195_7 hm_97 [.inl (1 : Int32), .inr (.inr (some c3))] [] rfl (zT_rt hS1 s_69 rfl) ⟨by omega, by omega⟩ rfl (zw_mono h (zv_go ?_ ?_))
          · intro S16 hv
            obtain ⟨hS16, h⟩ := hv
            refine zw_push hm_156 dX11_hold_59 (v := .inr (.inr (some 84))) rfl ?_
            refine zw_push hm_156 dX11_hold_60 (v := .inr (.inr (some c3))) rfl ?_
            refine zw_cv hm_156 dX11_hold_62 v_11_157_2 hm_24 [.inr (.inr (some c3))] [] rfl (zT_rt hS16 s_84 rfl) ⟨by omega, by omega⟩ rfl (zw_mono h (zv_go ?_ ?_))
            · intro S18 hv
              obtain ⟨hS18, h⟩ := hv
              refine zw_push hm_156 dX11_hold_65 (v := .inr (.inr (some c3))) rfl ?_
              obtain ⟨hg, h⟩ := h
              refine zw_gf hm_156 dX11_hold_67 (v := .inl (mI S18 c3 7)) (zT_tis hS18 hg) (zT_tt hS18 hg) rfl f_11_189_9 rfl ?_
              exact zw_iret hm_156 dX11_hold_70 h
            · intro x S9 hx
              exact hx.elim
          · intro x S9 hx
            exact ⟨by decide, hx⟩
      · intro hc
        rw [if_pos (Classical.not_not.mp hc)] at h
        exact zw_thr hm_156 dX11_hold_33 dX11_hold_36 dX11_hold_37 dX11_hold_40 x_11_192_194 n_11_192 (by omega) (by show 0 + 81 ≤ w; omega) h
  · intro x S9 hx
    exact ⟨by decide, hx⟩
theorem sp_156_64_sk_p84 {X : Nat × (Nat → Int32)} {d w : Nat} {f : Nat → Nat → Int32} {r : Nat → Nat → Option Nat} {C Z N : Nat} {Q : Option ma_V ⊕ Nat → ma_S → Prop} {ab : Nat→Nat→Int32} {B : Int} {fq : Nat→Int32} {S : ma_S} (o : Int32) (b : Int32) (hd : 7 ≤ d) (hw : 111 ≤ w) (hI : zB f r C Z N S) (hr : r 64 11 = some 84) (hpre0 : xB S (mR S 70)) (hpre1 : aS 88 S = ab) (hpre2 : cC ab [] (kC S) B) (hpre3 : B + 1 ≤ 1000000) (hpre4 : 0 ≤ b.toInt) (hpre5 : b.toInt ≤ 1) (hpre6 : zfP 84 (mI S) = fq) (K : ∀ v S₉, zB f r C Z N S₉ → (True) → (xB S₉ (mR S₉ 70)) → (cC (aS 88 S₉) [] (kC S₉) (B + 1)) → (zRq ab o ∧ (¬ b = 0 ∨ ¬ ab 133 o.toNatClampNeg = 0) ∧ aS 88 S₉ = cLe (ma_u ab 133 o.toNatClampNeg (ab 133 o.toNatClampNeg + (if b = 0 then -1 else 1))) o ∧ v = ab 133 o.toNatClampNeg + (if b = 0 then -1 else 1)) → (zfP 84 (mI S₉) = fq) → Q (.inl (some (.inl v))) S₉) (KX : ∀ x S₉, (x = 4 ∨ x = 6) → zB f r C Z N S₉ → (xB S₉ (mR S₉ 70)) → (aS 88 S₉ = ab) → (cC ab [] (kC S₉) B) → ((x = 4 ∧ ¬ zRq ab o) ∨ (x = 6 ∧ zRq ab o ∧ b = 0 ∧ ab 133 o.toNatClampNeg = 0)) → (zfP 84 (mI S₉) = fq) → Q (.inr x) (ma_bump S₉)) : ma_wp X d w 156 0 [(0, .inr (.inr (some 64))), (1, .inl o), (2, .inl b)] [] S Q := by
  refine g_156_64_sk_p84_0 o b (by omega) (by omega) (zG_T hI) ?_
  refine ⟨((zG_r hI (by decide)).trans hr), ?_⟩
  refine ⟨((zG_r hI (by decide)).trans hr), ?_⟩
  have b1 := i_bd o
  refine sp_149_64_sk (R := (mR S 70)) (a7 := (aS 75 S)) (a8 := (aS 88 S)) (kk := (kC S)) (o) (by omega) (by omega) (zB_dn_zI hI) (show xB S (mR S 70) from by first | (exact (xC_o (W := 75) hpre0).2)) (show aS 75 S = (aS 75 S) from by first | (exact rfl)) (show aS 88 S = (aS 88 S) from by first | (exact rfl)) (show kC S = (kC S) from by first | (exact rfl)) (fun v2 S1 hL_S1 hq_v2 rp0_S1 rp1_S1 rp2_S1 rp3_S1 rp4_S1 => zo_n ⟨zG_T hL_S1, ?_⟩) (fun x S9 hx h9 rx0 rx1 rx2 rx3 => by have h9u := (zB_up_zI hI h9); exact zo_x (KX x S9 (by omega) h9u (show xB S9 (mR S9 70) from by first | (exact xB_x (xC_o (W := 75) rx0).2)) (show aS 88 S9 = ab from by first | (exact rx1.trans hpre1)) (show cC ab [] (kC S9) B from by first | (rw [rx2]; exact hpre2)) (show (x = 4 ∧ ¬ zRq ab o) ∨ (x = 6 ∧ zRq ab o ∧ b = 0 ∧ ab 133 o.toNatClampNeg = 0) from by first | (exact Or.inl ⟨rx3.1, rq_no rx3.2 hpre1⟩)) (show zfP 84 (mI S9) = fq from by first | (exact ((zf_fr (P := 84) (fun _ => zG_z h9 rfl)).trans hpre6)))))
  have hI_S1 := zB_up_zI hI hL_S1
  have rp0_S1 : xB S1 (mR S 70) := by
    have z := rp0_S1
    (try rw [show mI S 65 = f 65 from funext (fun k => zG_z hI rfl)] at z)
    (try rw [show mI S 64 1 = f 64 1 from zG_z hI rfl] at z)
    exact z
  have rp1_S1 : aS 88 S1 = (aS 88 S) := by
    have z := rp1_S1
    (try rw [show mI S 65 = f 65 from funext (fun k => zG_z hI rfl)] at z)
    (try rw [show mI S 64 1 = f 64 1 from zG_z hI rfl] at z)
    exact z
  have rp2_S1 : v2 = zTa (mR S 70) o := by
    have z := rp2_S1
    (try rw [show mI S 65 = f 65 from funext (fun k => zG_z hI rfl)] at z)
    (try rw [show mI S 64 1 = f 64 1 from zG_z hI rfl] at z)
    exact z
  have rp3_S1 : zRq (aS 75 S) o := by
    have z := rp3_S1
    (try rw [show mI S 65 = f 65 from funext (fun k => zG_z hI rfl)] at z)
    (try rw [show mI S 64 1 = f 64 1 from zG_z hI rfl] at z)
    exact z
  have rp4_S1 : kC S1 = (kC S) := by
    have z := rp4_S1
    (try rw [show mI S 65 = f 65 from funext (fun k => zG_z hI rfl)] at z)
    (try rw [show mI S 64 1 = f 64 1 from zG_z hI rfl] at z)
    exact z
  obtain ⟨c3, hc, th_c3⟩ := hq_v2
  have rg_c3 : zTa (mR S 70) o = some c3 := rp2_S1.symm.trans hc
  refine ⟨c3, hc, ?_⟩
  have b2 := i_bd b
  have li3 : (0 : Int32).toInt = 0 := rfl
  refine zd (fun h4 => ?_) (fun h4 => ?_)
  · skip
    have g5 := i_eq h4
    refine ⟨zG_n hI_S1 th_c3, ?_⟩
    have b6 := i_bd (mI S1 c3 7)
    refine zd (fun h7 => ?_) (fun h7 => ?_)
    · skip
      have g8 := i_eq h7
      exact KX 6 _ (by decide) hI_S1 (show xB S1 (mR S1 70) from by first | (exact xB_x (xC_o (W := 75) rp0_S1).2)) (show aS 88 S1 = ab from by first | (exact (xC_o (W := 88) rp0_S1).1.trans (rp1_S1.trans hpre1))) (show cC ab [] (kC S1) B from by first | (rw [(xK_o (W := 88) rp0_S1 rfl).2, rp4_S1]; exact hpre2) | (exact hpre2)) (show (6 = 4 ∧ ¬ zRq ab o) ∨ (6 = 6 ∧ zRq ab o ∧ b = 0 ∧ ab 133 o.toNatClampNeg = 0) from by first | (have ty := xB_th (W := 88) rp0_S1 rg_c3; have e7 := ty.2.2.2.2.2.2.1; rw [(rp1_S1.trans hpre1)] at e7; exact Or.inr ⟨rfl, (rq_up rp3_S1 hpre1), by assumption, by rw [← e7]; assumption⟩)) (show zfP 84 (mI S1) = fq from by first | (exact ((zf_fr (P := 84) (S₉ := S1) (S := S) (fun _ => zG_z hL_S1 rfl)).trans hpre6)))
    · skip
      have g9 := i_ne h7
      refine zd (fun h10 => ?_) (fun h10 => ?_)
      · skip
        have g11 := i_eq h10
        have li12 : (-1 : Int32).toInt = -1 := rfl
        refine sp_97_69_sk (ab := (aS 88 S1)) (R := (mR S 70)) (W := 88) (y := (o)) (kk := (kC S1)) c3 ((-1 : Int32)) (by omega) (by omega) (zB_dn_zI hI_S1) th_c3 (show xB S1 (mR S 70) from by first | (exact (xC_o (W := 75) rp0_S1).2)) (show aS 88 S1 = (aS 88 S1) from by first | (exact rfl)) (show xW 88 from by first | (exact xW88) | (exact xW75)) (show zTa (mR S 70) (o) = some c3 from by first | (exact rg_c3)) (show kC S1 = (kC S1) from by first | (exact rfl)) (fun S12 hL_S12 rp0_S12 rp1_S12 rp2_S12 => zv_n ⟨zG_T hL_S12, ?_⟩)
        have hI_S12 := zB_up_zI hI_S1 hL_S12
        have rp0_S12 : xB S12 (mR S 70) := by
          have z := rp0_S12
          (try rw [show mI S1 65 = f 65 from funext (fun k => zG_z hI_S1 rfl)] at z)
          (try rw [show mI S1 64 1 = f 64 1 from zG_z hI_S1 rfl] at z)
          exact z
        have rp1_S12 : aS 88 S12 = ma_u (aS 88 S1) 133 (o).toNatClampNeg ((aS 88 S1) 133 (o).toNatClampNeg + (-1 : Int32)) := by
          have z := rp1_S12
          (try rw [show mI S1 65 = f 65 from funext (fun k => zG_z hI_S1 rfl)] at z)
          (try rw [show mI S1 64 1 = f 64 1 from zG_z hI_S1 rfl] at z)
          exact z
        have rp2_S12 : ∀ n, kC S12 n = (kC S1) n + (if n = (o).toNatClampNeg then (-1 : Int32) else 0) := by
          have z := rp2_S12
          (try rw [show mI S1 65 = f 65 from funext (fun k => zG_z hI_S1 rfl)] at z)
          (try rw [show mI S1 64 1 = f 64 1 from zG_z hI_S1 rfl] at z)
          exact z
        refine sp_24_84_sk (ab := (aS 88 S12)) (W := 88) (kk := (kC S12)) (y := (o)) (B := (B + 1)) (fq := (zfP 84 (mI S12))) (n0 := (zN0 S12)) ((some c3)) (by omega) (by omega) (zB_dn_zJ84 hI_S12) (fun _ z => by cases z; exact th_c3) (show xB S12 (mR S12 70) from by first | (exact xB_x (xC_o (W := 88) rp0_S12).2)) (show aS 88 S12 = (aS 88 S12) from by first | (exact rfl)) (show xW 88 from by first | (exact xW88) | (exact xW75)) (show (some c3) = zTa (mR S12 70) (o) from by first | (rw [rp0_S12.1]; exact rg_c3.symm) | (exact rg_c3.symm)) (show kC S12 = (kC S12) from by first | (exact rfl)) (show cC (aS 88 S12) [] (kC S12) (B + 1) from by first | (have hl := rp1_S12; rw [(rp1_S1.trans hpre1)] at hl; have e7 := (xB_th (W := 88) rp0_S1 rg_c3).2.2.2.2.2.2.1; rw [(rp1_S1.trans hpre1)] at e7; rw [hl]; refine C_hx hpre2 (by have q := (rq_up rp3_S1 hpre1); exact al_of q) hpre3 (Or.inr ⟨rfl, by rw [← e7]; assumption⟩) (fun n => ?_); have q := rp2_S12 n; rw [rp4_S1] at q; exact q) | (exact absurd (show b = 0 by assumption) (show ¬ b = 0 by assumption))) (show cOk (aS 88 S12) (o) from by first | (have hl := rp1_S12; rw [(rp1_S1.trans hpre1)] at hl; rw [hl]; exact (cOk_cg (u_al (by decide))).mpr (Or.inr (by have q := (rq_up rp3_S1 hpre1); exact al_of q)))) (show (B + 1) ≤ 1000000 from by first | (exact hpre3)) (show zfP 84 (mI S12) = (zfP 84 (mI S12)) from by first | (exact rfl)) (show zN0 S12 = (zN0 S12) from by first | (exact rfl)) (fun S14 hL_S14 rp0_S14 rp1_S14 rp2_S14 rp3_S14 => zv_n ⟨zG_T hL_S14, ?_⟩)
        have hI_S14 := zB_up_zJ84 hI_S12 hL_S14
        have rp0_S14 : xB S14 (mR S14 70) := by
          have z := rp0_S14
          (try rw [show mI S12 65 = f 65 from funext (fun k => zG_z hI_S12 rfl)] at z)
          (try rw [show mI S12 64 1 = f 64 1 from zG_z hI_S12 rfl] at z)
          exact z
        have rp1_S14 : aS 88 S14 = cLe (aS 88 S12) (o) ∧ cC (aS 88 S14) [] (kC S14) (B + 1) := by
          have z := rp1_S14
          (try rw [show mI S12 65 = f 65 from funext (fun k => zG_z hI_S12 rfl)] at z)
          (try rw [show mI S12 64 1 = f 64 1 from zG_z hI_S12 rfl] at z)
          exact z
        have rp2_S14 : zfP 84 (mI S14) = (zfP 84 (mI S12)) := by
          have z := rp2_S14
          (try rw [show mI S12 65 = f 65 from funext (fun k => zG_z hI_S12 rfl)] at z)
          (try rw [show mI S12 64 1 = f 64 1 from zG_z hI_S12 rfl] at z)
          exact z
        have rp3_S14 : zN0 S14 = (zN0 S12) := by
          have z := rp3_S14
          (try rw [show mI S12 65 = f 65 from funext (fun k => zG_z hI_S12 rfl)] at z)
          (try rw [show mI S12 64 1 = f 64 1 from zG_z hI_S12 rfl] at z)
          exact z
        refine ⟨zG_n hI_S14 th_c3, ?_⟩
        have b13 := i_bd (mI S14 c3 7)
        exact K ((mI S14 c3 7)) _ hI_S14 trivial (show xB S14 (mR S14 70) from by first | (exact xB_x (xC_o (W := 75) rp0_S14).2)) (show cC (aS 88 S14) [] (kC S14) (B + 1) from by first | (exfalso; omega) | (exact rp1_S14.2)) (show zRq ab o ∧ (¬ b = 0 ∨ ¬ ab 133 o.toNatClampNeg = 0) ∧ aS 88 S14 = cLe (ma_u ab 133 o.toNatClampNeg (ab 133 o.toNatClampNeg + (if b = 0 then -1 else 1))) o ∧ (mI S14 c3 7) = ab 133 o.toNatClampNeg + (if b = 0 then -1 else 1) from by first | (exfalso; omega) | (have ty := xB_th (W := 88) rp0_S1 rg_c3; have e7 := ty.2.2.2.2.2.2.1; rw [(rp1_S1.trans hpre1)] at e7; have t2 := xB_th (W := 88) rp0_S12 rg_c3; have f7 := t2.2.2.2.2.2.2.1; have hl := rp1_S12; rw [(rp1_S1.trans hpre1)] at hl; rw [hl, xu_s] at f7; have v7 := (n0_k rp3_S14 th_c3.1 (Or.inr rfl)).trans f7; have np := rp1_S14.1; rw [hl] at np; refine ⟨(rq_up rp3_S1 hpre1), Or.inl (by assumption), ?_, ?_⟩; (rw [np, if_neg (by assumption)]); (rw [if_neg (by assumption)]; exact v7)) | (have ty := xB_th (W := 88) rp0_S1 rg_c3; have e7 := ty.2.2.2.2.2.2.1; rw [(rp1_S1.trans hpre1)] at e7; have t2 := xB_th (W := 88) rp0_S12 rg_c3; have f7 := t2.2.2.2.2.2.2.1; have hl := rp1_S12; rw [(rp1_S1.trans hpre1)] at hl; rw [hl, xu_s] at f7; have v7 := (n0_k rp3_S14 th_c3.1 (Or.inr rfl)).trans f7; have np := rp1_S14.1; rw [hl] at np; refine ⟨(rq_up rp3_S1 hpre1), Or.inr (by rw [← e7]; assumption), ?_, ?_⟩; (rw [np, if_pos (by assumption)]); (rw [if_pos (by assumption)]; exact v7))) (show zfP 84 (mI S14) = fq from by first | (exact (rp2_S14.trans ((zf_fr (P := 84) (S₉ := S12) (S := S1) (fun _ => zG_z hL_S12 rfl)).trans ((zf_fr (P := 84) (S₉ := S1) (S := S) (fun _ => zG_z hL_S1 rfl)).trans hpre6)))))
      · skip
        have g14 := i_ne h10
        have li15 : (1 : Int32).toInt = 1 := rfl
        refine sp_97_69_sk (ab := (aS 88 S1)) (R := (mR S 70)) (W := 88) (y := (o)) (kk := (kC S1)) c3 ((1 : Int32)) (by omega) (by omega) (zB_dn_zI hI_S1) th_c3 (show xB S1 (mR S 70) from by first | (exact (xC_o (W := 75) rp0_S1).2)) (show aS 88 S1 = (aS 88 S1) from by first | (exact rfl)) (show xW 88 from by first | (exact xW88) | (exact xW75)) (show zTa (mR S 70) (o) = some c3 from by first | (exact rg_c3)) (show kC S1 = (kC S1) from by first | (exact rfl)) (fun S16 hL_S16 rp0_S16 rp1_S16 rp2_S16 => zv_n ⟨zG_T hL_S16, ?_⟩)
        have hI_S16 := zB_up_zI hI_S1 hL_S16
        have rp0_S16 : xB S16 (mR S 70) := by
          have z := rp0_S16
          (try rw [show mI S1 65 = f 65 from funext (fun k => zG_z hI_S1 rfl)] at z)
          (try rw [show mI S1 64 1 = f 64 1 from zG_z hI_S1 rfl] at z)
          exact z
        have rp1_S16 : aS 88 S16 = ma_u (aS 88 S1) 133 (o).toNatClampNeg ((aS 88 S1) 133 (o).toNatClampNeg + (1 : Int32)) := by
          have z := rp1_S16
          (try rw [show mI S1 65 = f 65 from funext (fun k => zG_z hI_S1 rfl)] at z)
          (try rw [show mI S1 64 1 = f 64 1 from zG_z hI_S1 rfl] at z)
          exact z
        have rp2_S16 : ∀ n, kC S16 n = (kC S1) n + (if n = (o).toNatClampNeg then (1 : Int32) else 0) := by
          have z := rp2_S16
          (try rw [show mI S1 65 = f 65 from funext (fun k => zG_z hI_S1 rfl)] at z)
          (try rw [show mI S1 64 1 = f 64 1 from zG_z hI_S1 rfl] at z)
          exact z
        refine sp_24_84_sk (ab := (aS 88 S16)) (W := 88) (kk := (kC S16)) (y := (o)) (B := (B + 1)) (fq := (zfP 84 (mI S16))) (n0 := (zN0 S16)) ((some c3)) (by omega) (by omega) (zB_dn_zJ84 hI_S16) (fun _ z => by cases z; exact th_c3) (show xB S16 (mR S16 70) from by first | (exact xB_x (xC_o (W := 88) rp0_S16).2)) (show aS 88 S16 = (aS 88 S16) from by first | (exact rfl)) (show xW 88 from by first | (exact xW88) | (exact xW75)) (show (some c3) = zTa (mR S16 70) (o) from by first | (rw [rp0_S16.1]; exact rg_c3.symm) | (exact rg_c3.symm)) (show kC S16 = (kC S16) from by first | (exact rfl)) (show cC (aS 88 S16) [] (kC S16) (B + 1) from by first | (have hl := rp1_S16; rw [(rp1_S1.trans hpre1)] at hl; have e7 := (xB_th (W := 88) rp0_S1 rg_c3).2.2.2.2.2.2.1; rw [(rp1_S1.trans hpre1)] at e7; rw [hl]; refine C_hx hpre2 (by have q := (rq_up rp3_S1 hpre1); exact al_of q) hpre3 (Or.inl rfl) (fun n => ?_); have q := rp2_S16 n; rw [rp4_S1] at q; exact q) | (exact absurd (show b = 0 by assumption) (show ¬ b = 0 by assumption))) (show cOk (aS 88 S16) (o) from by first | (have hl := rp1_S16; rw [(rp1_S1.trans hpre1)] at hl; rw [hl]; exact (cOk_cg (u_al (by decide))).mpr (Or.inr (by have q := (rq_up rp3_S1 hpre1); exact al_of q)))) (show (B + 1) ≤ 1000000 from by first | (exact hpre3)) (show zfP 84 (mI S16) = (zfP 84 (mI S16)) from by first | (exact rfl)) (show zN0 S16 = (zN0 S16) from by first | (exact rfl)) (fun S18 hL_S18 rp0_S18 rp1_S18 rp2_S18 rp3_S18 => zv_n ⟨zG_T hL_S18, ?_⟩)
        have hI_S18 := zB_up_zJ84 hI_S16 hL_S18
        have rp0_S18 : xB S18 (mR S18 70) := by
          have z := rp0_S18
          (try rw [show mI S16 65 = f 65 from funext (fun k => zG_z hI_S16 rfl)] at z)
          (try rw [show mI S16 64 1 = f 64 1 from zG_z hI_S16 rfl] at z)
          exact z
        have rp1_S18 : aS 88 S18 = cLe (aS 88 S16) (o) ∧ cC (aS 88 S18) [] (kC S18) (B + 1) := by
          have z := rp1_S18
          (try rw [show mI S16 65 = f 65 from funext (fun k => zG_z hI_S16 rfl)] at z)
          (try rw [show mI S16 64 1 = f 64 1 from zG_z hI_S16 rfl] at z)
          exact z
        have rp2_S18 : zfP 84 (mI S18) = (zfP 84 (mI S16)) := by
          have z := rp2_S18
          (try rw [show mI S16 65 = f 65 from funext (fun k => zG_z hI_S16 rfl)] at z)
          (try rw [show mI S16 64 1 = f 64 1 from zG_z hI_S16 rfl] at z)
          exact z
        have rp3_S18 : zN0 S18 = (zN0 S16) := by
          have z := rp3_S18
          (try rw [show mI S16 65 = f 65 from funext (fun k => zG_z hI_S16 rfl)] at z)
          (try rw [show mI S16 64 1 = f 64 1 from zG_z hI_S16 rfl] at z)
          exact z
        refine ⟨zG_n hI_S18 th_c3, ?_⟩
        have b16 := i_bd (mI S18 c3 7)
        exact K ((mI S18 c3 7)) _ hI_S18 trivial (show xB S18 (mR S18 70) from by first | (exact xB_x (xC_o (W := 75) rp0_S18).2)) (show cC (aS 88 S18) [] (kC S18) (B + 1) from by first | (exfalso; omega) | (exact rp1_S18.2)) (show zRq ab o ∧ (¬ b = 0 ∨ ¬ ab 133 o.toNatClampNeg = 0) ∧ aS 88 S18 = cLe (ma_u ab 133 o.toNatClampNeg (ab 133 o.toNatClampNeg + (if b = 0 then -1 else 1))) o ∧ (mI S18 c3 7) = ab 133 o.toNatClampNeg + (if b = 0 then -1 else 1) from by first | (exfalso; omega) | (have ty := xB_th (W := 88) rp0_S1 rg_c3; have e7 := ty.2.2.2.2.2.2.1; rw [(rp1_S1.trans hpre1)] at e7; have t2 := xB_th (W := 88) rp0_S16 rg_c3; have f7 := t2.2.2.2.2.2.2.1; have hl := rp1_S16; rw [(rp1_S1.trans hpre1)] at hl; rw [hl, xu_s] at f7; have v7 := (n0_k rp3_S18 th_c3.1 (Or.inr rfl)).trans f7; have np := rp1_S18.1; rw [hl] at np; refine ⟨(rq_up rp3_S1 hpre1), Or.inl (by assumption), ?_, ?_⟩; (rw [np, if_neg (by assumption)]); (rw [if_neg (by assumption)]; exact v7)) | (have ty := xB_th (W := 88) rp0_S1 rg_c3; have e7 := ty.2.2.2.2.2.2.1; rw [(rp1_S1.trans hpre1)] at e7; have t2 := xB_th (W := 88) rp0_S16 rg_c3; have f7 := t2.2.2.2.2.2.2.1; have hl := rp1_S16; rw [(rp1_S1.trans hpre1)] at hl; rw [hl, xu_s] at f7; have v7 := (n0_k rp3_S18 th_c3.1 (Or.inr rfl)).trans f7; have np := rp1_S18.1; rw [hl] at np; refine ⟨(rq_up rp3_S1 hpre1), Or.inr (by rw [← e7]; assumption), ?_, ?_⟩; (rw [np, if_pos (by assumption)]); (rw [if_pos (by assumption)]; exact v7))) (show zfP 84 (mI S18) = fq from by first | (exact (rp2_S18.trans ((zf_fr (P := 84) (S₉ := S16) (S := S1) (fun _ => zG_z hL_S16 rfl)).trans ((zf_fr (P := 84) (S₉ := S1) (S := S) (fun _ => zG_z hL_S1 rfl)).trans hpre6)))))
  · skip
    have g17 := i_ne h4
    refine zd (fun h18 => ?_) (fun h18 => ?_)
    · skip
      have g19 := i_eq h18
      have li20 : (-1 : Int32).toInt = -1 := rfl
      refine sp_97_69_sk (ab := (aS 88 S1)) (R := (mR S 70)) (W := 88) (y := (o)) (kk := (kC S1)) c3 ((-1 : Int32)) (by omega) (by omega) (zB_dn_zI hI_S1) th_c3 (show xB S1 (mR S 70) from by first | (exact (xC_o (W := 75) rp0_S1).2)) (show aS 88 S1 = (aS 88 S1) from by first | (exact rfl)) (show xW 88 from by first | (exact xW88) | (exact xW75)) (show zTa (mR S 70) (o) = some c3 from by first | (exact rg_c3)) (show kC S1 = (kC S1) from by first | (exact rfl)) (fun S4 hL_S4 rp0_S4 rp1_S4 rp2_S4 => zv_n ⟨zG_T hL_S4, ?_⟩)
      have hI_S4 := zB_up_zI hI_S1 hL_S4
      have rp0_S4 : xB S4 (mR S 70) := by
        have z := rp0_S4
        (try rw [show mI S1 65 = f 65 from funext (fun k => zG_z hI_S1 rfl)] at z)
        (try rw [show mI S1 64 1 = f 64 1 from zG_z hI_S1 rfl] at z)
        exact z
      have rp1_S4 : aS 88 S4 = ma_u (aS 88 S1) 133 (o).toNatClampNeg ((aS 88 S1) 133 (o).toNatClampNeg + (-1 : Int32)) := by
        have z := rp1_S4
        (try rw [show mI S1 65 = f 65 from funext (fun k => zG_z hI_S1 rfl)] at z)
        (try rw [show mI S1 64 1 = f 64 1 from zG_z hI_S1 rfl] at z)
        exact z
      have rp2_S4 : ∀ n, kC S4 n = (kC S1) n + (if n = (o).toNatClampNeg then (-1 : Int32) else 0) := by
        have z := rp2_S4
        (try rw [show mI S1 65 = f 65 from funext (fun k => zG_z hI_S1 rfl)] at z)
        (try rw [show mI S1 64 1 = f 64 1 from zG_z hI_S1 rfl] at z)
        exact z
      refine sp_24_84_sk (ab := (aS 88 S4)) (W := 88) (kk := (kC S4)) (y := (o)) (B := (B + 1)) (fq := (zfP 84 (mI S4))) (n0 := (zN0 S4)) ((some c3)) (by omega) (by omega) (zB_dn_zJ84 hI_S4) (fun _ z => by cases z; exact th_c3) (show xB S4 (mR S4 70) from by first | (exact xB_x (xC_o (W := 88) rp0_S4).2)) (show aS 88 S4 = (aS 88 S4) from by first | (exact rfl)) (show xW 88 from by first | (exact xW88) | (exact xW75)) (show (some c3) = zTa (mR S4 70) (o) from by first | (rw [rp0_S4.1]; exact rg_c3.symm) | (exact rg_c3.symm)) (show kC S4 = (kC S4) from by first | (exact rfl)) (show cC (aS 88 S4) [] (kC S4) (B + 1) from by first | (have hl := rp1_S4; rw [(rp1_S1.trans hpre1)] at hl; have e7 := (xB_th (W := 88) rp0_S1 rg_c3).2.2.2.2.2.2.1; rw [(rp1_S1.trans hpre1)] at e7; rw [hl]; refine C_hx hpre2 (by have q := (rq_up rp3_S1 hpre1); exact al_of q) hpre3 (Or.inr ⟨rfl, by rw [← e7]; assumption⟩) (fun n => ?_); have q := rp2_S4 n; rw [rp4_S1] at q; exact q) | (exact absurd (show b = 0 by assumption) (show ¬ b = 0 by assumption))) (show cOk (aS 88 S4) (o) from by first | (have hl := rp1_S4; rw [(rp1_S1.trans hpre1)] at hl; rw [hl]; exact (cOk_cg (u_al (by decide))).mpr (Or.inr (by have q := (rq_up rp3_S1 hpre1); exact al_of q)))) (show (B + 1) ≤ 1000000 from by first | (exact hpre3)) (show zfP 84 (mI S4) = (zfP 84 (mI S4)) from by first | (exact rfl)) (show zN0 S4 = (zN0 S4) from by first | (exact rfl)) (fun S6 hL_S6 rp0_S6 rp1_S6 rp2_S6 rp3_S6 => zv_n ⟨zG_T hL_S6, ?_⟩)
      have hI_S6 := zB_up_zJ84 hI_S4 hL_S6
      have rp0_S6 : xB S6 (mR S6 70) := by
        have z := rp0_S6
        (try rw [show mI S4 65 = f 65 from funext (fun k => zG_z hI_S4 rfl)] at z)
        (try rw [show mI S4 64 1 = f 64 1 from zG_z hI_S4 rfl] at z)
        exact z
      have rp1_S6 : aS 88 S6 = cLe (aS 88 S4) (o) ∧ cC (aS 88 S6) [] (kC S6) (B + 1) := by
        have z := rp1_S6
        (try rw [show mI S4 65 = f 65 from funext (fun k => zG_z hI_S4 rfl)] at z)
        (try rw [show mI S4 64 1 = f 64 1 from zG_z hI_S4 rfl] at z)
        exact z
      have rp2_S6 : zfP 84 (mI S6) = (zfP 84 (mI S4)) := by
        have z := rp2_S6
        (try rw [show mI S4 65 = f 65 from funext (fun k => zG_z hI_S4 rfl)] at z)
        (try rw [show mI S4 64 1 = f 64 1 from zG_z hI_S4 rfl] at z)
        exact z
      have rp3_S6 : zN0 S6 = (zN0 S4) := by
        have z := rp3_S6
        (try rw [show mI S4 65 = f 65 from funext (fun k => zG_z hI_S4 rfl)] at z)
        (try rw [show mI S4 64 1 = f 64 1 from zG_z hI_S4 rfl] at z)
        exact z
      refine ⟨zG_n hI_S6 th_c3, ?_⟩
      have b21 := i_bd (mI S6 c3 7)
      exact K ((mI S6 c3 7)) _ hI_S6 trivial (show xB S6 (mR S6 70) from by first | (exact xB_x (xC_o (W := 75) rp0_S6).2)) (show cC (aS 88 S6) [] (kC S6) (B + 1) from by first | (exfalso; omega) | (exact rp1_S6.2)) (show zRq ab o ∧ (¬ b = 0 ∨ ¬ ab 133 o.toNatClampNeg = 0) ∧ aS 88 S6 = cLe (ma_u ab 133 o.toNatClampNeg (ab 133 o.toNatClampNeg + (if b = 0 then -1 else 1))) o ∧ (mI S6 c3 7) = ab 133 o.toNatClampNeg + (if b = 0 then -1 else 1) from by first | (exfalso; omega) | (have ty := xB_th (W := 88) rp0_S1 rg_c3; have e7 := ty.2.2.2.2.2.2.1; rw [(rp1_S1.trans hpre1)] at e7; have t2 := xB_th (W := 88) rp0_S4 rg_c3; have f7 := t2.2.2.2.2.2.2.1; have hl := rp1_S4; rw [(rp1_S1.trans hpre1)] at hl; rw [hl, xu_s] at f7; have v7 := (n0_k rp3_S6 th_c3.1 (Or.inr rfl)).trans f7; have np := rp1_S6.1; rw [hl] at np; refine ⟨(rq_up rp3_S1 hpre1), Or.inl (by assumption), ?_, ?_⟩; (rw [np, if_neg (by assumption)]); (rw [if_neg (by assumption)]; exact v7)) | (have ty := xB_th (W := 88) rp0_S1 rg_c3; have e7 := ty.2.2.2.2.2.2.1; rw [(rp1_S1.trans hpre1)] at e7; have t2 := xB_th (W := 88) rp0_S4 rg_c3; have f7 := t2.2.2.2.2.2.2.1; have hl := rp1_S4; rw [(rp1_S1.trans hpre1)] at hl; rw [hl, xu_s] at f7; have v7 := (n0_k rp3_S6 th_c3.1 (Or.inr rfl)).trans f7; have np := rp1_S6.1; rw [hl] at np; refine ⟨(rq_up rp3_S1 hpre1), Or.inr (by rw [← e7]; assumption), ?_, ?_⟩; (rw [np, if_pos (by assumption)]); (rw [if_pos (by assumption)]; exact v7))) (show zfP 84 (mI S6) = fq from by first | (exact (rp2_S6.trans ((zf_fr (P := 84) (S₉ := S4) (S := S1) (fun _ => zG_z hL_S4 rfl)).trans ((zf_fr (P := 84) (S₉ := S1) (S := S) (fun _ => zG_z hL_S1 rfl)).trans hpre6)))))
    · skip
      have g22 := i_ne h18
      have li23 : (1 : Int32).toInt = 1 := rfl
      refine sp_97_69_sk (ab := (aS 88 S1)) (R := (mR S 70)) (W := 88) (y := (o)) (kk := (kC S1)) c3 ((1 : Int32)) (by omega) (by omega) (zB_dn_zI hI_S1) th_c3 (show xB S1 (mR S 70) from by first | (exact (xC_o (W := 75) rp0_S1).2)) (show aS 88 S1 = (aS 88 S1) from by first | (exact rfl)) (show xW 88 from by first | (exact xW88) | (exact xW75)) (show zTa (mR S 70) (o) = some c3 from by first | (exact rg_c3)) (show kC S1 = (kC S1) from by first | (exact rfl)) (fun S8 hL_S8 rp0_S8 rp1_S8 rp2_S8 => zv_n ⟨zG_T hL_S8, ?_⟩)
      have hI_S8 := zB_up_zI hI_S1 hL_S8
      have rp0_S8 : xB S8 (mR S 70) := by
        have z := rp0_S8
        (try rw [show mI S1 65 = f 65 from funext (fun k => zG_z hI_S1 rfl)] at z)
        (try rw [show mI S1 64 1 = f 64 1 from zG_z hI_S1 rfl] at z)
        exact z
      have rp1_S8 : aS 88 S8 = ma_u (aS 88 S1) 133 (o).toNatClampNeg ((aS 88 S1) 133 (o).toNatClampNeg + (1 : Int32)) := by
        have z := rp1_S8
        (try rw [show mI S1 65 = f 65 from funext (fun k => zG_z hI_S1 rfl)] at z)
        (try rw [show mI S1 64 1 = f 64 1 from zG_z hI_S1 rfl] at z)
        exact z
      have rp2_S8 : ∀ n, kC S8 n = (kC S1) n + (if n = (o).toNatClampNeg then (1 : Int32) else 0) := by
        have z := rp2_S8
        (try rw [show mI S1 65 = f 65 from funext (fun k => zG_z hI_S1 rfl)] at z)
        (try rw [show mI S1 64 1 = f 64 1 from zG_z hI_S1 rfl] at z)
        exact z
      refine sp_24_84_sk (ab := (aS 88 S8)) (W := 88) (kk := (kC S8)) (y := (o)) (B := (B + 1)) (fq := (zfP 84 (mI S8))) (n0 := (zN0 S8)) ((some c3)) (by omega) (by omega) (zB_dn_zJ84 hI_S8) (fun _ z => by cases z; exact th_c3) (show xB S8 (mR S8 70) from by first | (exact xB_x (xC_o (W := 88) rp0_S8).2)) (show aS 88 S8 = (aS 88 S8) from by first | (exact rfl)) (show xW 88 from by first | (exact xW88) | (exact xW75)) (show (some c3) = zTa (mR S8 70) (o) from by first | (rw [rp0_S8.1]; exact rg_c3.symm) | (exact rg_c3.symm)) (show kC S8 = (kC S8) from by first | (exact rfl)) (show cC (aS 88 S8) [] (kC S8) (B + 1) from by first | (have hl := rp1_S8; rw [(rp1_S1.trans hpre1)] at hl; have e7 := (xB_th (W := 88) rp0_S1 rg_c3).2.2.2.2.2.2.1; rw [(rp1_S1.trans hpre1)] at e7; rw [hl]; refine C_hx hpre2 (by have q := (rq_up rp3_S1 hpre1); exact al_of q) hpre3 (Or.inl rfl) (fun n => ?_); have q := rp2_S8 n; rw [rp4_S1] at q; exact q) | (exact absurd (show b = 0 by assumption) (show ¬ b = 0 by assumption))) (show cOk (aS 88 S8) (o) from by first | (have hl := rp1_S8; rw [(rp1_S1.trans hpre1)] at hl; rw [hl]; exact (cOk_cg (u_al (by decide))).mpr (Or.inr (by have q := (rq_up rp3_S1 hpre1); exact al_of q)))) (show (B + 1) ≤ 1000000 from by first | (exact hpre3)) (show zfP 84 (mI S8) = (zfP 84 (mI S8)) from by first | (exact rfl)) (show zN0 S8 = (zN0 S8) from by first | (exact rfl)) (fun S10 hL_S10 rp0_S10 rp1_S10 rp2_S10 rp3_S10 => zv_n ⟨zG_T hL_S10, ?_⟩)
      have hI_S10 := zB_up_zJ84 hI_S8 hL_S10
      have rp0_S10 : xB S10 (mR S10 70) := by
        have z := rp0_S10
        (try rw [show mI S8 65 = f 65 from funext (fun k => zG_z hI_S8 rfl)] at z)
        (try rw [show mI S8 64 1 = f 64 1 from zG_z hI_S8 rfl] at z)
        exact z
      have rp1_S10 : aS 88 S10 = cLe (aS 88 S8) (o) ∧ cC (aS 88 S10) [] (kC S10) (B + 1) := by
        have z := rp1_S10
        (try rw [show mI S8 65 = f 65 from funext (fun k => zG_z hI_S8 rfl)] at z)
        (try rw [show mI S8 64 1 = f 64 1 from zG_z hI_S8 rfl] at z)
        exact z
      have rp2_S10 : zfP 84 (mI S10) = (zfP 84 (mI S8)) := by
        have z := rp2_S10
        (try rw [show mI S8 65 = f 65 from funext (fun k => zG_z hI_S8 rfl)] at z)
        (try rw [show mI S8 64 1 = f 64 1 from zG_z hI_S8 rfl] at z)
        exact z
      have rp3_S10 : zN0 S10 = (zN0 S8) := by
        have z := rp3_S10
        (try rw [show mI S8 65 = f 65 from funext (fun k => zG_z hI_S8 rfl)] at z)
        (try rw [show mI S8 64 1 = f 64 1 from zG_z hI_S8 rfl] at z)
        exact z
      refine ⟨zG_n hI_S10 th_c3, ?_⟩
      have b24 := i_bd (mI S10 c3 7)
      exact K ((mI S10 c3 7)) _ hI_S10 trivial (show xB S10 (mR S10 70) from by first | (exact xB_x (xC_o (W := 75) rp0_S10).2)) (show cC (aS 88 S10) [] (kC S10) (B + 1) from by first | (exfalso; omega) | (exact rp1_S10.2)) (show zRq ab o ∧ (¬ b = 0 ∨ ¬ ab 133 o.toNatClampNeg = 0) ∧ aS 88 S10 = cLe (ma_u ab 133 o.toNatClampNeg (ab 133 o.toNatClampNeg + (if b = 0 then -1 else 1))) o ∧ (mI S10 c3 7) = ab 133 o.toNatClampNeg + (if b = 0 then -1 else 1) from by first | (exfalso; omega) | (have ty := xB_th (W := 88) rp0_S1 rg_c3; have e7 := ty.2.2.2.2.2.2.1; rw [(rp1_S1.trans hpre1)] at e7; have t2 := xB_th (W := 88) rp0_S8 rg_c3; have f7 := t2.2.2.2.2.2.2.1; have hl := rp1_S8; rw [(rp1_S1.trans hpre1)] at hl; rw [hl, xu_s] at f7; have v7 := (n0_k rp3_S10 th_c3.1 (Or.inr rfl)).trans f7; have np := rp1_S10.1; rw [hl] at np; refine ⟨(rq_up rp3_S1 hpre1), Or.inl (by assumption), ?_, ?_⟩; (rw [np, if_neg (by assumption)]); (rw [if_neg (by assumption)]; exact v7)) | (have ty := xB_th (W := 88) rp0_S1 rg_c3; have e7 := ty.2.2.2.2.2.2.1; rw [(rp1_S1.trans hpre1)] at e7; have t2 := xB_th (W := 88) rp0_S8 rg_c3; have f7 := t2.2.2.2.2.2.2.1; have hl := rp1_S8; rw [(rp1_S1.trans hpre1)] at hl; rw [hl, xu_s] at f7; have v7 := (n0_k rp3_S10 th_c3.1 (Or.inr rfl)).trans f7; have np := rp1_S10.1; rw [hl] at np; refine ⟨(rq_up rp3_S1 hpre1), Or.inr (by rw [← e7]; assumption), ?_, ?_⟩; (rw [np, if_pos (by assumption)]); (rw [if_pos (by assumption)]; exact v7))) (show zfP 84 (mI S10) = fq from by first | (exact (rp2_S10.trans ((zf_fr (P := 84) (S₉ := S8) (S := S1) (fun _ => zG_z hL_S8 rfl)).trans ((zf_fr (P := 84) (S₉ := S1) (S := S) (fun _ => zG_z hL_S1 rfl)).trans hpre6)))))

/-! from 95.m39 -/
/-! COUNTS, the class (written by wip/tools/gen20k.py) -/
/-! COUNTS: a cleaning keeps the counts right -/
section C8
variable {a b e : Nat → Nat → Int32} {K K₉ : Nat → Int32} {x y i d : Int32} {n m k c u : Nat} {B : Int}
theorem Of_8 (h : zOf a b) : zO8 a b := fun c k h1 h2 h3 _ => h c k h1 h2 h3
theorem sp_zo {f : Nat} : zOf a (aSp f a) := fun c k h1 h2 h3 => (aSp_o ⟨h1, h2, h3⟩ f a).symm
theorem O8_sy (h : zO8 a b) : zO8 b a := fun c k h1 h2 h3 h4 => (h c k h1 h2 h3 h4).symm
theorem T_o8 {P : Nat} {S : ma_S} : zO8 (aT P S) (aS 75 S) := fun c k _ _ _ h4 => if_neg h4
theorem o8_r (o : zO8 a b) (h1 : c ≠ 75) (h2 : c ≠ 76) (h3 : c ≠ 77) (h4 : c ≠ 87) : a c = b c := funext (fun k => o c k h1 h2 h3 h4)
theorem o8_al (o : zO8 a b) : xAl a = xAl b := by
  funext n
  unfold xAl
  rw [o8_r o (by decide) (by decide) (by decide) (by decide)]
theorem cQ_o8 (o : zO8 a b) (h : cQI a) : cQI b := by
  obtain ⟨h1, h2, h3⟩ := h
  refine ⟨?_, ?_, fun n hn k => ?_⟩
  · rw [← o8_al o, ← o8_r (c := 130) o (by decide) (by decide) (by decide) (by decide), ← o8_r (c := 128) o (by decide) (by decide) (by decide) (by decide)]
    exact h1
  · unfold qI2
    rw [← o8_al o, ← o8_r (c := 130) o (by decide) (by decide) (by decide) (by decide), ← o8_r (c := 128) o (by decide) (by decide) (by decide) (by decide)]
    exact h2
  · rw [← o8_al o] at hn
    rw [← o8_r (c := 1000 + n) o (by omega) (by omega) (by omega) (by omega)]
    exact h3 n hn k
theorem J_o8 (o : zO8 a b) (h : kJ a K) : kJ b K := by
  obtain ⟨q1, q5, qk⟩ := h
  refine ⟨cQ_o8 o q1, ?_, fun n hn => ?_⟩
  · rw [← o 69 5 (by decide) (by decide) (by decide) (by decide)]
    exact q5
  · rw [← o8_al o] at hn
    rw [← Rf_o8 o]
    exact qk n hn
theorem J_gr (h : kJ a K) (hK : ∀ n, xAl a n → K₉ n = K n + (if (a 69 5).toInt < 512 then Int32.ofNat (cIs y n) else 0)) : kJ (aGr a y) K₉ := by
  obtain ⟨q1, q5, qk⟩ := h
  refine ⟨cQ_gr q1, ?_, fun n hn => ?_⟩
  · by_cases w : (a 69 5).toInt < 512
    · obtain ⟨g1, _⟩ := gr_5 (y := y) w
      have e1 := i_p1 (i := a 69 5) (by omega)
      rw [g1]
      omega
    · rw [(gr_n5 (y := y) w).1]
      exact q5
  · rw [gr_al] at hn
    rw [hK n hn, qk n hn]
    by_cases w : (a 69 5).toInt < 512
    · rw [if_pos w, Rf_gr q5.1 w, Int32.ofInt_add, Int32.ofInt_eq_ofNat]
    · rw [if_neg w, Rf_gn w, Int32.add_zero]
theorem J_rm (h : kJ a K) (h0 : 0 ≤ y.toInt) (hy : xAl a y.toNatClampNeg) (hK : ∀ n, xAl a n → n ≠ y.toNatClampNeg → K₉ n = K n - Int32.ofNat (cOb a y.toNatClampNeg n)) : kJ (aRm a y) K₉ := by
  obtain ⟨q1, q5, qk⟩ := h
  refine ⟨cQ_rm h0 q1, ?_, fun n hn => ?_⟩
  · rw [aRm_o (by decide) ⟨by decide, by decide, by decide, by decide⟩]
    exact q5
  · have w := (rm_al h0).mp hn
    have r := Rf_rm q1 h0 hy w.2
    rw [hK n w.1 w.2, qk n w.1, ← Int32.ofInt_eq_ofNat (n := cOb a y.toNatClampNeg n), ← Int32.ofInt_sub]
    exact congrArg Int32.ofInt (by omega)
theorem C_J (h : cC a [] K B) : kJ a K := by
  obtain ⟨q1, _, _, q5, qk⟩ := C0_un h
  exact ⟨q1, q5, qk⟩
theorem Nd_o8 (o : zO8 a b) (h : cNd a) : cNd b := by
  obtain ⟨n1, n2, n3⟩ := h
  have al := o8_al o
  refine ⟨fun k hk => ?_, fun k hk => ?_, fun u j w => ?_⟩
  · rw [← o 72 k (by decide) (by decide) (by decide) (by decide), ← cOk_cg al]
    exact n1 k hk
  · rw [← o 69 5 (by decide) (by decide) (by decide) (by decide)] at hk
    rw [← o 74 k (by decide) (by decide) (by decide) (by decide), ← cOk_cg al]
    exact n2 k hk
  · have rf : aRef b u j = aRef a u j := (rf_cg (o8_r o (by omega) (by omega) (by omega) (by omega)) (o8_r o (by decide) (by decide) (by decide) (by decide)) (o8_r o (by decide) (by decide) (by decide) (by decide))).symm
    rw [rf, ← cOk_cg al]
    refine n3 u j ?_
    unfold qWp at w ⊢
    rw [al, o8_r (c := 128) o (by decide) (by decide) (by decide) (by decide)]
    exact w
theorem Nd_gr (h : cNd a) (h5 : 0 ≤ (a 69 5).toInt) (hy : xAl a y.toNatClampNeg) : cNd (aGr a y) := by
  obtain ⟨n1, n2, n3⟩ := h
  have al := gr_al (a := a) (y := y)
  refine ⟨fun k hk => ?_, fun k hk => ?_, fun u j h => ?_⟩
  · rw [gr_r (by decide) (by decide) (by decide) (by decide), cOk_cg al]
    exact n1 k hk
  · rw [cOk_cg al]
    by_cases w : (a 69 5).toInt < 512
    · obtain ⟨g1, g2, g3, _⟩ := gr_5 (y := y) w
      have e1 := i_p1 (i := a 69 5) (by omega)
      have c := tn_cast h5
      by_cases z : k = (a 69 5).toNatClampNeg
      · rw [z, g2]
        exact Or.inr hy
      · rw [g3 k z]
        rw [g1, e1] at hk
        exact n2 k (by omega)
    · have g := gr_n5 (y := y) w
      rw [g.2]
      rw [g.1] at hk
      exact n2 k hk
  · rw [gr_ref, cOk_cg al]
    exact n3 u j (Wp_gr.mp h)
theorem Cl_n2 (h : qCl b) (hE : qE0 b) (h5 : ¬ (b 69 5).toInt < 512) (hy : xAl b y.toNatClampNeg) (hy0 : 0 ≤ y.toInt) : qCl (aSp 512 (aCm (aGr b y) y)) := by
  have hc := E0_gr (y := y) hE
  have g := gr_cm (y := y) hc.1
  have al : xAl (aGr b y) = xAl b := gr_al
  have sp := E0_sp g.1
  have o : zOf (aGr b y) (aSp 512 (aCm (aGr b y) y)) := Of_tr g.2.1 sp.2
  have nn : ∀ x, zNn (aSp 512 (aCm (aGr b y) y)) x ↔ zM (fun u => zNn b u ∨ u = y.toNatClampNeg) (zNn b) (zEd b) x := fun x => by
    refine (sp_Nn g.1).trans (zM_cg (fun u => ?_) (fun u => (g.2.2.1 u).trans ((E0_bl hc).trans (by rw [Nn_gr]))) (fun u y2 => (Of_ed g.2.1).trans gr_ed))
    rw [g.2.2.2.1 u, Nn_gr, al]
    constructor
    · rintro (w | w)
      · exact Or.inl w
      · refine Or.inr ?_
        rw [w.2]
        exact (tn_of w.1.1).symm
    · rintro (w | w)
      · exact Or.inl w
      · refine Or.inr ⟨?_, ?_⟩
        · rw [w]
          exact hy
        · rw [w]
          exact (ofN_tn hy0).symm
  have q5 := gr_n5 (y := y) h5
  refine ⟨fun u hu hr => ?_, fun u v hu ha he => ?_⟩
  · rw [← Al_of o, al] at hu
    rw [nn]
    have e2 := Of_r (c := 72) o (by decide) (by decide) (by decide)
    have e4 := Of_r (c := 74) o (by decide) (by decide) (by decide)
    have e9 := Of_r (c := 69) o (by decide) (by decide) (by decide)
    unfold zRl zWl at hr
    rw [← e2, ← e4, ← e9, gr_r (n := 72) (by decide) (by decide) (by decide) (by decide), q5.1, q5.2] at hr
    exact zM_in (Or.inl (h.1 u hu hr))
  · rw [nn] at hu ⊢
    rw [← Al_of o, al] at ha
    have he2 := gr_ed.mp ((Of_ed o).mp he)
    by_cases z : zNn b u
    · exact zM_in (Or.inl (h.2 u v z ha he2))
    · exact zM_cl hu z he2
theorem Gf_all : ∀ (f : Nat) (x : Int32) (a : Nat → Nat → Int32), qI a → qE0 a → qCl a → cNd a → qI (aGf f x a) ∧ qE0 (aGf f x a) ∧ qCl (aGf f x a) ∧ cNd (aGf f x a) ∧ aGf f x a 133 = a 133 := by
  intro f
  induction f with
  | zero => intro x a h h2 h3 h4; exact ⟨h, h2, h3, h4, rfl⟩
  | succ f ih =>
    intro x a h h2 h3 h4
    by_cases w : aGc a x
    · rw [aGf_y w]
      have hx : xAl a x.toNatClampNeg := ⟨by have c := tn_cast w.1; have := w.2.1; omega, w.2.2.1⟩
      have h5 := h.2.2.2.1.2.1
      have s := E0_sp (WQ_cm (y := x) (E0_gr (y := x) h2).1)
      have o : zOf (aGr a x) (aSp 512 (aCm (aGr a x) x)) := Of_tr cm_of s.2
      have cl : qCl (aSp 512 (aCm (aGr a x) x)) := by
        by_cases z : (a 69 5).toInt < 512
        · exact Cl_nx h3 h2 z h5.1 hx w.1
        · exact Cl_n2 h3 h2 z hx w.1
      have r := ih (x + 1) _ (qI_of (I_gr2 h) o) s.1 cl (Nd_o8 (Of_8 o) (Nd_gr h4 h5.1 hx))
      refine ⟨r.1, r.2.1, r.2.2.1, r.2.2.2.1, r.2.2.2.2.trans ?_⟩
      rw [← Of_r (c := 133) o (by decide) (by decide) (by decide)]
      exact gr_r (by decide) (by decide) (by decide) (by decide)
    · rw [aGf_n w]
      exact ih _ _ h h2 h3 h4
theorem Gw_126 : ∀ (f : Nat) (x : Int32) (a : Nat → Nat → Int32), aGf f x a 126 = a 126 := by
  intro f
  induction f with
  | zero => intro x a; rfl
  | succ f ih =>
    intro x a
    by_cases w : aGc a x
    · rw [aGf_y w, ih]
      funext k
      rw [show aSp 512 (aCm (aGr a x) x) 126 k = aCm (aGr a x) x 126 k from aSp_o ⟨by decide, by decide, by decide⟩ 512 _, aCm_o ⟨by decide, by decide, by decide⟩]
      exact congrFun (gr_r (by decide) (by decide) (by decide) (by decide)) k
    · rw [aGf_n w]
      exact ih _ _
theorem Nd_sw (hI : qI a) (h : cNd a) : cNd (aSw a) ∧ ∀ n, xAl (aSw a) n → xAl a n ∧ aSw a 133 n = a 133 n := by
  have o : zOf a (aRA a) := RA_zo
  have g := Gf_all ((aRA a 69 6).toInt - (0 : Int32).toInt).toNat 0 (aRA a) (qI_of hI o) (E0_ra hI) (Cl_ra hI) (Nd_o8 (Of_8 o) h)
  have hb : aGw (aRA a) 0 = aGf ((aRA a 69 6).toInt - (0 : Int32).toInt).toNat 0 (aRA a) := rfl
  rw [← hb] at g
  unfold aSw
  generalize hB : aGw (aRA a) 0 = b at g ⊢
  obtain ⟨gI, gE, gC, ⟨n1, n2, n3⟩, g133⟩ := g
  have hw : (b 75 5).toInt ≤ 0 := gE.1.2.2.2.2.2.1
  have M := Md_mv gI hw
  have al : ∀ n, xAl (aMv b 0) n ↔ xAl b n ∧ b 77 n ≠ 0 := fun n => Md_al gI M
  have hIe := I_mv gI hw
  refine ⟨⟨fun k hk => ?_, fun k hk => ?_, fun u j w => ?_⟩, fun n hn => ?_⟩
  · rw [M.2.1.1 72 (by decide) (by decide) (by decide) (by decide)]
    by_cases z : (b 72 k).toInt < 0
    · exact Or.inl z
    · have q := (n1 k hk).elim (fun w => absurd w z) id
      exact Or.inr ((al _).mpr ⟨q, (gC.1 _ q (Or.inl ⟨k, hk, (ofN_tn (by omega)).symm⟩)).2⟩)
  · rw [M.2.1.2.1] at hk
    rw [M.2.1.1 74 (by decide) (by decide) (by decide) (by decide)]
    by_cases z : (b 74 k).toInt < 0
    · exact Or.inl z
    · have q := (n2 k hk).elim (fun w => absurd w z) id
      exact Or.inr ((al _).mpr ⟨q, (gC.1 _ q (Or.inr ⟨k, hk, (ofN_tn (by omega)).symm⟩)).2⟩)
  · have wa := (al u).mp w.1
    have f := Md_f M wa.1.1 wa.2
    have wb : qWp b u j := ⟨wa.1, w.2.1, by rw [← f.1 128 (by decide) (by decide)]; exact w.2.2⟩
    have q := cwp_i (cQ_I gI) wb
    have cq := tn_cast q.2.1
    have wj := wb.2
    have e : aRef (aMv b 0) u j = aRef b u j := by
      rw [wp_rf hIe w, wp_rf gI wb, f.2, f.1 130 (by decide) (by decide), Md_w gI M wa.1 wa.2 (p := (b 130 u + 1 + j).toNatClampNeg) (by omega) (by omega)]
    rw [e]
    by_cases z : (aRef b u j).toInt < 0
    · exact Or.inl z
    · have q := (n3 u j wb).elim (fun w => absurd w z) id
      exact Or.inr ((al _).mpr ⟨q, (gC.2 u _ ⟨wa.1.1, wa.2⟩ wa.1 ⟨q, j, wb.2.1, wb.2.2, (ofN_tn (by omega)).symm⟩).2⟩)
  · have wa := (al n).mp hn
    have f := Md_f M wa.1.1 wa.2
    refine ⟨?_, ?_⟩
    · have e126 : b 126 = a 126 := by
        rw [← hB]
        exact (Gw_126 ((aRA a 69 6).toInt - (0 : Int32).toInt).toNat 0 (aRA a)).trans (Of_r (c := 126) o (by decide) (by decide) (by decide)).symm
      exact ⟨wa.1.1, by rw [← e126]; exact wa.1.2⟩
    · rw [f.1 133 (by decide) (by decide), g133]
      exact congrFun (Of_r (c := 133) o (by decide) (by decide) (by decide)).symm n
theorem C_sw (hI : qI a) (h : cC a [] K B) (hJ : kJ (aSw a) K₉) : cC (aSw a) [] K₉ B := by
  obtain ⟨q1, q2, q3, q5, qk⟩ := C0_un h
  have s := Nd_sw hI q2
  refine C0_mk hJ.1 s.1 (fun n hn => ?_) hJ.2.1 hJ.2.2
  have w := s.2 n hn
  rw [w.2]
  exact q3 n w.1
end C8

/-! from 95.m40 -/
/-! COUNTS, the class (written by wip/tools/gen20k.py) -/
theorem g_83_69_75_sk_0 {X : Nat × (Nat → Int32)} {d w : Nat} {S : ma_S} {Q : Option ma_V ⊕ Nat → ma_S → Prop}  (hd : 2 ≤ d) (hw : 49 ≤ w) (hS : zT S) (h : ma_wp X d w 83 2 [(0, .inr (.inr (some 69))), (1, .inr (.inr (some 75))), (2, .inl (0 : Int32))] [] S Q) : ma_wp X d w 83 0 [(0, .inr (.inr (some 69))), (1, .inr (.inr (some 75)))] [] S Q := by
  refine zw_push hm_83 dX7_grantWishes_0 (v := .inl (0 : Int32)) rfl ?_
  refine zw_sto hm_83 dX7_grantWishes_1 [(2, .inl (0 : Int32)), (0, .inr (.inr (some 69))), (1, .inr (.inr (some 75)))] rfl rfl rfl ?_
  exact zw_sub (ma_nd_of (ks := [0, 1, 2]) rfl (by decide)) (ma_nd_of (ks := [2, 0, 1]) rfl (by decide)) (ma_le_cons rfl (ma_le_cons rfl (ma_le_cons rfl (ma_le_nil _)))) h
theorem g_83_69_75_sk_2 {X : Nat × (Nat → Int32)} {d w : Nat} {S : ma_S} {Q : Option ma_V ⊕ Nat → ma_S → Prop} (l2 : Int32) (hd : 2 ≤ d) (hw : 49 ≤ w) (hS : zT S) (h : if (mI S 69 6) ≤ l2 then (Q (.inl none) S) else (if l2 < 0 then (ma_wp X d w 83 2 [(0, .inr (.inr (some 69))), (1, .inr (.inr (some 75))), (2, .inl (l2 + (1 : Int32)))] [] S Q) else (if (512 : Int32) ≤ l2 then (ma_wp X d w 83 2 [(0, .inr (.inr (some 69))), (1, .inr (.inr (some 75))), (2, .inl (l2 + (1 : Int32)))] [] S Q) else ((0 ≤ l2 ∧ l2.toNatClampNeg < 512) ∧ (((mR S 70 l2.toNatClampNeg) = none → ma_wp X d w 83 2 [(0, .inr (.inr (some 69))), (1, .inr (.inr (some 75))), (2, .inl (l2 + (1 : Int32)))] [] S Q) ∧ (∀ c1, (mR S 70 l2.toNatClampNeg) = some c1 → (126 ≤ c1 ∧ c1 < mN S) ∧ (if (mI S c1 8) = 0 then (ma_wp X d w 83 2 [(0, .inr (.inr (some 69))), (1, .inr (.inr (some 75))), (2, .inl (l2 + (1 : Int32)))] [] S Q) else ((126 ≤ c1 ∧ c1 < mN S) ∧ (if (mI S c1 4) < (mI S 75 5) then (ma_wp X d w 83 2 [(0, .inr (.inr (some 69))), (1, .inr (.inr (some 75))), (2, .inl (l2 + (1 : Int32)))] [] S Q) else ((126 ≤ c1 ∧ c1 < mN S) ∧ (if (512 : Int32) ≤ (mI S c1 0) then (ma_wp X (d - 1) (w - 21) 84 0 [(0, .inr (.inr (some 69))), (1, .inr (.inr (some c1)))] [] S (zv (fun S2 => zT S2 ∧ (ma_wp X (d - 1) (w - 21) 119 0 [(0, .inr (.inr (some 75))), (1, .inr (.inr (some c1)))] [] S2 (zv (fun S4 => zT S4 ∧ (ma_wp X (d - 1) (w - 24) 120 0 [(0, .inr (.inr (some 75))), (1, .inl (512 : Int32))] [] S4 (zi (fun v7 S6 => zT S6 ∧ (ma_wp X d w 83 2 [(0, .inr (.inr (some 69))), (1, .inr (.inr (some 75))), (2, .inl (l2 + (1 : Int32)))] [] S6 Q)) (fun x S9 => Q (.inr x) S9)))) (fun x S9 => Q (.inr x) S9)))) (fun x S9 => Q (.inr x) S9))) else ((126 ≤ c1 ∧ c1 < mN S) ∧ ((0 ≤ (mI S c1 0) ∧ (mI S c1 0).toNatClampNeg < 512) ∧ (if (mI S 77 (mI S c1 0).toNatClampNeg) = 0 then (ma_wp X (d - 1) (w - 21) 84 0 [(0, .inr (.inr (some 69))), (1, .inr (.inr (some c1)))] [] S (zv (fun S8 => zT S8 ∧ (ma_wp X (d - 1) (w - 21) 119 0 [(0, .inr (.inr (some 75))), (1, .inr (.inr (some c1)))] [] S8 (zv (fun S10 => zT S10 ∧ (ma_wp X (d - 1) (w - 24) 120 0 [(0, .inr (.inr (some 75))), (1, .inl (512 : Int32))] [] S10 (zi (fun v13 S12 => zT S12 ∧ (ma_wp X d w 83 2 [(0, .inr (.inr (some 69))), (1, .inr (.inr (some 75))), (2, .inl (l2 + (1 : Int32)))] [] S12 Q)) (fun x S9 => Q (.inr x) S9)))) (fun x S9 => Q (.inr x) S9)))) (fun x S9 => Q (.inr x) S9))) else (ma_wp X d w 83 2 [(0, .inr (.inr (some 69))), (1, .inr (.inr (some 75))), (2, .inl (l2 + (1 : Int32)))] [] S Q))))))))))))))) : ma_wp X d w 83 2 [(0, .inr (.inr (some 69))), (1, .inr (.inr (some 75))), (2, .inl l2)] [] S Q := by
  refine zw_push hm_83 dX7_grantWishes_2 (v := .inl l2) rfl ?_
  refine zw_push hm_83 dX7_grantWishes_3 (v := .inr (.inr (some 69))) rfl ?_
  refine zw_gf hm_83 dX7_grantWishes_4 (v := .inl (mI S 69 6)) (zT_is hS s_69) (zT_t hS s_69) rfl f_7_40_7 rfl ?_
  refine zw_if2 hm_83 dX7_grantWishes_7 (t := 59) rfl zc2_ge ?_ ?_
  · intro hc
    rw [if_pos hc] at h
    exact zw_vret hm_83 dX7_grantWishes_59 h
  · intro hc
    rw [if_neg hc] at h
    refine zw_push hm_83 dX7_grantWishes_10 (v := .inr (.inr (some 69))) rfl ?_
    refine zw_push hm_83 dX7_grantWishes_11 (v := .inl l2) rfl ?_
    refine zw_cv hm_83 dX7_grantWishes_12 v_7_94_7 hm_81 [.inl l2] [] rfl (zT_rt hS s_69 rfl) ⟨by omega, by omega⟩ rfl ?_
    show ma_wp X (d - 1) (w - 21) 81 0 [(0, .inr (.inr (some 69))), (1, .inl l2)] [] S _
    refine zw_push hm_81 dX7_thingAt_0 (v := .inl l2) rfl ?_
    refine zw_if0 hm_81 dX7_thingAt_1 (t := 20) rfl zc0_lt ?_ ?_
    · intro hc
      rw [if_pos hc] at h
      refine zw_push hm_81 dX7_thingAt_20 (v := .inr (.inr none)) rfl ?_
      refine zw_aret hm_81 dX7_thingAt_21 ?_
      show ma_wp X d w 83 15 [(0, .inr (.inr (some 69))), (1, .inr (.inr (some 75))), (2, .inl l2)] [.inr (.inr none)] S _
      refine zw_sto hm_83 dX7_grantWishes_15 [(3, .inr (.inr none)), (0, .inr (.inr (some 69))), (1, .inr (.inr (some 75))), (2, .inl l2)] rfl rfl rfl ?_
      refine zw_push hm_83 dX7_grantWishes_16 (v := .inr (.inr none)) rfl ?_
      refine zw_ifnull hm_83 dX7_grantWishes_17 (t := 53) rfl (fun _ => ?_) (fun _ z => by cases z)
      refine zw_sto hm_83 dX7_grantWishes_53 [(2, .inl (l2 + (1 : Int32))), (3, .inr (.inr none)), (0, .inr (.inr (some 69))), (1, .inr (.inr (some 75)))] rfl rfl rfl ?_
      refine zw_goto hm_83 dX7_grantWishes_56 (t := 2) rfl ?_
      exact zw_sub (ma_nd_of (ks := [0, 1, 2]) rfl (by decide)) (ma_nd_of (ks := [2, 3, 0, 1]) rfl (by decide)) (ma_le_cons rfl (ma_le_cons rfl (ma_le_cons rfl (ma_le_nil _)))) h
    · intro hc
      rw [if_neg hc] at h
      refine zw_push hm_81 dX7_thingAt_4 (v := .inl l2) rfl ?_
      refine zw_push hm_81 dX7_thingAt_5 (v := .inl (512 : Int32)) rfl ?_
      refine zw_if2 hm_81 dX7_thingAt_8 (t := 20) rfl zc2_ge ?_ ?_
      · intro hc
        rw [if_pos hc] at h
        refine zw_push hm_81 dX7_thingAt_20 (v := .inr (.inr none)) rfl ?_
        refine zw_aret hm_81 dX7_thingAt_21 ?_
        show ma_wp X d w 83 15 [(0, .inr (.inr (some 69))), (1, .inr (.inr (some 75))), (2, .inl l2)] [.inr (.inr none)] S _
        refine zw_sto hm_83 dX7_grantWishes_15 [(3, .inr (.inr none)), (0, .inr (.inr (some 69))), (1, .inr (.inr (some 75))), (2, .inl l2)] rfl rfl rfl ?_
        refine zw_push hm_83 dX7_grantWishes_16 (v := .inr (.inr none)) rfl ?_
        refine zw_ifnull hm_83 dX7_grantWishes_17 (t := 53) rfl (fun _ => ?_) (fun _ z => by cases z)
        refine zw_sto hm_83 dX7_grantWishes_53 [(2, .inl (l2 + (1 : Int32))), (3, .inr (.inr none)), (0, .inr (.inr (some 69))), (1, .inr (.inr (some 75)))] rfl rfl rfl ?_
        refine zw_goto hm_83 dX7_grantWishes_56 (t := 2) rfl ?_
        exact zw_sub (ma_nd_of (ks := [0, 1, 2]) rfl (by decide)) (ma_nd_of (ks := [2, 3, 0, 1]) rfl (by decide)) (ma_le_cons rfl (ma_le_cons rfl (ma_le_cons rfl (ma_le_nil _)))) h
      · intro hc
        rw [if_neg hc] at h
        refine zw_push hm_81 dX7_thingAt_11 (v := .inr (.inr (some 69))) rfl ?_
        refine zw_gf hm_81 dX7_thingAt_12 (v := .inr (.inr (some 70))) (zT_is hS s_69) (zT_t hS s_69) rfl f_7_11_7 (zT_f hS r_69_0) ?_
        refine zw_push hm_81 dX7_thingAt_15 (v := .inl l2) rfl ?_
        obtain ⟨hg, h⟩ := h
        refine zw_aa hm_81 dX7_thingAt_16 (zT_is hS s_70) (zT_h hS s_70) rfl rfl hg rfl ?_
        show ma_wp X (d - 1) (w - 21) 81 17 [(0, .inr (.inr (some 69))), (1, .inl l2)] [.inr (.inr (mR S 70 l2.toNatClampNeg))] S _
        refine zw_goto hm_81 dX7_thingAt_17 (t := 21) rfl ?_
        refine zw_aret hm_81 dX7_thingAt_21 ?_
        show ma_wp X d w 83 15 [(0, .inr (.inr (some 69))), (1, .inr (.inr (some 75))), (2, .inl l2)] [.inr (.inr (mR S 70 l2.toNatClampNeg))] S _
        refine zw_sto hm_83 dX7_grantWishes_15 [(3, .inr (.inr (mR S 70 l2.toNatClampNeg))), (0, .inr (.inr (some 69))), (1, .inr (.inr (some 75))), (2, .inl l2)] rfl rfl rfl ?_
        refine zw_push hm_83 dX7_grantWishes_16 (v := .inr (.inr (mR S 70 l2.toNatClampNeg))) rfl ?_
        refine zw_ifnull hm_83 dX7_grantWishes_17 (t := 53) rfl ?_ ?_
        · intro hc
          have h := h.1 hc
          (try rw [hc])
          show ma_wp X d w 83 53 [(3, .inr (.inr none)), (0, .inr (.inr (some 69))), (1, .inr (.inr (some 75))), (2, .inl l2)] [] S _
          refine zw_sto hm_83 dX7_grantWishes_53 [(2, .inl (l2 + (1 : Int32))), (3, .inr (.inr none)), (0, .inr (.inr (some 69))), (1, .inr (.inr (some 75)))] rfl rfl rfl ?_
          refine zw_goto hm_83 dX7_grantWishes_56 (t := 2) rfl ?_
          exact zw_sub (ma_nd_of (ks := [0, 1, 2]) rfl (by decide)) (ma_nd_of (ks := [2, 3, 0, 1]) rfl (by decide)) (ma_le_cons rfl (ma_le_cons rfl (ma_le_cons rfl (ma_le_nil _)))) h
        · intro c1 hc
          have h := h.2 c1 hc
          (try rw [hc])
          show ma_wp X d w 83 20 [(3, .inr (.inr (some c1))), (0, .inr (.inr (some 69))), (1, .inr (.inr (some 75))), (2, .inl l2)] [] S _
          refine zw_push hm_83 dX7_grantWishes_20 (v := .inr (.inr (some c1))) rfl ?_
          obtain ⟨hg, h⟩ := h
          refine zw_gf hm_83 dX7_grantWishes_21 (v := .inl (mI S c1 8)) (zT_tis hS hg) (zT_tt hS hg) rfl f_7_108_9 rfl ?_
          refine zw_if0 hm_83 dX7_grantWishes_24 (t := 53) rfl zc0_eq ?_ ?_
          · intro hc
            rw [if_pos hc] at h
            refine zw_sto hm_83 dX7_grantWishes_53 [(2, .inl (l2 + (1 : Int32))), (3, .inr (.inr (some c1))), (0, .inr (.inr (some 69))), (1, .inr (.inr (some 75)))] rfl rfl rfl ?_
            refine zw_goto hm_83 dX7_grantWishes_56 (t := 2) rfl ?_
            exact zw_sub (ma_nd_of (ks := [0, 1, 2]) rfl (by decide)) (ma_nd_of (ks := [2, 3, 0, 1]) rfl (by decide)) (ma_le_cons rfl (ma_le_cons rfl (ma_le_cons rfl (ma_le_nil _)))) h
          · intro hc
            rw [if_neg hc] at h
            refine zw_push hm_83 dX7_grantWishes_27 (v := .inr (.inr (some 75))) rfl ?_
            refine zw_push hm_83 dX7_grantWishes_28 (v := .inr (.inr (some c1))) rfl ?_
            refine zw_cv hm_83 dX7_grantWishes_29 v_7_128_10 hm_122 [.inr (.inr (some c1))] [] rfl (zT_rt hS s_75 rfl) ⟨by omega, by omega⟩ rfl ?_
            show ma_wp X (d - 1) (w - 21) 122 0 [(0, .inr (.inr (some 75))), (1, .inr (.inr (some c1)))] [] S _
            refine zw_push hm_122 dX10_keeps_0 (v := .inr (.inr (some c1))) rfl ?_
            obtain ⟨hg, h⟩ := h
            refine zw_gf hm_122 dX10_keeps_1 (v := .inl (mI S c1 4)) (zT_tis hS hg) (zT_tt hS hg) rfl f_10_49_9 rfl ?_
            refine zw_push hm_122 dX10_keeps_4 (v := .inr (.inr (some 75))) rfl ?_
            refine zw_gf hm_122 dX10_keeps_5 (v := .inl (mI S 75 5)) (zT_is hS s_75) (zT_t hS s_75) rfl f_10_35_10 rfl ?_
            refine zw_if2 hm_122 dX10_keeps_8 (t := 19) rfl zc2_lt ?_ ?_
            · intro hc
              rw [if_pos hc] at h
              refine zw_push hm_122 dX10_keeps_19 (v := .inl (1 : Int32)) rfl ?_
              refine zw_goto hm_122 dX10_keeps_20 (t := 24) rfl ?_
              refine zw_bret hm_122 dX10_keeps_24 (by decide) ?_
              show ma_wp X d w 83 32 [(3, .inr (.inr (some c1))), (0, .inr (.inr (some 69))), (1, .inr (.inr (some 75))), (2, .inl l2)] [.inl (1 : Int32)] S _
              refine zw_if0 hm_83 dX7_grantWishes_32 (t := 53) rfl zc0_ne (fun _ => ?_) (fun hc => absurd (by decide) hc)
              refine zw_sto hm_83 dX7_grantWishes_53 [(2, .inl (l2 + (1 : Int32))), (3, .inr (.inr (some c1))), (0, .inr (.inr (some 69))), (1, .inr (.inr (some 75)))] rfl rfl rfl ?_
              refine zw_goto hm_83 dX7_grantWishes_56 (t := 2) rfl ?_
              exact zw_sub (ma_nd_of (ks := [0, 1, 2]) rfl (by decide)) (ma_nd_of (ks := [2, 3, 0, 1]) rfl (by decide)) (ma_le_cons rfl (ma_le_cons rfl (ma_le_cons rfl (ma_le_nil _)))) h
            · intro hc
              rw [if_neg hc] at h
              refine zw_push hm_122 dX10_keeps_11 (v := .inr (.inr (some 75))) rfl ?_
              refine zw_push hm_122 dX10_keeps_12 (v := .inr (.inr (some c1))) rfl ?_
              refine zw_cv hm_122 dX10_keeps_13 v_10_54_10 hm_123 [.inr (.inr (some c1))] [] rfl (zT_rt hS s_75 rfl) ⟨by omega, by omega⟩ rfl ?_
              show ma_wp X ((d - 1) - 1) ((w - 21) - 21) 123 0 [(0, .inr (.inr (some 75))), (1, .inr (.inr (some c1)))] [] S _
              refine zw_push hm_123 dX10_colourOf_0 (v := .inr (.inr (some c1))) rfl ?_
              obtain ⟨hg, h⟩ := h
              refine zw_gf hm_123 dX10_colourOf_1 (v := .inl (mI S c1 0)) (zT_tis hS hg) (zT_tt hS hg) rfl f_10_58_9 rfl ?_
              refine zw_push hm_123 dX10_colourOf_4 (v := .inl (512 : Int32)) rfl ?_
              refine zw_if2 hm_123 dX10_colourOf_7 (t := 22) rfl zc2_ge ?_ ?_
              · intro hc
                rw [if_pos hc] at h
                refine zw_push hm_123 dX10_colourOf_22 (v := .inl (0 : Int32)) rfl ?_
                refine zw_iret hm_123 dX10_colourOf_23 ?_
                show ma_wp X (d - 1) (w - 21) 122 16 [(0, .inr (.inr (some 75))), (1, .inr (.inr (some c1)))] [.inl (0 : Int32)] S _
                refine zw_if0 hm_122 dX10_keeps_16 (t := 23) rfl zc0_eq (fun _ => ?_) (fun hc => absurd (by decide) hc)
                refine zw_push hm_122 dX10_keeps_23 (v := .inl (0 : Int32)) rfl ?_
                refine zw_bret hm_122 dX10_keeps_24 (by decide) ?_
                show ma_wp X d w 83 32 [(3, .inr (.inr (some c1))), (0, .inr (.inr (some 69))), (1, .inr (.inr (some 75))), (2, .inl l2)] [.inl (0 : Int32)] S _
                refine zw_if0 hm_83 dX7_grantWishes_32 (t := 53) rfl zc0_ne (fun hc => absurd hc (by decide)) (fun _ => ?_)
                refine zw_push hm_83 dX7_grantWishes_35 (v := .inr (.inr (some 69))) rfl ?_
                refine zw_push hm_83 dX7_grantWishes_36 (v := .inr (.inr (some c1))) rfl ?_
                refine zw_cv hm_83 dX7_grantWishes_37 v_7_134_7 hm_84 [.inr (.inr (some c1))] [] rfl (zT_rt hS s_69 rfl) ⟨by omega, by omega⟩ rfl (zw_mono h (zv_go ?_ ?_))
                · intro S2 hv
                  obtain ⟨hS2, h⟩ := hv
                  refine zw_push hm_83 dX7_grantWishes_40 (v := .inr (.inr (some 75))) rfl ?_
                  refine zw_push hm_83 dX7_grantWishes_41 (v := .inr (.inr (some c1))) rfl ?_
                  refine zw_cv hm_83 dX7_grantWishes_42 v_7_137_10 hm_119 [.inr (.inr (some c1))] [] rfl (zT_rt hS2 s_75 rfl) ⟨by omega, by omega⟩ rfl (zw_mono h (zv_go ?_ ?_))
                  · intro S4 hv
                    obtain ⟨hS4, h⟩ := hv
                    refine zw_push hm_83 dX7_grantWishes_45 (v := .inr (.inr (some 75))) rfl ?_
                    refine zw_push hm_83 dX7_grantWishes_46 (v := .inl (512 : Int32)) rfl ?_
                    refine zw_cv hm_83 dX7_grantWishes_49 v_7_140_10 hm_120 [.inl (512 : Int32)] [] rfl (zT_rt hS4 s_75 rfl) ⟨by omega, by omega⟩ rfl (zw_mono h (zi_go ?_ ?_))
                    · intro v7 S6 hv
                      obtain ⟨hS6, h⟩ := hv
                      refine zw_stk hm_83 dX7_grantWishes_52 (st₉ := []) rfl rfl ?_
                      refine zw_sto hm_83 dX7_grantWishes_53 [(2, .inl (l2 + (1 : Int32))), (3, .inr (.inr (some c1))), (0, .inr (.inr (some 69))), (1, .inr (.inr (some 75)))] rfl rfl rfl ?_
                      refine zw_goto hm_83 dX7_grantWishes_56 (t := 2) rfl ?_
                      exact zw_sub (ma_nd_of (ks := [0, 1, 2]) rfl (by decide)) (ma_nd_of (ks := [2, 3, 0, 1]) rfl (by decide)) (ma_le_cons rfl (ma_le_cons rfl (ma_le_cons rfl (ma_le_nil _)))) h
                    · intro x S9 hx
                      exact ⟨by decide, hx⟩
                  · intro x S9 hx
                    exact ⟨by decide, hx⟩
                · intro x S9 hx
                  exact ⟨by decide, hx⟩
              · intro hc
                rw [if_neg hc] at h
                refine zw_push hm_123 dX10_colourOf_10 (v := .inr (.inr (some 75))) rfl ?_
                refine zw_gf hm_123 dX10_colourOf_11 (v := .inr (.inr (some 77))) (zT_is hS s_75) (zT_t hS s_75) rfl f_10_15_10 (zT_f hS r_75_2) ?_
                refine zw_push hm_123 dX10_colourOf_14 (v := .inr (.inr (some c1))) rfl ?_
                obtain ⟨hg, h⟩ := h
                refine zw_gf hm_123 dX10_colourOf_15 (v := .inl (mI S c1 0)) (zT_tis hS hg) (zT_tt hS hg) rfl f_10_58_9 rfl ?_
                obtain ⟨hg, h⟩ := h
                refine zw_ia hm_123 dX10_colourOf_18 (zT_is hS s_77) (zT_h hS s_77) rfl hg ?_
                show ma_wp X ((d - 1) - 1) ((w - 21) - 21) 123 19 [(0, .inr (.inr (some 75))), (1, .inr (.inr (some c1)))] [.inl (mI S 77 (mI S c1 0).toNatClampNeg)] S _
                refine zw_goto hm_123 dX10_colourOf_19 (t := 23) rfl ?_
                refine zw_iret hm_123 dX10_colourOf_23 ?_
                show ma_wp X (d - 1) (w - 21) 122 16 [(0, .inr (.inr (some 75))), (1, .inr (.inr (some c1)))] [.inl (mI S 77 (mI S c1 0).toNatClampNeg)] S _
                refine zw_if0 hm_122 dX10_keeps_16 (t := 23) rfl zc0_eq ?_ ?_
                · intro hc
                  rw [if_pos hc] at h
                  refine zw_push hm_122 dX10_keeps_23 (v := .inl (0 : Int32)) rfl ?_
                  refine zw_bret hm_122 dX10_keeps_24 (by decide) ?_
                  show ma_wp X d w 83 32 [(3, .inr (.inr (some c1))), (0, .inr (.inr (some 69))), (1, .inr (.inr (some 75))), (2, .inl l2)] [.inl (0 : Int32)] S _
                  refine zw_if0 hm_83 dX7_grantWishes_32 (t := 53) rfl zc0_ne (fun hc => absurd hc (by decide)) (fun _ => ?_)
                  refine zw_push hm_83 dX7_grantWishes_35 (v := .inr (.inr (some 69))) rfl ?_
                  refine zw_push hm_83 dX7_grantWishes_36 (v := .inr (.inr (some c1))) rfl ?_
                  refine zw_cv hm_83 dX7_grantWishes_37 v_7_134_7 hm_84 [.inr (.inr (some c1))] [] rfl (zT_rt hS s_69 rfl) ⟨by omega, by omega⟩ rfl (zw_mono h (zv_go ?_ ?_))
                  · intro S8 hv
                    obtain ⟨hS8, h⟩ := hv
                    refine zw_push hm_83 dX7_grantWishes_40 (v := .inr (.inr (some 75))) rfl ?_
                    refine zw_push hm_83 dX7_grantWishes_41 (v := .inr (.inr (some c1))) rfl ?_
                    refine zw_cv hm_83 dX7_grantWishes_42 v_7_137_10 hm_119 [.inr (.inr (some c1))] [] rfl (zT_rt hS8 s_75 rfl) ⟨by omega, by omega⟩ rfl (zw_mono h (zv_go ?_ ?_))
                    · intro S10 hv
                      obtain ⟨hS10, h⟩ := hv
                      refine zw_push hm_83 dX7_grantWishes_45 (v := .inr (.inr (some 75))) rfl ?_
                      refine zw_push hm_83 dX7_grantWishes_46 (v := .inl (512 : Int32)) rfl ?_
                      refine zw_cv hm_83 dX7_grantWishes_49 v_7_140_10 hm_120 [.inl (512 : Int32)] [] rfl (zT_rt hS10 s_75 rfl) ⟨by omega, by omega⟩ rfl (zw_mono h (zi_go ?_ ?_))
                      · intro v13 S12 hv
                        obtain ⟨hS12, h⟩ := hv
                        refine zw_stk hm_83 dX7_grantWishes_52 (st₉ := []) rfl rfl ?_
                        refine zw_sto hm_83 dX7_grantWishes_53 [(2, .inl (l2 + (1 : Int32))), (3, .inr (.inr (some c1))), (0, .inr (.inr (some 69))), (1, .inr (.inr (some 75)))] rfl rfl rfl ?_
                        refine zw_goto hm_83 dX7_grantWishes_56 (t := 2) rfl ?_
                        exact zw_sub (ma_nd_of (ks := [0, 1, 2]) rfl (by decide)) (ma_nd_of (ks := [2, 3, 0, 1]) rfl (by decide)) (ma_le_cons rfl (ma_le_cons rfl (ma_le_cons rfl (ma_le_nil _)))) h
                      · intro x S9 hx
                        exact ⟨by decide, hx⟩
                    · intro x S9 hx
                      exact ⟨by decide, hx⟩
                  · intro x S9 hx
                    exact ⟨by decide, hx⟩
                · intro hc
                  rw [if_neg hc] at h
                  refine zw_push hm_122 dX10_keeps_19 (v := .inl (1 : Int32)) rfl ?_
                  refine zw_goto hm_122 dX10_keeps_20 (t := 24) rfl ?_
                  refine zw_bret hm_122 dX10_keeps_24 (by decide) ?_
                  show ma_wp X d w 83 32 [(3, .inr (.inr (some c1))), (0, .inr (.inr (some 69))), (1, .inr (.inr (some 75))), (2, .inl l2)] [.inl (1 : Int32)] S _
                  refine zw_if0 hm_83 dX7_grantWishes_32 (t := 53) rfl zc0_ne (fun _ => ?_) (fun hc => absurd (by decide) hc)
                  refine zw_sto hm_83 dX7_grantWishes_53 [(2, .inl (l2 + (1 : Int32))), (3, .inr (.inr (some c1))), (0, .inr (.inr (some 69))), (1, .inr (.inr (some 75)))] rfl rfl rfl ?_
                  refine zw_goto hm_83 dX7_grantWishes_56 (t := 2) rfl ?_
                  exact zw_sub (ma_nd_of (ks := [0, 1, 2]) rfl (by decide)) (ma_nd_of (ks := [2, 3, 0, 1]) rfl (by decide)) (ma_le_cons rfl (ma_le_cons rfl (ma_le_cons rfl (ma_le_nil _)))) h
theorem lp_83_69_75_sk_2 {X : Nat × (Nat → Int32)} {d w : Nat} {f : Nat → Nat → Int32} {r : Nat → Nat → Option Nat} {C Z N : Nat} {Q : Option ma_V ⊕ Nat → ma_S → Prop} {ab : Nat→Nat→Int32} {R : zRT} (hd : 2 ≤ d) (hw : 49 ≤ w) (K : ∀ S₉, zI f r C Z N S₉ → (xB S₉ R) → (aS 75 S₉ = aGw ab 0) → (kJ (aS 75 S₉) (kC S₉)) → Q (.inl none) S₉) : ∀ (n : Nat) (S : ma_S) (l2 : Int32), (512 - l2.toInt).toNat = n → zI f r C Z N S → (0 ≤ l2.toInt) → (xB S R) → (aGw (aS 75 S) l2 = aGw ab 0) → (kJ (aS 75 S) (kC S)) → ma_wp X d w 83 2 [(0, .inr (.inr (some 69))), (1, .inr (.inr (some 75))), (2, .inl l2)] [] S Q := by
  intro n
  induction n using Nat.strongRecOn with
  | _ n IH =>
    intro S l2 hmu hI  hi0 hi1 hi2 hi3
    refine g_83_69_75_sk_2 l2 (by omega) (by omega) (zG_T hI) ?_
    have r6 := congrArg Int32.toInt (aS_I (W := 75) (S := S) (c := 69) (c₉ := 69) (k := 6) rfl rfl)
    have f1 := zG_s hI (0) (512) (c := 69) (k := 6) (by decide)
    have b2 := i_bd l2
    refine zd (fun h3 => ?_) (fun h3 => ?_)
    · skip
      have g4 := i_le h3
      exact K _ hI (show xB S R from by first | (exact (xC_o (W := 75) hi1).2)) (show aS 75 S = aGw ab 0 from by first | (exact (aGw_st (by omega)).symm.trans hi2)) (show kJ (aS 75 S) (kC S) from by first | (exact hi3))
    · skip
      have g5 := i_nle h3
      have li6 : (0 : Int32).toInt = 0 := rfl
      refine zd (fun h7 => ?_) (fun h7 => ?_)
      · skip
        have g8 := i_lt h7
        first | have e9 : (l2 + (1 : Int32)).toInt = l2.toInt + (1) := i_addk rfl (by omega) (by omega) | have b10 := i_bd (l2 + (1 : Int32))
        exact IH _ (by omega) _ ((l2 + (1 : Int32))) rfl hI (by omega) (show xB S R from by first | (exact (xC_o (W := 75) hi1).2)) (show aGw (aS 75 S) ((l2 + (1 : Int32))) = aGw ab 0 from by first | (exfalso; omega) | (exact (aGw_n (by omega) (fun z => by omega)).symm.trans hi2)) (show kJ (aS 75 S) (kC S) from by first | (exact hi3))
      · skip
        have g11 := i_nlt h7
        have li12 : (512 : Int32).toInt = 512 := rfl
        refine zd (fun h13 => ?_) (fun h13 => ?_)
        · skip
          have g14 := i_le h13
          first | have e15 : (l2 + (1 : Int32)).toInt = l2.toInt + (1) := i_addk rfl (by omega) (by omega) | have b16 := i_bd (l2 + (1 : Int32))
          exact IH _ (by omega) _ ((l2 + (1 : Int32))) rfl hI (by omega) (show xB S R from by first | (exact (xC_o (W := 75) hi1).2)) (show aGw (aS 75 S) ((l2 + (1 : Int32))) = aGw ab 0 from by first | (exfalso; omega) | (exact (aGw_n (by omega) (fun z => by omega)).symm.trans hi2)) (show kJ (aS 75 S) (kC S) from by first | (exact hi3))
        · skip
          have g17 := i_nle h13
          refine ⟨i_ix (by omega) (by omega), ?_⟩
          refine ⟨fun hc => ?_, fun c1 hc => ?_⟩
          · skip
            have rn_c1 : zTa R l2 = none := (ta_rd (y := l2) hi1 (by omega) (by omega)).symm.trans hc
            first | have e18 : (l2 + (1 : Int32)).toInt = l2.toInt + (1) := i_addk rfl (by omega) (by omega) | have b19 := i_bd (l2 + (1 : Int32))
            exact IH _ (by omega) _ ((l2 + (1 : Int32))) rfl hI (by omega) (show xB S R from by first | (exact (xC_o (W := 75) hi1).2)) (show aGw (aS 75 S) ((l2 + (1 : Int32))) = aGw ab 0 from by first | (exfalso; omega) | (exact (aGw_n (by omega) (fun z => xB_nt (W := 75) hi1 rn_c1 ⟨z.1, z.2.1, z.2.2.1⟩)).symm.trans hi2)) (show kJ (aS 75 S) (kC S) from by first | (exact hi3))
          · skip
            have th_c1 := (fun _ z => zG_70 hI (c := 70) (by decide) z) c1 hc
            have rg_c1 : zTa R l2 = some c1 := (ta_rd (y := l2) hi1 (by omega) (by omega)).symm.trans hc
            refine ⟨zG_n hI th_c1, ?_⟩
            have b20 := i_bd (mI S c1 8)
            refine zd (fun h21 => ?_) (fun h21 => ?_)
            · skip
              have g22 := i_eq h21
              first | have e23 : (l2 + (1 : Int32)).toInt = l2.toInt + (1) := i_addk rfl (by omega) (by omega) | have b24 := i_bd (l2 + (1 : Int32))
              exact IH _ (by omega) _ ((l2 + (1 : Int32))) rfl hI (by omega) (show xB S R from by first | (exact (xC_o (W := 75) hi1).2)) (show aGw (aS 75 S) ((l2 + (1 : Int32))) = aGw ab 0 from by first | (exfalso; omega) | (have ty := xB_th (W := 75) hi1 rg_c1; have e4 := congrArg Int32.toInt ty.2.2.2.2.2.1; refine (aGw_n (by omega) (fun z => ?_)).symm.trans hi2; have z1 : mI S c1 8 ≠ 0 := (by rw [ty.2.2.2.2.2.2.2.1]; exact z.2.2.2.1); have z4 : (mI S 75 5).toInt ≤ (mI S c1 4).toInt := (by rw [e4]; exact z.2.2.2.2.1); have z6 : (mI S 77 (mI S c1 0).toNatClampNeg).toInt = 0 := (by rw [ty.2.2.1]; exact congrArg Int32.toInt z.2.2.2.2.2); first | omega | exact z1 (by assumption))) (show kJ (aS 75 S) (kC S) from by first | (exact hi3))
            · skip
              have g25 := i_ne h21
              refine ⟨zG_n hI th_c1, ?_⟩
              have f26 := zG_th hI th_c1
              have b27 := i_bd (mI S 75 5)
              refine zd (fun h28 => ?_) (fun h28 => ?_)
              · skip
                have g29 := i_lt h28
                first | have e30 : (l2 + (1 : Int32)).toInt = l2.toInt + (1) := i_addk rfl (by omega) (by omega) | have b31 := i_bd (l2 + (1 : Int32))
                exact IH _ (by omega) _ ((l2 + (1 : Int32))) rfl hI (by omega) (show xB S R from by first | (exact (xC_o (W := 75) hi1).2)) (show aGw (aS 75 S) ((l2 + (1 : Int32))) = aGw ab 0 from by first | (exfalso; omega) | (have ty := xB_th (W := 75) hi1 rg_c1; have e4 := congrArg Int32.toInt ty.2.2.2.2.2.1; refine (aGw_n (by omega) (fun z => ?_)).symm.trans hi2; have z1 : mI S c1 8 ≠ 0 := (by rw [ty.2.2.2.2.2.2.2.1]; exact z.2.2.2.1); have z4 : (mI S 75 5).toInt ≤ (mI S c1 4).toInt := (by rw [e4]; exact z.2.2.2.2.1); have z6 : (mI S 77 (mI S c1 0).toNatClampNeg).toInt = 0 := (by rw [ty.2.2.1]; exact congrArg Int32.toInt z.2.2.2.2.2); first | omega | exact z1 (by assumption))) (show kJ (aS 75 S) (kC S) from by first | (exact hi3))
              · skip
                have g32 := i_nlt h28
                refine ⟨zG_n hI th_c1, ?_⟩
                have f33 := zG_th hI th_c1
                refine zd (fun h34 => ?_) (fun h34 => ?_)
                · skip
                  have g35 := i_le h34
                  refine sp_84_69_sk (ab := (aS 75 S)) (R := R) (W := 75) (y := l2) (kk := (kC S)) (n0 := (zN0 S)) c1 (by omega) (by omega) hI th_c1 (show xB S R from by first | (exact (xC_o (W := 75) hi1).2)) (show aS 75 S = (aS 75 S) from by first | (exact rfl)) (show xW 75 from by first | (exact xW88) | (exact xW75)) (show zTa R l2 = some c1 from by first | (exact rg_c1)) (show kC S = (kC S) from by first | (exact rfl)) (show zN0 S = (zN0 S) from by first | (exact rfl)) (fun S2 hI_S2 rp0_S2 rp1_S2 rp2_S2 rp3_S2 => zv_n ⟨zG_T hI_S2, ?_⟩)
                  have rp0_S2 : xB S2 R := rp0_S2
                  have rp1_S2 : aS 75 S2 = aGr (aS 75 S) l2 := rp1_S2
                  have rp2_S2 : ∀ n, xAl (aS 75 S) n → kC S2 n = (kC S) n + (if ((aS 75 S) 69 5).toInt < 512 then Int32.ofNat (cIs l2 n) else 0) := rp2_S2
                  have rp3_S2 : zN0 S2 = (zN0 S) := rp3_S2
                  refine sp_119_75_sk (ab := (aS 75 S2)) (R := R) (y := (l2)) (a8 := (aS 88 S2)) (kk := (kC S2)) ((some c1)) (by omega) (by omega) hI_S2 (fun _ z => by cases z; exact th_c1) (show xB S2 R from by first | (exact (xC_o (W := 75) rp0_S2).2)) (show aS 75 S2 = (aS 75 S2) from by first | (exact rfl)) (show (some c1) = zTa R (l2) from by first | (exact rg_c1.symm)) (show aS 88 S2 = (aS 88 S2) from by first | (exact rfl)) (show kC S2 = (kC S2) from by first | (exact rfl)) (fun S4 hI_S4 rp0_S4 rp1_S4 rp2_S4 rp3_S4 => zv_n ⟨zG_T hI_S4, ?_⟩)
                  have rp0_S4 : xB S4 R := rp0_S4
                  have rp1_S4 : aS 75 S4 = aCm (aS 75 S2) (l2) := rp1_S4
                  have rp2_S4 : aS 88 S4 = (aS 88 S2) := rp2_S4
                  have rp3_S4 : kC S4 = (kC S2) := rp3_S4
                  refine sp_120_75_sk (ab := (aS 75 S4)) (R := R) (a8 := (aS 88 S4)) (kk := (kC S4)) ((512 : Int32)) (by omega) (by omega) hI_S4 (show xB S4 R from by first | (exact (xC_o (W := 75) rp0_S4).2)) (show aS 75 S4 = (aS 75 S4) from by first | (exact rfl)) (by omega) (show aS 88 S4 = (aS 88 S4) from by first | (exact rfl)) (show kC S4 = (kC S4) from by first | (exact rfl)) (fun v7 S6 hI_S6 hp_v7 rp0_S6 rp1_S6 rp2_S6 rp3_S6 => zi_n ⟨zG_T hI_S6, ?_⟩)
                  have rp0_S6 : xB S6 R := rp0_S6
                  have rp1_S6 : aS 75 S6 = aSp (512 : Int32).toInt.toNat (aS 75 S4) ∧ v7.toInt = (aSn (512 : Int32).toInt.toNat (aS 75 S4) : Int) := rp1_S6
                  have rp2_S6 : aS 88 S6 = (aS 88 S4) := rp2_S6
                  have rp3_S6 : kC S6 = (kC S4) := rp3_S6
                  first | have e36 : (l2 + (1 : Int32)).toInt = l2.toInt + (1) := i_addk rfl (by omega) (by omega) | have b37 := i_bd (l2 + (1 : Int32))
                  exact IH _ (by omega) _ ((l2 + (1 : Int32))) rfl hI_S6 (by omega) (show xB S6 R from by first | (exact (xC_o (W := 75) rp0_S6).2)) (show aGw (aS 75 S6) ((l2 + (1 : Int32))) = aGw ab 0 from by first | (exfalso; omega) | (have ty := xB_th (W := 75) hi1 rg_c1; have e4 := congrArg Int32.toInt ty.2.2.2.2.2.1; have e8 := congrArg Int32.toInt ty.2.2.2.2.2.2.2.1; rw [rp1_S6.1, show (512 : Int32).toInt.toNat = 512 from rfl, rp1_S4, rp1_S2]; refine (aGw_y (by omega) ⟨ty.1, ty.2.1, (by rw [ty.2.2.2.2.2.2.2.2]; decide), (fun z => ?_), ?_, ?_⟩).symm.trans hi2; (rw [← ty.2.2.2.2.2.2.2.1] at z; have z2 := congrArg Int32.toInt z; omega); (show (mI S 75 5).toInt ≤ _; rw [← e4]; omega); (show mI S 77 _ = 0; rw [← ty.2.2.1]; assumption))) (show kJ (aS 75 S6) (kC S6) from by first | (have j1 := J_gr (y := l2) hi3 (fun n hn => rp2_S2 n hn); rw [← rp1_S2] at j1; have j2 : kJ (aS 75 S4) (kC S4) := (by rw [rp1_S4, rp3_S4]; exact J_o8 (Of_8 cm_of) j1); rw [rp1_S6.1, rp3_S6]; exact J_o8 (Of_8 sp_zo) j2))
                · skip
                  have g38 := i_nle h34
                  refine ⟨zG_n hI th_c1, ?_⟩
                  refine ⟨i_ix (by omega) (by omega), ?_⟩
                  have b39 := i_bd (mI S 77 (mI S c1 0).toNatClampNeg)
                  refine zd (fun h40 => ?_) (fun h40 => ?_)
                  · skip
                    have g41 := i_eq h40
                    refine sp_84_69_sk (ab := (aS 75 S)) (R := R) (W := 75) (y := l2) (kk := (kC S)) (n0 := (zN0 S)) c1 (by omega) (by omega) hI th_c1 (show xB S R from by first | (exact (xC_o (W := 75) hi1).2)) (show aS 75 S = (aS 75 S) from by first | (exact rfl)) (show xW 75 from by first | (exact xW88) | (exact xW75)) (show zTa R l2 = some c1 from by first | (exact rg_c1)) (show kC S = (kC S) from by first | (exact rfl)) (show zN0 S = (zN0 S) from by first | (exact rfl)) (fun S8 hI_S8 rp0_S8 rp1_S8 rp2_S8 rp3_S8 => zv_n ⟨zG_T hI_S8, ?_⟩)
                    have rp0_S8 : xB S8 R := rp0_S8
                    have rp1_S8 : aS 75 S8 = aGr (aS 75 S) l2 := rp1_S8
                    have rp2_S8 : ∀ n, xAl (aS 75 S) n → kC S8 n = (kC S) n + (if ((aS 75 S) 69 5).toInt < 512 then Int32.ofNat (cIs l2 n) else 0) := rp2_S8
                    have rp3_S8 : zN0 S8 = (zN0 S) := rp3_S8
                    refine sp_119_75_sk (ab := (aS 75 S8)) (R := R) (y := (l2)) (a8 := (aS 88 S8)) (kk := (kC S8)) ((some c1)) (by omega) (by omega) hI_S8 (fun _ z => by cases z; exact th_c1) (show xB S8 R from by first | (exact (xC_o (W := 75) rp0_S8).2)) (show aS 75 S8 = (aS 75 S8) from by first | (exact rfl)) (show (some c1) = zTa R (l2) from by first | (exact rg_c1.symm)) (show aS 88 S8 = (aS 88 S8) from by first | (exact rfl)) (show kC S8 = (kC S8) from by first | (exact rfl)) (fun S10 hI_S10 rp0_S10 rp1_S10 rp2_S10 rp3_S10 => zv_n ⟨zG_T hI_S10, ?_⟩)
                    have rp0_S10 : xB S10 R := rp0_S10
                    have rp1_S10 : aS 75 S10 = aCm (aS 75 S8) (l2) := rp1_S10
                    have rp2_S10 : aS 88 S10 = (aS 88 S8) := rp2_S10
                    have rp3_S10 : kC S10 = (kC S8) := rp3_S10
                    refine sp_120_75_sk (ab := (aS 75 S10)) (R := R) (a8 := (aS 88 S10)) (kk := (kC S10)) ((512 : Int32)) (by omega) (by omega) hI_S10 (show xB S10 R from by first | (exact (xC_o (W := 75) rp0_S10).2)) (show aS 75 S10 = (aS 75 S10) from by first | (exact rfl)) (by omega) (show aS 88 S10 = (aS 88 S10) from by first | (exact rfl)) (show kC S10 = (kC S10) from by first | (exact rfl)) (fun v13 S12 hI_S12 hp_v13 rp0_S12 rp1_S12 rp2_S12 rp3_S12 => zi_n ⟨zG_T hI_S12, ?_⟩)
                    have rp0_S12 : xB S12 R := rp0_S12
                    have rp1_S12 : aS 75 S12 = aSp (512 : Int32).toInt.toNat (aS 75 S10) ∧ v13.toInt = (aSn (512 : Int32).toInt.toNat (aS 75 S10) : Int) := rp1_S12
                    have rp2_S12 : aS 88 S12 = (aS 88 S10) := rp2_S12
                    have rp3_S12 : kC S12 = (kC S10) := rp3_S12
                    first | have e42 : (l2 + (1 : Int32)).toInt = l2.toInt + (1) := i_addk rfl (by omega) (by omega) | have b43 := i_bd (l2 + (1 : Int32))
                    exact IH _ (by omega) _ ((l2 + (1 : Int32))) rfl hI_S12 (by omega) (show xB S12 R from by first | (exact (xC_o (W := 75) rp0_S12).2)) (show aGw (aS 75 S12) ((l2 + (1 : Int32))) = aGw ab 0 from by first | (exfalso; omega) | (have ty := xB_th (W := 75) hi1 rg_c1; have e4 := congrArg Int32.toInt ty.2.2.2.2.2.1; have e8 := congrArg Int32.toInt ty.2.2.2.2.2.2.2.1; rw [rp1_S12.1, show (512 : Int32).toInt.toNat = 512 from rfl, rp1_S10, rp1_S8]; refine (aGw_y (by omega) ⟨ty.1, ty.2.1, (by rw [ty.2.2.2.2.2.2.2.2]; decide), (fun z => ?_), ?_, ?_⟩).symm.trans hi2; (rw [← ty.2.2.2.2.2.2.2.1] at z; have z2 := congrArg Int32.toInt z; omega); (show (mI S 75 5).toInt ≤ _; rw [← e4]; omega); (show mI S 77 _ = 0; rw [← ty.2.2.1]; assumption))) (show kJ (aS 75 S12) (kC S12) from by first | (have j1 := J_gr (y := l2) hi3 (fun n hn => rp2_S8 n hn); rw [← rp1_S8] at j1; have j2 : kJ (aS 75 S10) (kC S10) := (by rw [rp1_S10, rp3_S10]; exact J_o8 (Of_8 cm_of) j1); rw [rp1_S12.1, rp3_S12]; exact J_o8 (Of_8 sp_zo) j2))
                  · skip
                    have g44 := i_ne h40
                    first | have e45 : (l2 + (1 : Int32)).toInt = l2.toInt + (1) := i_addk rfl (by omega) (by omega) | have b46 := i_bd (l2 + (1 : Int32))
                    exact IH _ (by omega) _ ((l2 + (1 : Int32))) rfl hI (by omega) (show xB S R from by first | (exact (xC_o (W := 75) hi1).2)) (show aGw (aS 75 S) ((l2 + (1 : Int32))) = aGw ab 0 from by first | (exfalso; omega) | (have ty := xB_th (W := 75) hi1 rg_c1; have e4 := congrArg Int32.toInt ty.2.2.2.2.2.1; refine (aGw_n (by omega) (fun z => ?_)).symm.trans hi2; have z1 : mI S c1 8 ≠ 0 := (by rw [ty.2.2.2.2.2.2.2.1]; exact z.2.2.2.1); have z4 : (mI S 75 5).toInt ≤ (mI S c1 4).toInt := (by rw [e4]; exact z.2.2.2.2.1); have z6 : (mI S 77 (mI S c1 0).toNatClampNeg).toInt = 0 := (by rw [ty.2.2.1]; exact congrArg Int32.toInt z.2.2.2.2.2); first | omega | exact z1 (by assumption))) (show kJ (aS 75 S) (kC S) from by first | (exact hi3))
theorem sp_83_69_75_sk {X : Nat × (Nat → Int32)} {d w : Nat} {f : Nat → Nat → Int32} {r : Nat → Nat → Option Nat} {C Z N : Nat} {Q : Option ma_V ⊕ Nat → ma_S → Prop} {ab : Nat→Nat→Int32} {R : zRT} {S : ma_S}  (hd : 2 ≤ d) (hw : 49 ≤ w) (hI : zI f r C Z N S) (hpre0 : xB S R) (hpre1 : aS 75 S = ab) (hpre2 : kJ (aS 75 S) (kC S)) (K : ∀ S₉, zI f r C Z N S₉ → (xB S₉ R) → (aS 75 S₉ = aGw ab 0) → (kJ (aS 75 S₉) (kC S₉)) → Q (.inl none) S₉) : ma_wp X d w 83 0 [(0, .inr (.inr (some 69))), (1, .inr (.inr (some 75)))] [] S Q := by
  refine g_83_69_75_sk_0  (by omega) (by omega) (zG_T hI) ?_
  have li1 : (0 : Int32).toInt = 0 := rfl
  exact lp_83_69_75_sk_2 (by omega) (by omega) K _ _ ((0 : Int32)) rfl hI (by omega) (show xB S R from by first | (exact (xC_o (W := 75) hpre0).2)) (show aGw (aS 75 S) ((0 : Int32)) = aGw ab 0 from by first | (rw [hpre1]) | (exfalso; omega)) (show kJ (aS 75 S) (kC S) from by first | (exact hpre2))

/-! from 95.m41 -/
/-! COUNTS, the class (written by wip/tools/gen20k.py) -/
theorem g_86_69_75_sk_0 {X : Nat × (Nat → Int32)} {d w : Nat} {S : ma_S} {Q : Option ma_V ⊕ Nat → ma_S → Prop}  (hd : 2 ≤ d) (hw : 48 ≤ w) (hS : zT S) (h : ma_wp X d w 86 7 [(0, .inr (.inr (some 69))), (1, .inr (.inr (some 75))), (2, .inl (mI S 69 11)), (3, .inl (0 : Int32))] [] S Q) : ma_wp X d w 86 0 [(0, .inr (.inr (some 69))), (1, .inr (.inr (some 75)))] [] S Q := by
  refine zw_push hm_86 dX7_removeOthers_0 (v := .inr (.inr (some 69))) rfl ?_
  refine zw_gf hm_86 dX7_removeOthers_1 (v := .inl (mI S 69 11)) (zT_is hS s_69) (zT_t hS s_69) rfl f_7_55_7 rfl ?_
  refine zw_sto hm_86 dX7_removeOthers_4 [(2, .inl (mI S 69 11)), (0, .inr (.inr (some 69))), (1, .inr (.inr (some 75)))] rfl rfl rfl ?_
  refine zw_push hm_86 dX7_removeOthers_5 (v := .inl (0 : Int32)) rfl ?_
  refine zw_sto hm_86 dX7_removeOthers_6 [(3, .inl (0 : Int32)), (2, .inl (mI S 69 11)), (0, .inr (.inr (some 69))), (1, .inr (.inr (some 75)))] rfl rfl rfl ?_
  exact zw_sub (ma_nd_of (ks := [0, 1, 2, 3]) rfl (by decide)) (ma_nd_of (ks := [3, 2, 0, 1]) rfl (by decide)) (ma_le_cons rfl (ma_le_cons rfl (ma_le_cons rfl (ma_le_cons rfl (ma_le_nil _))))) h
theorem g_86_69_75_sk_7 {X : Nat × (Nat → Int32)} {d w : Nat} {S : ma_S} {Q : Option ma_V ⊕ Nat → ma_S → Prop} (l2 : Int32) (l3 : Int32) (hd : 2 ≤ d) (hw : 48 ≤ w) (hS : zT S) (h : if (mI S 69 6) ≤ l3 then (Q (.inl (some (.inl ((mI S 69 11) - l2)))) (ma_put S 69 9 (.inl ((mI S 69 9) + (1 : Int32))))) else (if l3 < 0 then (ma_wp X d w 86 7 [(0, .inr (.inr (some 69))), (1, .inr (.inr (some 75))), (2, .inl l2), (3, .inl (l3 + (1 : Int32)))] [] S Q) else (if (512 : Int32) ≤ l3 then (ma_wp X d w 86 7 [(0, .inr (.inr (some 69))), (1, .inr (.inr (some 75))), (2, .inl l2), (3, .inl (l3 + (1 : Int32)))] [] S Q) else ((0 ≤ l3 ∧ l3.toNatClampNeg < 512) ∧ (((mR S 70 l3.toNatClampNeg) = none → ma_wp X d w 86 7 [(0, .inr (.inr (some 69))), (1, .inr (.inr (some 75))), (2, .inl l2), (3, .inl (l3 + (1 : Int32)))] [] S Q) ∧ (∀ c1, (mR S 70 l3.toNatClampNeg) = some c1 → (126 ≤ c1 ∧ c1 < mN S) ∧ (if (mI S c1 4) < (mI S 75 5) then (ma_wp X d w 86 7 [(0, .inr (.inr (some 69))), (1, .inr (.inr (some 75))), (2, .inl l2), (3, .inl (l3 + (1 : Int32)))] [] S Q) else ((126 ≤ c1 ∧ c1 < mN S) ∧ (if (512 : Int32) ≤ (mI S c1 0) then (ma_wp X (d - 1) (w - 23) 87 0 [(0, .inr (.inr (some 69))), (1, .inr (.inr (some c1)))] [] S (zv (fun S2 => zT S2 ∧ (ma_wp X d w 86 7 [(0, .inr (.inr (some 69))), (1, .inr (.inr (some 75))), (2, .inl l2), (3, .inl (l3 + (1 : Int32)))] [] S2 Q)) (fun x S9 => Q (.inr x) S9))) else ((126 ≤ c1 ∧ c1 < mN S) ∧ ((0 ≤ (mI S c1 0) ∧ (mI S c1 0).toNatClampNeg < 512) ∧ (if (mI S 77 (mI S c1 0).toNatClampNeg) = 0 then (ma_wp X (d - 1) (w - 23) 87 0 [(0, .inr (.inr (some 69))), (1, .inr (.inr (some c1)))] [] S (zv (fun S4 => zT S4 ∧ (ma_wp X d w 86 7 [(0, .inr (.inr (some 69))), (1, .inr (.inr (some 75))), (2, .inl l2), (3, .inl (l3 + (1 : Int32)))] [] S4 Q)) (fun x S9 => Q (.inr x) S9))) else (ma_wp X d w 86 7 [(0, .inr (.inr (some 69))), (1, .inr (.inr (some 75))), (2, .inl l2), (3, .inl (l3 + (1 : Int32)))] [] S Q))))))))))))) : ma_wp X d w 86 7 [(0, .inr (.inr (some 69))), (1, .inr (.inr (some 75))), (2, .inl l2), (3, .inl l3)] [] S Q := by
  refine zw_push hm_86 dX7_removeOthers_7 (v := .inl l3) rfl ?_
  refine zw_push hm_86 dX7_removeOthers_8 (v := .inr (.inr (some 69))) rfl ?_
  refine zw_gf hm_86 dX7_removeOthers_9 (v := .inl (mI S 69 6)) (zT_is hS s_69) (zT_t hS s_69) rfl f_7_40_7 rfl ?_
  refine zw_if2 hm_86 dX7_removeOthers_12 (t := 48) rfl zc2_ge ?_ ?_
  · intro hc
    rw [if_pos hc] at h
    refine zw_push hm_86 dX7_removeOthers_48 (v := .inr (.inr (some 69))) rfl ?_
    refine zw_stk hm_86 dX7_removeOthers_49 (st₉ := [.inr (.inr (some 69)), .inr (.inr (some 69))]) rfl rfl ?_
    refine zw_gf hm_86 dX7_removeOthers_50 (v := .inl (mI S 69 9)) (zT_is hS s_69) (zT_t hS s_69) rfl f_7_49_7 rfl ?_
    refine zw_push hm_86 dX7_removeOthers_53 (v := .inl (1 : Int32)) rfl ?_
    refine zw_stk hm_86 dX7_removeOthers_54 (st₉ := [.inl ((mI S 69 9) + (1 : Int32)), .inr (.inr (some 69))]) rfl rfl ?_
    refine zw_pf hm_86 dX7_removeOthers_55 (zT_is hS s_69) (zT_t hS s_69) p_7_49_7 zk_int ?_
    refine zw_push hm_86 dX7_removeOthers_58 (v := .inr (.inr (some 69))) rfl ?_
    refine zw_gf hm_86 dX7_removeOthers_59 (v := .inl (mI S 69 11)) (zT_is (zT_pi hS) s_69) (zT_t (zT_pi hS) s_69) rfl f_7_55_7 rfl ?_
    refine zw_push hm_86 dX7_removeOthers_62 (v := .inl l2) rfl ?_
    refine zw_stk hm_86 dX7_removeOthers_63 (st₉ := [.inl ((mI S 69 11) - l2)]) rfl rfl ?_
    exact zw_iret hm_86 dX7_removeOthers_64 h
  · intro hc
    rw [if_neg hc] at h
    refine zw_push hm_86 dX7_removeOthers_15 (v := .inr (.inr (some 69))) rfl ?_
    refine zw_push hm_86 dX7_removeOthers_16 (v := .inl l3) rfl ?_
    refine zw_cv hm_86 dX7_removeOthers_17 v_7_94_7 hm_81 [.inl l3] [] rfl (zT_rt hS s_69 rfl) ⟨by omega, by omega⟩ rfl ?_
    show ma_wp X (d - 1) (w - 21) 81 0 [(0, .inr (.inr (some 69))), (1, .inl l3)] [] S _
    refine zw_push hm_81 dX7_thingAt_0 (v := .inl l3) rfl ?_
    refine zw_if0 hm_81 dX7_thingAt_1 (t := 20) rfl zc0_lt ?_ ?_
    · intro hc
      rw [if_pos hc] at h
      refine zw_push hm_81 dX7_thingAt_20 (v := .inr (.inr none)) rfl ?_
      refine zw_aret hm_81 dX7_thingAt_21 ?_
      show ma_wp X d w 86 20 [(0, .inr (.inr (some 69))), (1, .inr (.inr (some 75))), (2, .inl l2), (3, .inl l3)] [.inr (.inr none)] S _
      refine zw_sto hm_86 dX7_removeOthers_20 [(4, .inr (.inr none)), (0, .inr (.inr (some 69))), (1, .inr (.inr (some 75))), (2, .inl l2), (3, .inl l3)] rfl rfl rfl ?_
      refine zw_push hm_86 dX7_removeOthers_22 (v := .inr (.inr none)) rfl ?_
      refine zw_ifnull hm_86 dX7_removeOthers_24 (t := 42) rfl (fun _ => ?_) (fun _ z => by cases z)
      refine zw_sto hm_86 dX7_removeOthers_42 [(3, .inl (l3 + (1 : Int32))), (4, .inr (.inr none)), (0, .inr (.inr (some 69))), (1, .inr (.inr (some 75))), (2, .inl l2)] rfl rfl rfl ?_
      refine zw_goto hm_86 dX7_removeOthers_45 (t := 7) rfl ?_
      exact zw_sub (ma_nd_of (ks := [0, 1, 2, 3]) rfl (by decide)) (ma_nd_of (ks := [3, 4, 0, 1, 2]) rfl (by decide)) (ma_le_cons rfl (ma_le_cons rfl (ma_le_cons rfl (ma_le_cons rfl (ma_le_nil _))))) h
    · intro hc
      rw [if_neg hc] at h
      refine zw_push hm_81 dX7_thingAt_4 (v := .inl l3) rfl ?_
      refine zw_push hm_81 dX7_thingAt_5 (v := .inl (512 : Int32)) rfl ?_
      refine zw_if2 hm_81 dX7_thingAt_8 (t := 20) rfl zc2_ge ?_ ?_
      · intro hc
        rw [if_pos hc] at h
        refine zw_push hm_81 dX7_thingAt_20 (v := .inr (.inr none)) rfl ?_
        refine zw_aret hm_81 dX7_thingAt_21 ?_
        show ma_wp X d w 86 20 [(0, .inr (.inr (some 69))), (1, .inr (.inr (some 75))), (2, .inl l2), (3, .inl l3)] [.inr (.inr none)] S _
        refine zw_sto hm_86 dX7_removeOthers_20 [(4, .inr (.inr none)), (0, .inr (.inr (some 69))), (1, .inr (.inr (some 75))), (2, .inl l2), (3, .inl l3)] rfl rfl rfl ?_
        refine zw_push hm_86 dX7_removeOthers_22 (v := .inr (.inr none)) rfl ?_
        refine zw_ifnull hm_86 dX7_removeOthers_24 (t := 42) rfl (fun _ => ?_) (fun _ z => by cases z)
        refine zw_sto hm_86 dX7_removeOthers_42 [(3, .inl (l3 + (1 : Int32))), (4, .inr (.inr none)), (0, .inr (.inr (some 69))), (1, .inr (.inr (some 75))), (2, .inl l2)] rfl rfl rfl ?_
        refine zw_goto hm_86 dX7_removeOthers_45 (t := 7) rfl ?_
        exact zw_sub (ma_nd_of (ks := [0, 1, 2, 3]) rfl (by decide)) (ma_nd_of (ks := [3, 4, 0, 1, 2]) rfl (by decide)) (ma_le_cons rfl (ma_le_cons rfl (ma_le_cons rfl (ma_le_cons rfl (ma_le_nil _))))) h
      · intro hc
        rw [if_neg hc] at h
        refine zw_push hm_81 dX7_thingAt_11 (v := .inr (.inr (some 69))) rfl ?_
        refine zw_gf hm_81 dX7_thingAt_12 (v := .inr (.inr (some 70))) (zT_is hS s_69) (zT_t hS s_69) rfl f_7_11_7 (zT_f hS r_69_0) ?_
        refine zw_push hm_81 dX7_thingAt_15 (v := .inl l3) rfl ?_
        obtain ⟨hg, h⟩ := h
        refine zw_aa hm_81 dX7_thingAt_16 (zT_is hS s_70) (zT_h hS s_70) rfl rfl hg rfl ?_
        show ma_wp X (d - 1) (w - 21) 81 17 [(0, .inr (.inr (some 69))), (1, .inl l3)] [.inr (.inr (mR S 70 l3.toNatClampNeg))] S _
        refine zw_goto hm_81 dX7_thingAt_17 (t := 21) rfl ?_
        refine zw_aret hm_81 dX7_thingAt_21 ?_
        show ma_wp X d w 86 20 [(0, .inr (.inr (some 69))), (1, .inr (.inr (some 75))), (2, .inl l2), (3, .inl l3)] [.inr (.inr (mR S 70 l3.toNatClampNeg))] S _
        refine zw_sto hm_86 dX7_removeOthers_20 [(4, .inr (.inr (mR S 70 l3.toNatClampNeg))), (0, .inr (.inr (some 69))), (1, .inr (.inr (some 75))), (2, .inl l2), (3, .inl l3)] rfl rfl rfl ?_
        refine zw_push hm_86 dX7_removeOthers_22 (v := .inr (.inr (mR S 70 l3.toNatClampNeg))) rfl ?_
        refine zw_ifnull hm_86 dX7_removeOthers_24 (t := 42) rfl ?_ ?_
        · intro hc
          have h := h.1 hc
          (try rw [hc])
          show ma_wp X d w 86 42 [(4, .inr (.inr none)), (0, .inr (.inr (some 69))), (1, .inr (.inr (some 75))), (2, .inl l2), (3, .inl l3)] [] S _
          refine zw_sto hm_86 dX7_removeOthers_42 [(3, .inl (l3 + (1 : Int32))), (4, .inr (.inr none)), (0, .inr (.inr (some 69))), (1, .inr (.inr (some 75))), (2, .inl l2)] rfl rfl rfl ?_
          refine zw_goto hm_86 dX7_removeOthers_45 (t := 7) rfl ?_
          exact zw_sub (ma_nd_of (ks := [0, 1, 2, 3]) rfl (by decide)) (ma_nd_of (ks := [3, 4, 0, 1, 2]) rfl (by decide)) (ma_le_cons rfl (ma_le_cons rfl (ma_le_cons rfl (ma_le_cons rfl (ma_le_nil _))))) h
        · intro c1 hc
          have h := h.2 c1 hc
          (try rw [hc])
          show ma_wp X d w 86 27 [(4, .inr (.inr (some c1))), (0, .inr (.inr (some 69))), (1, .inr (.inr (some 75))), (2, .inl l2), (3, .inl l3)] [] S _
          refine zw_push hm_86 dX7_removeOthers_27 (v := .inr (.inr (some 75))) rfl ?_
          refine zw_push hm_86 dX7_removeOthers_28 (v := .inr (.inr (some c1))) rfl ?_
          refine zw_cv hm_86 dX7_removeOthers_30 v_7_128_10 hm_122 [.inr (.inr (some c1))] [] rfl (zT_rt hS s_75 rfl) ⟨by omega, by omega⟩ rfl ?_
          show ma_wp X (d - 1) (w - 21) 122 0 [(0, .inr (.inr (some 75))), (1, .inr (.inr (some c1)))] [] S _
          refine zw_push hm_122 dX10_keeps_0 (v := .inr (.inr (some c1))) rfl ?_
          obtain ⟨hg, h⟩ := h
          refine zw_gf hm_122 dX10_keeps_1 (v := .inl (mI S c1 4)) (zT_tis hS hg) (zT_tt hS hg) rfl f_10_49_9 rfl ?_
          refine zw_push hm_122 dX10_keeps_4 (v := .inr (.inr (some 75))) rfl ?_
          refine zw_gf hm_122 dX10_keeps_5 (v := .inl (mI S 75 5)) (zT_is hS s_75) (zT_t hS s_75) rfl f_10_35_10 rfl ?_
          refine zw_if2 hm_122 dX10_keeps_8 (t := 19) rfl zc2_lt ?_ ?_
          · intro hc
            rw [if_pos hc] at h
            refine zw_push hm_122 dX10_keeps_19 (v := .inl (1 : Int32)) rfl ?_
            refine zw_goto hm_122 dX10_keeps_20 (t := 24) rfl ?_
            refine zw_bret hm_122 dX10_keeps_24 (by decide) ?_
            show ma_wp X d w 86 33 [(4, .inr (.inr (some c1))), (0, .inr (.inr (some 69))), (1, .inr (.inr (some 75))), (2, .inl l2), (3, .inl l3)] [.inl (1 : Int32)] S _
            refine zw_if0 hm_86 dX7_removeOthers_33 (t := 42) rfl zc0_ne (fun _ => ?_) (fun hc => absurd (by decide) hc)
            refine zw_sto hm_86 dX7_removeOthers_42 [(3, .inl (l3 + (1 : Int32))), (4, .inr (.inr (some c1))), (0, .inr (.inr (some 69))), (1, .inr (.inr (some 75))), (2, .inl l2)] rfl rfl rfl ?_
            refine zw_goto hm_86 dX7_removeOthers_45 (t := 7) rfl ?_
            exact zw_sub (ma_nd_of (ks := [0, 1, 2, 3]) rfl (by decide)) (ma_nd_of (ks := [3, 4, 0, 1, 2]) rfl (by decide)) (ma_le_cons rfl (ma_le_cons rfl (ma_le_cons rfl (ma_le_cons rfl (ma_le_nil _))))) h
          · intro hc
            rw [if_neg hc] at h
            refine zw_push hm_122 dX10_keeps_11 (v := .inr (.inr (some 75))) rfl ?_
            refine zw_push hm_122 dX10_keeps_12 (v := .inr (.inr (some c1))) rfl ?_
            refine zw_cv hm_122 dX10_keeps_13 v_10_54_10 hm_123 [.inr (.inr (some c1))] [] rfl (zT_rt hS s_75 rfl) ⟨by omega, by omega⟩ rfl ?_
            show ma_wp X ((d - 1) - 1) ((w - 21) - 21) 123 0 [(0, .inr (.inr (some 75))), (1, .inr (.inr (some c1)))] [] S _
            refine zw_push hm_123 dX10_colourOf_0 (v := .inr (.inr (some c1))) rfl ?_
            obtain ⟨hg, h⟩ := h
            refine zw_gf hm_123 dX10_colourOf_1 (v := .inl (mI S c1 0)) (zT_tis hS hg) (zT_tt hS hg) rfl f_10_58_9 rfl ?_
            refine zw_push hm_123 dX10_colourOf_4 (v := .inl (512 : Int32)) rfl ?_
            refine zw_if2 hm_123 dX10_colourOf_7 (t := 22) rfl zc2_ge ?_ ?_
            · intro hc
              rw [if_pos hc] at h
              refine zw_push hm_123 dX10_colourOf_22 (v := .inl (0 : Int32)) rfl ?_
              refine zw_iret hm_123 dX10_colourOf_23 ?_
              show ma_wp X (d - 1) (w - 21) 122 16 [(0, .inr (.inr (some 75))), (1, .inr (.inr (some c1)))] [.inl (0 : Int32)] S _
              refine zw_if0 hm_122 dX10_keeps_16 (t := 23) rfl zc0_eq (fun _ => ?_) (fun hc => absurd (by decide) hc)
              refine zw_push hm_122 dX10_keeps_23 (v := .inl (0 : Int32)) rfl ?_
              refine zw_bret hm_122 dX10_keeps_24 (by decide) ?_
              show ma_wp X d w 86 33 [(4, .inr (.inr (some c1))), (0, .inr (.inr (some 69))), (1, .inr (.inr (some 75))), (2, .inl l2), (3, .inl l3)] [.inl (0 : Int32)] S _
              refine zw_if0 hm_86 dX7_removeOthers_33 (t := 42) rfl zc0_ne (fun hc => absurd hc (by decide)) (fun _ => ?_)
              refine zw_push hm_86 dX7_removeOthers_36 (v := .inr (.inr (some 69))) rfl ?_
              refine zw_push hm_86 dX7_removeOthers_37 (v := .inr (.inr (some c1))) rfl ?_
              refine zw_cv hm_86 dX7_removeOthers_39 v_7_144_7 hm_87 [.inr (.inr (some c1))] [] rfl (zT_rt hS s_69 rfl) ⟨by omega, by omega⟩ rfl (zw_mono h (zv_go ?_ ?_))
              · intro S2 hv
                obtain ⟨hS2, h⟩ := hv
                refine zw_sto hm_86 dX7_removeOthers_42 [(3, .inl (l3 + (1 : Int32))), (4, .inr (.inr (some c1))), (0, .inr (.inr (some 69))), (1, .inr (.inr (some 75))), (2, .inl l2)] rfl rfl rfl ?_
                refine zw_goto hm_86 dX7_removeOthers_45 (t := 7) rfl ?_
                exact zw_sub (ma_nd_of (ks := [0, 1, 2, 3]) rfl (by decide)) (ma_nd_of (ks := [3, 4, 0, 1, 2]) rfl (by decide)) (ma_le_cons rfl (ma_le_cons rfl (ma_le_cons rfl (ma_le_cons rfl (ma_le_nil _))))) h
              · intro x S9 hx
                exact ⟨by decide, hx⟩
            · intro hc
              rw [if_neg hc] at h
              refine zw_push hm_123 dX10_colourOf_10 (v := .inr (.inr (some 75))) rfl ?_
              refine zw_gf hm_123 dX10_colourOf_11 (v := .inr (.inr (some 77))) (zT_is hS s_75) (zT_t hS s_75) rfl f_10_15_10 (zT_f hS r_75_2) ?_
              refine zw_push hm_123 dX10_colourOf_14 (v := .inr (.inr (some c1))) rfl ?_
              obtain ⟨hg, h⟩ := h
              refine zw_gf hm_123 dX10_colourOf_15 (v := .inl (mI S c1 0)) (zT_tis hS hg) (zT_tt hS hg) rfl f_10_58_9 rfl ?_
              obtain ⟨hg, h⟩ := h
              refine zw_ia hm_123 dX10_colourOf_18 (zT_is hS s_77) (zT_h hS s_77) rfl hg ?_
              show ma_wp X ((d - 1) - 1) ((w - 21) - 21) 123 19 [(0, .inr (.inr (some 75))), (1, .inr (.inr (some c1)))] [.inl (mI S 77 (mI S c1 0).toNatClampNeg)] S _
              refine zw_goto hm_123 dX10_colourOf_19 (t := 23) rfl ?_
              refine zw_iret hm_123 dX10_colourOf_23 ?_
              show ma_wp X (d - 1) (w - 21) 122 16 [(0, .inr (.inr (some 75))), (1, .inr (.inr (some c1)))] [.inl (mI S 77 (mI S c1 0).toNatClampNeg)] S _
              refine zw_if0 hm_122 dX10_keeps_16 (t := 23) rfl zc0_eq ?_ ?_
              · intro hc
                rw [if_pos hc] at h
                refine zw_push hm_122 dX10_keeps_23 (v := .inl (0 : Int32)) rfl ?_
                refine zw_bret hm_122 dX10_keeps_24 (by decide) ?_
                show ma_wp X d w 86 33 [(4, .inr (.inr (some c1))), (0, .inr (.inr (some 69))), (1, .inr (.inr (some 75))), (2, .inl l2), (3, .inl l3)] [.inl (0 : Int32)] S _
                refine zw_if0 hm_86 dX7_removeOthers_33 (t := 42) rfl zc0_ne (fun hc => absurd hc (by decide)) (fun _ => ?_)
                refine zw_push hm_86 dX7_removeOthers_36 (v := .inr (.inr (some 69))) rfl ?_
                refine zw_push hm_86 dX7_removeOthers_37 (v := .inr (.inr (some c1))) rfl ?_
                refine zw_cv hm_86 dX7_removeOthers_39 v_7_144_7 hm_87 [.inr (.inr (some c1))] [] rfl (zT_rt hS s_69 rfl) ⟨by omega, by omega⟩ rfl (zw_mono h (zv_go ?_ ?_))
                · intro S4 hv
                  obtain ⟨hS4, h⟩ := hv
                  refine zw_sto hm_86 dX7_removeOthers_42 [(3, .inl (l3 + (1 : Int32))), (4, .inr (.inr (some c1))), (0, .inr (.inr (some 69))), (1, .inr (.inr (some 75))), (2, .inl l2)] rfl rfl rfl ?_
                  refine zw_goto hm_86 dX7_removeOthers_45 (t := 7) rfl ?_
                  exact zw_sub (ma_nd_of (ks := [0, 1, 2, 3]) rfl (by decide)) (ma_nd_of (ks := [3, 4, 0, 1, 2]) rfl (by decide)) (ma_le_cons rfl (ma_le_cons rfl (ma_le_cons rfl (ma_le_cons rfl (ma_le_nil _))))) h
                · intro x S9 hx
                  exact ⟨by decide, hx⟩
              · intro hc
                rw [if_neg hc] at h
                refine zw_push hm_122 dX10_keeps_19 (v := .inl (1 : Int32)) rfl ?_
                refine zw_goto hm_122 dX10_keeps_20 (t := 24) rfl ?_
                refine zw_bret hm_122 dX10_keeps_24 (by decide) ?_
                show ma_wp X d w 86 33 [(4, .inr (.inr (some c1))), (0, .inr (.inr (some 69))), (1, .inr (.inr (some 75))), (2, .inl l2), (3, .inl l3)] [.inl (1 : Int32)] S _
                refine zw_if0 hm_86 dX7_removeOthers_33 (t := 42) rfl zc0_ne (fun _ => ?_) (fun hc => absurd (by decide) hc)
                refine zw_sto hm_86 dX7_removeOthers_42 [(3, .inl (l3 + (1 : Int32))), (4, .inr (.inr (some c1))), (0, .inr (.inr (some 69))), (1, .inr (.inr (some 75))), (2, .inl l2)] rfl rfl rfl ?_
                refine zw_goto hm_86 dX7_removeOthers_45 (t := 7) rfl ?_
                exact zw_sub (ma_nd_of (ks := [0, 1, 2, 3]) rfl (by decide)) (ma_nd_of (ks := [3, 4, 0, 1, 2]) rfl (by decide)) (ma_le_cons rfl (ma_le_cons rfl (ma_le_cons rfl (ma_le_cons rfl (ma_le_nil _))))) h
theorem lp_86_69_75_sk_7 {X : Nat × (Nat → Int32)} {d w : Nat} {f : Nat → Nat → Int32} {r : Nat → Nat → Option Nat} {C Z N : Nat} {Q : Option ma_V ⊕ Nat → ma_S → Prop} {ab : Nat→Nat→Int32} (hd : 2 ≤ d) (hw : 48 ≤ w) (K : ∀ v S₉, zI f r C Z N S₉ → (True) → (xB S₉ (mR S₉ 70)) → (aS 75 S₉ = aMv ab 0 ∧ v = aMv ab 0 69 11 - ab 69 11) → (kJ (aS 75 S₉) (kC S₉)) → Q (.inl (some (.inl v))) S₉) : ∀ (n : Nat) (S : ma_S) (l2 : Int32) (l3 : Int32), (512 - l3.toInt).toNat = n → zI f r C Z N S → (0 ≤ l3.toInt) → (xB S (mR S 70)) → (aMv (aS 75 S) l3 = aMv ab 0) → (l2 = ab 69 11) → (kJ (aS 75 S) (kC S)) → ma_wp X d w 86 7 [(0, .inr (.inr (some 69))), (1, .inr (.inr (some 75))), (2, .inl l2), (3, .inl l3)] [] S Q := by
  intro n
  induction n using Nat.strongRecOn with
  | _ n IH =>
    intro S l2 l3 hmu hI  hi0 hi1 hi2 hi3 hi4
    refine g_86_69_75_sk_7 l2 l3 (by omega) (by omega) (zG_T hI) ?_
    have r6 := congrArg Int32.toInt (aS_I (W := 75) (S := S) (c := 69) (c₉ := 69) (k := 6) rfl rfl)
    have f1 := zG_s hI (0) (512) (c := 69) (k := 6) (by decide)
    have b2 := i_bd l3
    refine zd (fun h3 => ?_) (fun h3 => ?_)
    · skip
      have g4 := i_le h3
      have hI5 : zI f r C Z N (ma_put S 69 9 (.inl ((mI S 69 9) + (1 : Int32)))) := zG_fr hI rfl (by decide) (by decide) (by decide) trivial
      have b6 := i_bd (mI S 69 11)
      have b7 := i_bd l2
      first | have e8 : ((mI S 69 11) - l2).toInt = (mI S 69 11).toInt - l2.toInt := i_sub (by omega) (by omega) | have b9 := i_bd ((mI S 69 11) - l2)
      exact K (((mI S 69 11) - l2)) _ hI5 trivial (show xB (ma_put S 69 9 (.inl ((mI S 69 9) + (1 : Int32)))) (mR (ma_put S 69 9 (.inl ((mI S 69 9) + (1 : Int32)))) 70) from by first | (exact xB_x (xC_n (c := 69) (k := 9) (x := ((mI S 69 9) + (1 : Int32))) (xC_o (W := 75) hi1) ⟨by decide, Or.inl ⟨rfl, rfl⟩⟩).2)) (show aS 75 (ma_put S 69 9 (.inl ((mI S 69 9) + (1 : Int32)))) = aMv ab 0 ∧ ((mI S 69 11) - l2) = aMv ab 0 69 11 - ab 69 11 from by first | (have z := (xC_n (c := 69) (k := 9) (x := ((mI S 69 9) + (1 : Int32))) (xC_o (W := 75) hi1) ⟨by decide, Or.inl ⟨rfl, rfl⟩⟩).1; exact ⟨z.trans ((aMv_st (by omega)).symm.trans hi2), (by rw [← hi3, ← hi2, aMv_st (by omega), (aS_I (W := 75) (S := S) (c := 69) (c₉ := 69) (k := 11) rfl rfl)])⟩)) (show kJ (aS 75 (ma_put S 69 9 (.inl ((mI S 69 9) + (1 : Int32))))) (kC (ma_put S 69 9 (.inl ((mI S 69 9) + (1 : Int32))))) from by first | (rw [(xC_n (c := 69) (k := 9) (x := ((mI S 69 9) + (1 : Int32))) (xC_o (W := 75) hi1) ⟨by decide, Or.inl ⟨rfl, rfl⟩⟩).1, (xK_n (c := 69) (k := 9) (x := ((mI S 69 9) + (1 : Int32))) (xK_o (W := 75) hi1 rfl) ⟨by decide, Or.inl ⟨rfl, rfl⟩⟩).2]; exact hi4) | (exact hi4))
    · skip
      have g10 := i_nle h3
      have li11 : (0 : Int32).toInt = 0 := rfl
      refine zd (fun h12 => ?_) (fun h12 => ?_)
      · skip
        have g13 := i_lt h12
        have b14 := i_bd l2
        first | have e15 : (l3 + (1 : Int32)).toInt = l3.toInt + (1) := i_addk rfl (by omega) (by omega) | have b16 := i_bd (l3 + (1 : Int32))
        exact IH _ (by omega) _ (l2) ((l3 + (1 : Int32))) rfl hI (by omega) (show xB S (mR S 70) from by first | (exact xB_x (xC_o (W := 75) hi1).2)) (show aMv (aS 75 S) ((l3 + (1 : Int32))) = aMv ab 0 from by first | (exfalso; omega) | (exact (aMv_n (by omega) (fun z => by omega)).symm.trans hi2)) (show (l2) = ab 69 11 from by first | (exact hi3)) (show kJ (aS 75 S) (kC S) from by first | (rw [(xC_o (W := 75) hi1).1, (xK_o (W := 75) hi1 rfl).2]; exact hi4) | (exact hi4))
      · skip
        have g17 := i_nlt h12
        have li18 : (512 : Int32).toInt = 512 := rfl
        refine zd (fun h19 => ?_) (fun h19 => ?_)
        · skip
          have g20 := i_le h19
          have b21 := i_bd l2
          first | have e22 : (l3 + (1 : Int32)).toInt = l3.toInt + (1) := i_addk rfl (by omega) (by omega) | have b23 := i_bd (l3 + (1 : Int32))
          exact IH _ (by omega) _ (l2) ((l3 + (1 : Int32))) rfl hI (by omega) (show xB S (mR S 70) from by first | (exact xB_x (xC_o (W := 75) hi1).2)) (show aMv (aS 75 S) ((l3 + (1 : Int32))) = aMv ab 0 from by first | (exfalso; omega) | (exact (aMv_n (by omega) (fun z => by omega)).symm.trans hi2)) (show (l2) = ab 69 11 from by first | (exact hi3)) (show kJ (aS 75 S) (kC S) from by first | (rw [(xC_o (W := 75) hi1).1, (xK_o (W := 75) hi1 rfl).2]; exact hi4) | (exact hi4))
        · skip
          have g24 := i_nle h19
          refine ⟨i_ix (by omega) (by omega), ?_⟩
          refine ⟨fun hc => ?_, fun c1 hc => ?_⟩
          · skip
            have rn_c1 : zTa (mR S 70) l3 = none := (ta_rd (y := l3) hi1 (by omega) (by omega)).symm.trans hc
            have b25 := i_bd l2
            first | have e26 : (l3 + (1 : Int32)).toInt = l3.toInt + (1) := i_addk rfl (by omega) (by omega) | have b27 := i_bd (l3 + (1 : Int32))
            exact IH _ (by omega) _ (l2) ((l3 + (1 : Int32))) rfl hI (by omega) (show xB S (mR S 70) from by first | (exact xB_x (xC_o (W := 75) hi1).2)) (show aMv (aS 75 S) ((l3 + (1 : Int32))) = aMv ab 0 from by first | (exfalso; omega) | (exact (aMv_n (by omega) (fun z => xB_nt (W := 75) hi1 rn_c1 ⟨z.1, z.2.1, z.2.2.1⟩)).symm.trans hi2)) (show (l2) = ab 69 11 from by first | (exact hi3)) (show kJ (aS 75 S) (kC S) from by first | (rw [(xC_o (W := 75) hi1).1, (xK_o (W := 75) hi1 rfl).2]; exact hi4) | (exact hi4))
          · skip
            have th_c1 := (fun _ z => zG_70 hI (c := 70) (by decide) z) c1 hc
            have rg_c1 : zTa (mR S 70) l3 = some c1 := (ta_rd (y := l3) hi1 (by omega) (by omega)).symm.trans hc
            refine ⟨zG_n hI th_c1, ?_⟩
            have f28 := zG_th hI th_c1
            have b29 := i_bd (mI S 75 5)
            refine zd (fun h30 => ?_) (fun h30 => ?_)
            · skip
              have g31 := i_lt h30
              have b32 := i_bd l2
              first | have e33 : (l3 + (1 : Int32)).toInt = l3.toInt + (1) := i_addk rfl (by omega) (by omega) | have b34 := i_bd (l3 + (1 : Int32))
              exact IH _ (by omega) _ (l2) ((l3 + (1 : Int32))) rfl hI (by omega) (show xB S (mR S 70) from by first | (exact xB_x (xC_o (W := 75) hi1).2)) (show aMv (aS 75 S) ((l3 + (1 : Int32))) = aMv ab 0 from by first | (exfalso; omega) | (have ty := xB_th (W := 75) hi1 rg_c1; have e4 := congrArg Int32.toInt ty.2.2.2.2.2.1; refine (aMv_n (by omega) (fun z => ?_)).symm.trans hi2; have z4 : (mI S 75 5).toInt ≤ (mI S c1 4).toInt := (by rw [e4]; exact z.2.2.2.1); have z6 : (mI S 77 (mI S c1 0).toNatClampNeg).toInt = 0 := (by rw [ty.2.2.1]; exact congrArg Int32.toInt z.2.2.2.2); omega)) (show (l2) = ab 69 11 from by first | (exact hi3)) (show kJ (aS 75 S) (kC S) from by first | (rw [(xC_o (W := 75) hi1).1, (xK_o (W := 75) hi1 rfl).2]; exact hi4) | (exact hi4))
            · skip
              have g35 := i_nlt h30
              refine ⟨zG_n hI th_c1, ?_⟩
              have f36 := zG_th hI th_c1
              refine zd (fun h37 => ?_) (fun h37 => ?_)
              · skip
                have g38 := i_le h37
                refine sp_87_69_sk (ab := (aS 75 S)) (R := (mR S 70)) (W := 75) (y := l3) (kk := (kC S)) (n0 := (zN0 S)) c1 (by omega) (by omega) hI th_c1 (show xB S (mR S 70) from by first | (exact xB_x (xC_o (W := 75) hi1).2)) (show aS 75 S = (aS 75 S) from by first | (exact rfl)) (show xW 75 from by first | (exact xW88) | (exact xW75)) (show zTa (mR S 70) l3 = some c1 from by first | (exact rg_c1)) (show kC S = (kC S) from by first | (exact rfl)) (show zN0 S = (zN0 S) from by first | (exact rfl)) (fun S2 hI_S2 rp0_S2 rp1_S2 rp2_S2 rp3_S2 => zv_n ⟨zG_T hI_S2, ?_⟩)
                have rp0_S2 : xB S2 (zRu (mR S 70) l3.toNatClampNeg none) := rp0_S2
                have rp1_S2 : aS 75 S2 = aRm (aS 75 S) l3 := rp1_S2
                have rp2_S2 : ∀ n, xAl (aS 75 S) n → n ≠ l3.toNatClampNeg → kC S2 n = (kC S) n - Int32.ofNat (cOb (aS 75 S) l3.toNatClampNeg n) := rp2_S2
                have rp3_S2 : zN0 S2 = (zN0 S) := rp3_S2
                have b39 := i_bd l2
                first | have e40 : (l3 + (1 : Int32)).toInt = l3.toInt + (1) := i_addk rfl (by omega) (by omega) | have b41 := i_bd (l3 + (1 : Int32))
                exact IH _ (by omega) _ (l2) ((l3 + (1 : Int32))) rfl hI_S2 (by omega) (show xB S2 (mR S2 70) from by first | (exact xB_x (xC_o (W := 75) rp0_S2).2)) (show aMv (aS 75 S2) ((l3 + (1 : Int32))) = aMv ab 0 from by first | (exfalso; omega) | (have ty := xB_th (W := 75) hi1 rg_c1; have e4 := congrArg Int32.toInt ty.2.2.2.2.2.1; rw [rp1_S2]; refine (aMv_y (by omega) ⟨ty.1, ty.2.1, (by rw [ty.2.2.2.2.2.2.2.2]; decide), ?_, ?_⟩).symm.trans hi2; (show (mI S 75 5).toInt ≤ _; rw [← e4]; omega); (show mI S 77 _ = 0; rw [← ty.2.2.1]; assumption))) (show (l2) = ab 69 11 from by first | (exact hi3)) (show kJ (aS 75 S2) (kC S2) from by first | (have ty := xB_th (W := 75) hi1 rg_c1; have j := J_rm hi4 ty.1 ⟨zTa_n rg_c1, by rw [ty.2.2.2.2.2.2.2.2]; decide⟩ (fun n hn hne => rp2_S2 n hn hne); rw [← rp1_S2] at j; exact j))
              · skip
                have g42 := i_nle h37
                refine ⟨zG_n hI th_c1, ?_⟩
                refine ⟨i_ix (by omega) (by omega), ?_⟩
                have b43 := i_bd (mI S 77 (mI S c1 0).toNatClampNeg)
                refine zd (fun h44 => ?_) (fun h44 => ?_)
                · skip
                  have g45 := i_eq h44
                  refine sp_87_69_sk (ab := (aS 75 S)) (R := (mR S 70)) (W := 75) (y := l3) (kk := (kC S)) (n0 := (zN0 S)) c1 (by omega) (by omega) hI th_c1 (show xB S (mR S 70) from by first | (exact xB_x (xC_o (W := 75) hi1).2)) (show aS 75 S = (aS 75 S) from by first | (exact rfl)) (show xW 75 from by first | (exact xW88) | (exact xW75)) (show zTa (mR S 70) l3 = some c1 from by first | (exact rg_c1)) (show kC S = (kC S) from by first | (exact rfl)) (show zN0 S = (zN0 S) from by first | (exact rfl)) (fun S4 hI_S4 rp0_S4 rp1_S4 rp2_S4 rp3_S4 => zv_n ⟨zG_T hI_S4, ?_⟩)
                  have rp0_S4 : xB S4 (zRu (mR S 70) l3.toNatClampNeg none) := rp0_S4
                  have rp1_S4 : aS 75 S4 = aRm (aS 75 S) l3 := rp1_S4
                  have rp2_S4 : ∀ n, xAl (aS 75 S) n → n ≠ l3.toNatClampNeg → kC S4 n = (kC S) n - Int32.ofNat (cOb (aS 75 S) l3.toNatClampNeg n) := rp2_S4
                  have rp3_S4 : zN0 S4 = (zN0 S) := rp3_S4
                  have b46 := i_bd l2
                  first | have e47 : (l3 + (1 : Int32)).toInt = l3.toInt + (1) := i_addk rfl (by omega) (by omega) | have b48 := i_bd (l3 + (1 : Int32))
                  exact IH _ (by omega) _ (l2) ((l3 + (1 : Int32))) rfl hI_S4 (by omega) (show xB S4 (mR S4 70) from by first | (exact xB_x (xC_o (W := 75) rp0_S4).2)) (show aMv (aS 75 S4) ((l3 + (1 : Int32))) = aMv ab 0 from by first | (exfalso; omega) | (have ty := xB_th (W := 75) hi1 rg_c1; have e4 := congrArg Int32.toInt ty.2.2.2.2.2.1; rw [rp1_S4]; refine (aMv_y (by omega) ⟨ty.1, ty.2.1, (by rw [ty.2.2.2.2.2.2.2.2]; decide), ?_, ?_⟩).symm.trans hi2; (show (mI S 75 5).toInt ≤ _; rw [← e4]; omega); (show mI S 77 _ = 0; rw [← ty.2.2.1]; assumption))) (show (l2) = ab 69 11 from by first | (exact hi3)) (show kJ (aS 75 S4) (kC S4) from by first | (have ty := xB_th (W := 75) hi1 rg_c1; have j := J_rm hi4 ty.1 ⟨zTa_n rg_c1, by rw [ty.2.2.2.2.2.2.2.2]; decide⟩ (fun n hn hne => rp2_S4 n hn hne); rw [← rp1_S4] at j; exact j))
                · skip
                  have g49 := i_ne h44
                  have b50 := i_bd l2
                  first | have e51 : (l3 + (1 : Int32)).toInt = l3.toInt + (1) := i_addk rfl (by omega) (by omega) | have b52 := i_bd (l3 + (1 : Int32))
                  exact IH _ (by omega) _ (l2) ((l3 + (1 : Int32))) rfl hI (by omega) (show xB S (mR S 70) from by first | (exact xB_x (xC_o (W := 75) hi1).2)) (show aMv (aS 75 S) ((l3 + (1 : Int32))) = aMv ab 0 from by first | (exfalso; omega) | (have ty := xB_th (W := 75) hi1 rg_c1; have e4 := congrArg Int32.toInt ty.2.2.2.2.2.1; refine (aMv_n (by omega) (fun z => ?_)).symm.trans hi2; have z4 : (mI S 75 5).toInt ≤ (mI S c1 4).toInt := (by rw [e4]; exact z.2.2.2.1); have z6 : (mI S 77 (mI S c1 0).toNatClampNeg).toInt = 0 := (by rw [ty.2.2.1]; exact congrArg Int32.toInt z.2.2.2.2); omega)) (show (l2) = ab 69 11 from by first | (exact hi3)) (show kJ (aS 75 S) (kC S) from by first | (rw [(xC_o (W := 75) hi1).1, (xK_o (W := 75) hi1 rfl).2]; exact hi4) | (exact hi4))
theorem sp_86_69_75_sk {X : Nat × (Nat → Int32)} {d w : Nat} {f : Nat → Nat → Int32} {r : Nat → Nat → Option Nat} {C Z N : Nat} {Q : Option ma_V ⊕ Nat → ma_S → Prop} {ab : Nat→Nat→Int32} {S : ma_S}  (hd : 2 ≤ d) (hw : 48 ≤ w) (hI : zI f r C Z N S) (hpre0 : xB S (mR S 70)) (hpre1 : aS 75 S = ab) (hpre2 : kJ (aS 75 S) (kC S)) (K : ∀ v S₉, zI f r C Z N S₉ → (True) → (xB S₉ (mR S₉ 70)) → (aS 75 S₉ = aMv ab 0 ∧ v = aMv ab 0 69 11 - ab 69 11) → (kJ (aS 75 S₉) (kC S₉)) → Q (.inl (some (.inl v))) S₉) : ma_wp X d w 86 0 [(0, .inr (.inr (some 69))), (1, .inr (.inr (some 75)))] [] S Q := by
  refine g_86_69_75_sk_0  (by omega) (by omega) (zG_T hI) ?_
  have b1 := i_bd (mI S 69 11)
  have li2 : (0 : Int32).toInt = 0 := rfl
  exact lp_86_69_75_sk_7 (by omega) (by omega) K _ _ ((mI S 69 11)) ((0 : Int32)) rfl hI (by omega) (show xB S (mR S 70) from by first | (exact xB_x (xC_o (W := 75) hpre0).2)) (show aMv (aS 75 S) ((0 : Int32)) = aMv ab 0 from by first | (rw [hpre1]) | (exfalso; omega)) (show ((mI S 69 11)) = ab 69 11 from by first | (rw [← hpre1, (aS_I (W := 75) (S := S) (c := 69) (c₉ := 69) (k := 11) rfl rfl)])) (show kJ (aS 75 S) (kC S) from by first | (rw [(xC_o (W := 75) hpre0).1, (xK_o (W := 75) hpre0 rfl).2]; exact hpre2) | (exact hpre2))

/-! from 95.m42 -/
/-! COUNTS, the class (written by wip/tools/gen20k.py) -/
theorem g_264_84_sk_0 {X : Nat × (Nat → Int32)} {d w : Nat} {S : ma_S} {Q : Option ma_V ⊕ Nat → ma_S → Prop}  (hd : 3 ≤ d) (hw : 72 ≤ w) (hS : zT S) (h : ma_wp X (d - 1) (w - 20) 116 0 [(0, .inr (.inr (some 75)))] [] S (zv (fun S1 => zT S1 ∧ (ma_wp X (d - 1) (w - 23) 83 0 [(0, .inr (.inr (some 69))), (1, .inr (.inr (some 75)))] [] S1 (zv (fun S3 => zT S3 ∧ (ma_wp X (d - 1) (w - 24) 86 0 [(0, .inr (.inr (some 69))), (1, .inr (.inr (some 75)))] [] S3 (zi (fun v6 S5 => zT S5 ∧ (Q (.inl (some (.inl v6))) S5)) (fun x S9 => Q (.inr x) S9)))) (fun x S9 => Q (.inr x) S9)))) (fun x S9 => Q (.inr x) S9))) : ma_wp X d w 264 0 [(0, .inr (.inr (some 84)))] [] S Q := by
  refine zw_push hm_264 dX1_removeUnreached_0 (v := .inr (.inr (some 84))) rfl ?_
  refine zw_gf hm_264 dX1_removeUnreached_1 (v := .inr (.inr (some 75))) (zT_is hS s_84) (zT_t hS s_84) rfl f_13_15_2 (zT_f hS r_84_4) ?_
  refine zw_cv hm_264 dX1_removeUnreached_4 v_13_19_10 hm_116 [] [] rfl (zT_rt hS s_75 rfl) ⟨by omega, by omega⟩ rfl (zw_mono h (zv_go ?_ ?_))
  · intro S1 hv
    obtain ⟨hS1, h⟩ := hv
    refine zw_push hm_264 dX1_removeUnreached_7 (v := .inr (.inr (some 84))) rfl ?_
    refine zw_gf hm_264 dX1_removeUnreached_8 (v := .inr (.inr (some 69))) (zT_is hS1 s_84) (zT_t hS1 s_84) rfl f_13_9_2 (zT_f hS1 r_84_3) ?_
    refine zw_push hm_264 dX1_removeUnreached_11 (v := .inr (.inr (some 84))) rfl ?_
    refine zw_gf hm_264 dX1_removeUnreached_12 (v := .inr (.inr (some 75))) (zT_is hS1 s_84) (zT_t hS1 s_84) rfl f_13_15_2 (zT_f hS1 r_84_4) ?_
    refine zw_cv hm_264 dX1_removeUnreached_15 v_13_24_7 hm_83 [.inr (.inr (some 75))] [] rfl (zT_rt hS1 s_69 rfl) ⟨by omega, by omega⟩ rfl (zw_mono h (zv_go ?_ ?_))
    · intro S3 hv
      obtain ⟨hS3, h⟩ := hv
      refine zw_push hm_264 dX1_removeUnreached_18 (v := .inr (.inr (some 84))) rfl ?_
      refine zw_gf hm_264 dX1_removeUnreached_19 (v := .inr (.inr (some 69))) (zT_is hS3 s_84) (zT_t hS3 s_84) rfl f_13_9_2 (zT_f hS3 r_84_3) ?_
      refine zw_push hm_264 dX1_removeUnreached_22 (v := .inr (.inr (some 84))) rfl ?_
      refine zw_gf hm_264 dX1_removeUnreached_23 (v := .inr (.inr (some 75))) (zT_is hS3 s_84) (zT_t hS3 s_84) rfl f_13_15_2 (zT_f hS3 r_84_4) ?_
      refine zw_cv hm_264 dX1_removeUnreached_26 v_13_30_7 hm_86 [.inr (.inr (some 75))] [] rfl (zT_rt hS3 s_69 rfl) ⟨by omega, by omega⟩ rfl (zw_mono h (zi_go ?_ ?_))
      · intro v6 S5 hv
        obtain ⟨hS5, h⟩ := hv
        exact zw_iret hm_264 dX1_removeUnreached_29 h
      · intro x S9 hx
        exact ⟨by decide, hx⟩
    · intro x S9 hx
      exact ⟨by decide, hx⟩
  · intro x S9 hx
    exact ⟨by decide, hx⟩
theorem sp_264_84_sk {X : Nat × (Nat → Int32)} {d w : Nat} {f : Nat → Nat → Int32} {r : Nat → Nat → Option Nat} {C Z N : Nat} {Q : Option ma_V ⊕ Nat → ma_S → Prop} {ab : Nat→Nat→Int32} {S : ma_S}  (hd : 3 ≤ d) (hw : 72 ≤ w) (hI : zI f r C Z N S) (hpre0 : xB S (mR S 70)) (hpre1 : aS 75 S = ab) (hpre2 : kJ (aS 75 S) (kC S)) (K : ∀ v S₉, zI f r C Z N S₉ → (True) → (xB S₉ (mR S₉ 70)) → (aS 75 S₉ = aSw ab ∧ v = aSv ab) → (kJ (aS 75 S₉) (kC S₉)) → Q (.inl (some (.inl v))) S₉) : ma_wp X d w 264 0 [(0, .inr (.inr (some 84)))] [] S Q := by
  refine g_264_84_sk_0  (by omega) (by omega) (zG_T hI) ?_
  refine sp_116_75_sk (ab := (aS 75 S)) (R := (mR S 70)) (a8 := (aS 88 S)) (kk := (kC S)) (by omega) (by omega) hI (show xB S (mR S 70) from by first | (exact xB_x (xC_o (W := 75) hpre0).2)) (show aS 75 S = (aS 75 S) from by first | (exact rfl)) (show aS 88 S = (aS 88 S) from by first | (exact rfl)) (show kC S = (kC S) from by first | (exact rfl)) (fun S1 hI_S1 rp0_S1 rp1_S1 rp2_S1 rp3_S1 => zv_n ⟨zG_T hI_S1, ?_⟩)
  have rp0_S1 : xB S1 (mR S 70) := rp0_S1
  have rp1_S1 : aS 75 S1 = aSp 512 (aRo (aWh (aS 75 S) 0) 0) := rp1_S1
  have rp2_S1 : aS 88 S1 = (aS 88 S) := rp2_S1
  have rp3_S1 : kC S1 = (kC S) := rp3_S1
  refine sp_83_69_75_sk (ab := (aS 75 S1)) (R := (mR S1 70)) (by omega) (by omega) hI_S1 (show xB S1 (mR S1 70) from by first | (exact xB_x (xC_o (W := 75) rp0_S1).2)) (show aS 75 S1 = (aS 75 S1) from by first | (exact rfl)) (show kJ (aS 75 S1) (kC S1) from by first | (rw [rp1_S1, rp3_S1]; exact J_o8 (Of_8 RA_zo) hpre2)) (fun S3 hI_S3 rp0_S3 rp1_S3 rp2_S3 => zv_n ⟨zG_T hI_S3, ?_⟩)
  have rp0_S3 : xB S3 (mR S1 70) := rp0_S3
  have rp1_S3 : aS 75 S3 = aGw (aS 75 S1) 0 := rp1_S3
  have rp2_S3 : kJ (aS 75 S3) (kC S3) := rp2_S3
  refine sp_86_69_75_sk (ab := (aS 75 S3)) (by omega) (by omega) hI_S3 (show xB S3 (mR S3 70) from by first | (exact xB_x (xC_o (W := 75) rp0_S3).2)) (show aS 75 S3 = (aS 75 S3) from by first | (exact rfl)) (show kJ (aS 75 S3) (kC S3) from by first | (exact rp2_S3)) (fun v6 S5 hI_S5 hp_v6 rp0_S5 rp1_S5 rp2_S5 => zi_n ⟨zG_T hI_S5, ?_⟩)
  have rp0_S5 : xB S5 (mR S5 70) := rp0_S5
  have rp1_S5 : aS 75 S5 = aMv (aS 75 S3) 0 ∧ v6 = aMv (aS 75 S3) 0 69 11 - (aS 75 S3) 69 11 := rp1_S5
  have rp2_S5 : kJ (aS 75 S5) (kC S5) := rp2_S5
  have b1 := i_bd v6
  exact K (v6) _ hI_S5 trivial (show xB S5 (mR S5 70) from by first | (exact xB_x (xC_o (W := 75) rp0_S5).2)) (show aS 75 S5 = aSw ab ∧ v6 = aSv ab from by first | (have z := rp1_S5; rw [rp1_S3, rp1_S1, hpre1] at z; exact z)) (show kJ (aS 75 S5) (kC S5) from by first | (exact rp2_S5))
theorem g_109_84_sk_0 {X : Nat × (Nat → Int32)} {d w : Nat} {S : ma_S} {Q : Option ma_V ⊕ Nat → ma_S → Prop}  (hd : 4 ≤ d) (hw : 92 ≤ w) (hS : zT S) (h : ma_wp X (d - 1) (w - 20) 264 0 [(0, .inr (.inr (some 84)))] [] S (zi (fun v2 S1 => zT S1 ∧ (Q (.inl (some (.inl v2))) S1)) (fun _ _ => False))) : ma_wp X d w 109 0 [(0, .inr (.inr (some 84)))] [] S Q := by
  refine zw_push hm_109 dX8_cleanAll_0 (v := .inr (.inr (some 84))) rfl ?_
  refine zw_cv hm_109 dX8_cleanAll_1 v_8_37_2 hm_264 [] [] rfl (zT_rt hS s_84 rfl) ⟨by omega, by omega⟩ rfl (zw_mono h (zi_go ?_ ?_))
  · intro v2 S1 hv
    obtain ⟨hS1, h⟩ := hv
    exact zw_iret hm_109 dX8_cleanAll_4 h
  · intro x S9 hx
    exact hx.elim
theorem sp_109_84_sk {X : Nat × (Nat → Int32)} {d w : Nat} {f : Nat → Nat → Int32} {r : Nat → Nat → Option Nat} {C Z N : Nat} {Q : Option ma_V ⊕ Nat → ma_S → Prop} {ab : Nat→Nat→Int32} {fp : Nat→Int32} {S : ma_S}  (hd : 4 ≤ d) (hw : 92 ≤ w) (hI : zJ84 f r C Z N S) (hpre0 : xB S (mR S 70)) (hpre1 : aS 75 S = ab) (hpre2 : (mI S 84) = fp) (hpre3 : kJ (aS 75 S) (kC S)) (K : ∀ v S₉, zJ84 f r C Z N S₉ → (True) → (xB S₉ (mR S₉ 70)) → (aS 75 S₉ = aSw ab ∧ v = aSv ab) → ((mI S₉ 84) = fp) → (kJ (aS 75 S₉) (kC S₉)) → Q (.inl (some (.inl v))) S₉) : ma_wp X d w 109 0 [(0, .inr (.inr (some 84)))] [] S Q := by
  refine g_109_84_sk_0  (by omega) (by omega) (zG_T hI) ?_
  refine sp_264_84_sk (ab := (aS 75 S)) (by omega) (by omega) (zJ84_dn hI) (show xB S (mR S 70) from by first | (exact xB_x (xC_o (W := 75) hpre0).2)) (show aS 75 S = (aS 75 S) from by first | (exact rfl)) (show kJ (aS 75 S) (kC S) from by first | (exact hpre3)) (fun v2 S1 hL_S1 hp_v2 rp0_S1 rp1_S1 rp2_S1 => zi_n ⟨zG_T hL_S1, ?_⟩)
  have hI_S1 := zJ84_up hI hL_S1
  have rp0_S1 : xB S1 (mR S1 70) := by
    have z := rp0_S1
    (try rw [show mI S 65 = f 65 from funext (fun k => zG_z hI rfl)] at z)
    (try rw [show mI S 64 1 = f 64 1 from zG_z hI rfl] at z)
    exact z
  have rp1_S1 : aS 75 S1 = aSw (aS 75 S) ∧ v2 = aSv (aS 75 S) := by
    have z := rp1_S1
    (try rw [show mI S 65 = f 65 from funext (fun k => zG_z hI rfl)] at z)
    (try rw [show mI S 64 1 = f 64 1 from zG_z hI rfl] at z)
    exact z
  have rp2_S1 : kJ (aS 75 S1) (kC S1) := by
    have z := rp2_S1
    (try rw [show mI S 65 = f 65 from funext (fun k => zG_z hI rfl)] at z)
    (try rw [show mI S 64 1 = f 64 1 from zG_z hI rfl] at z)
    exact z
  have b1 := i_bd v2
  exact K (v2) _ hI_S1 trivial (show xB S1 (mR S1 70) from by first | (exact xB_x (xC_o (W := 75) rp0_S1).2)) (show aS 75 S1 = aSw ab ∧ v2 = aSv ab from by first | (rw [← hpre1]; exact rp1_S1)) (show (mI S1 84) = fp from by first | (exact ((show mI S1 84 = mI S 84 from funext (fun _ => zG_z hL_S1 rfl)).trans hpre2))) (show kJ (aS 75 S1) (kC S1) from by first | (exact rp2_S1))
theorem g_104_84_sk_0 {X : Nat × (Nat → Int32)} {d w : Nat} {S : ma_S} {Q : Option ma_V ⊕ Nat → ma_S → Prop} (a : Int32) (b : Int32) (z : Int32) (hd : 2 ≤ d) (hw : 45 ≤ w) (hS : zT S) (h : ma_wp X (d - 1) (w - 23) 105 0 [(0, .inr (.inr (some 84))), (1, .inl a)] [] S (zi (fun v2 S1 => zT S1 ∧ (ma_wp X d w 104 10 [(0, .inr (.inr (some 84))), (2, .inl b), (3, .inl z), (4, .inl v2), (5, .inl (0 : Int32))] [] S1 Q)) (fun x S9 => Q (.inr x) S9))) : ma_wp X d w 104 0 [(0, .inr (.inr (some 84))), (1, .inl a), (2, .inl b), (3, .inl z)] [] S Q := by
  refine zw_push hm_104 dX8_fitFirst_0 (v := .inr (.inr (some 84))) rfl ?_
  refine zw_push hm_104 dX8_fitFirst_1 (v := .inl a) rfl ?_
  refine zw_cv hm_104 dX8_fitFirst_2 v_8_40_2 hm_105 [.inl a] [] rfl (zT_rt hS s_84 rfl) ⟨by omega, by omega⟩ rfl (zw_mono h (zi_go ?_ ?_))
  · intro v2 S1 hv
    obtain ⟨hS1, h⟩ := hv
    refine zw_sto hm_104 dX8_fitFirst_5 [(4, .inl v2), (0, .inr (.inr (some 84))), (1, .inl a), (2, .inl b), (3, .inl z)] rfl rfl rfl ?_
    refine zw_push hm_104 dX8_fitFirst_7 (v := .inl (0 : Int32)) rfl ?_
    refine zw_sto hm_104 dX8_fitFirst_8 [(5, .inl (0 : Int32)), (4, .inl v2), (0, .inr (.inr (some 84))), (1, .inl a), (2, .inl b), (3, .inl z)] rfl rfl rfl ?_
    exact zw_sub (ma_nd_of (ks := [0, 2, 3, 4, 5]) rfl (by decide)) (ma_nd_of (ks := [5, 4, 0, 1, 2, 3]) rfl (by decide)) (ma_le_cons rfl (ma_le_cons rfl (ma_le_cons rfl (ma_le_cons rfl (ma_le_cons rfl (ma_le_nil _)))))) h
  · intro x S9 hx
    exact ⟨by decide, hx⟩
theorem g_104_84_sk_10 {X : Nat × (Nat → Int32)} {d w : Nat} {S : ma_S} {Q : Option ma_V ⊕ Nat → ma_S → Prop} (l2 : Int32) (l3 : Int32) (l4 : Int32) (l5 : Int32) (hd : 2 ≤ d) (hw : 45 ≤ w) (hS : zT S) (h : if (4500 : Int32) ≤ l5 then (Q (.inl (some (.inl (-1 : Int32)))) S) else (if l2 ≤ l4 then (Q (.inl (some (.inl (-1 : Int32)))) S) else (ma_wp X (d - 1) (w - 22) 106 0 [(0, .inr (.inr (some 84))), (1, .inl l4)] [] S (zi (fun v2 S1 => zT S1 ∧ (if (v2 - l4) < l3 then (ma_wp X (d - 1) (w - 23) 105 0 [(0, .inr (.inr (some 84))), (1, .inl v2)] [] (ma_put S1 69 12 (.inl ((mI S1 69 12) + (1 : Int32)))) (zi (fun v4 S3 => zT S3 ∧ (ma_wp X d w 104 10 [(0, .inr (.inr (some 84))), (2, .inl l2), (3, .inl l3), (4, .inl v4), (5, .inl (l5 + (1 : Int32)))] [] S3 Q)) (fun x S9 => Q (.inr x) S9))) else (Q (.inl (some (.inl l4))) (ma_put S1 69 12 (.inl ((mI S1 69 12) + (1 : Int32))))))) (fun x S9 => Q (.inr x) S9))))) : ma_wp X d w 104 10 [(0, .inr (.inr (some 84))), (2, .inl l2), (3, .inl l3), (4, .inl l4), (5, .inl l5)] [] S Q := by
  refine zw_push hm_104 dX8_fitFirst_10 (v := .inl l5) rfl ?_
  refine zw_push hm_104 dX8_fitFirst_12 (v := .inl (4500 : Int32)) rfl ?_
  refine zw_if2 hm_104 dX8_fitFirst_15 (t := 71) rfl zc2_ge ?_ ?_
  · intro hc
    rw [if_pos hc] at h
    refine zw_push hm_104 dX8_fitFirst_71 (v := .inl (-1 : Int32)) rfl ?_
    exact zw_iret hm_104 dX8_fitFirst_72 h
  · intro hc
    rw [if_neg hc] at h
    refine zw_push hm_104 dX8_fitFirst_18 (v := .inl l4) rfl ?_
    refine zw_push hm_104 dX8_fitFirst_20 (v := .inl l2) rfl ?_
    refine zw_if2 hm_104 dX8_fitFirst_21 (t := 71) rfl zc2_ge ?_ ?_
    · intro hc
      rw [if_pos hc] at h
      refine zw_push hm_104 dX8_fitFirst_71 (v := .inl (-1 : Int32)) rfl ?_
      exact zw_iret hm_104 dX8_fitFirst_72 h
    · intro hc
      rw [if_neg hc] at h
      refine zw_push hm_104 dX8_fitFirst_24 (v := .inr (.inr (some 84))) rfl ?_
      refine zw_push hm_104 dX8_fitFirst_25 (v := .inl l4) rfl ?_
      refine zw_cv hm_104 dX8_fitFirst_27 v_8_43_2 hm_106 [.inl l4] [] rfl (zT_rt hS s_84 rfl) ⟨by omega, by omega⟩ rfl (zw_mono h (zi_go ?_ ?_))
      · intro v2 S1 hv
        obtain ⟨hS1, h⟩ := hv
        refine zw_sto hm_104 dX8_fitFirst_30 [(6, .inl v2), (0, .inr (.inr (some 84))), (2, .inl l2), (3, .inl l3), (4, .inl l4), (5, .inl l5)] rfl rfl rfl ?_
        refine zw_push hm_104 dX8_fitFirst_32 (v := .inr (.inr (some 84))) rfl ?_
        refine zw_gf hm_104 dX8_fitFirst_33 (v := .inr (.inr (some 69))) (zT_is hS1 s_84) (zT_t hS1 s_84) rfl f_8_46_2 (zT_f hS1 r_84_3) ?_
        refine zw_stk hm_104 dX8_fitFirst_36 (st₉ := [.inr (.inr (some 69)), .inr (.inr (some 69))]) rfl rfl ?_
        refine zw_gf hm_104 dX8_fitFirst_37 (v := .inl (mI S1 69 12)) (zT_is hS1 s_69) (zT_t hS1 s_69) rfl f_8_67_7 rfl ?_
        refine zw_push hm_104 dX8_fitFirst_40 (v := .inl (1 : Int32)) rfl ?_
        refine zw_stk hm_104 dX8_fitFirst_41 (st₉ := [.inl ((mI S1 69 12) + (1 : Int32)), .inr (.inr (some 69))]) rfl rfl ?_
        refine zw_pf hm_104 dX8_fitFirst_42 (zT_is hS1 s_69) (zT_t hS1 s_69) p_8_67_7 zk_int ?_
        refine zw_push hm_104 dX8_fitFirst_45 (v := .inl v2) rfl ?_
        refine zw_push hm_104 dX8_fitFirst_47 (v := .inl l4) rfl ?_
        refine zw_stk hm_104 dX8_fitFirst_49 (st₉ := [.inl (v2 - l4)]) rfl rfl ?_
        refine zw_push hm_104 dX8_fitFirst_50 (v := .inl l3) rfl ?_
        refine zw_if2 hm_104 dX8_fitFirst_51 (t := 57) rfl zc2_lt ?_ ?_
        · intro hc
          rw [if_pos hc] at h
          refine zw_push hm_104 dX8_fitFirst_57 (v := .inr (.inr (some 84))) rfl ?_
          refine zw_push hm_104 dX8_fitFirst_58 (v := .inl v2) rfl ?_
          refine zw_cv hm_104 dX8_fitFirst_60 v_8_40_2 hm_105 [.inl v2] [] rfl (zT_rt (zT_pi hS1) s_84 rfl) ⟨by omega, by omega⟩ rfl (zw_mono h (zi_go ?_ ?_))
          · intro v4 S3 hv
            obtain ⟨hS3, h⟩ := hv
            refine zw_sto hm_104 dX8_fitFirst_63 [(4, .inl v4), (6, .inl v2), (0, .inr (.inr (some 84))), (2, .inl l2), (3, .inl l3), (5, .inl l5)] rfl rfl rfl ?_
            refine zw_sto hm_104 dX8_fitFirst_65 [(5, .inl (l5 + (1 : Int32))), (4, .inl v4), (6, .inl v2), (0, .inr (.inr (some 84))), (2, .inl l2), (3, .inl l3)] rfl rfl rfl ?_
            refine zw_goto hm_104 dX8_fitFirst_68 (t := 10) rfl ?_
            exact zw_sub (ma_nd_of (ks := [0, 2, 3, 4, 5]) rfl (by decide)) (ma_nd_of (ks := [5, 4, 6, 0, 2, 3]) rfl (by decide)) (ma_le_cons rfl (ma_le_cons rfl (ma_le_cons rfl (ma_le_cons rfl (ma_le_cons rfl (ma_le_nil _)))))) h
          · intro x S9 hx
            exact ⟨by decide, hx⟩
        · intro hc
          rw [if_neg hc] at h
          refine zw_push hm_104 dX8_fitFirst_54 (v := .inl l4) rfl ?_
          exact zw_iret hm_104 dX8_fitFirst_56 h
      · intro x S9 hx
        exact ⟨by decide, hx⟩
theorem lp_104_84_sk_10 {X : Nat × (Nat → Int32)} {d w : Nat} {f : Nat → Nat → Int32} {r : Nat → Nat → Option Nat} {C Z N : Nat} {Q : Option ma_V ⊕ Nat → ma_S → Prop} {ab : Nat→Nat→Int32} {kk : Nat→Int32} {a : Int32} {b : Int32} {z : Int32} (hd : 2 ≤ d) (hw : 45 ≤ w) (K : ∀ v S₉, zJ84 f r C Z N S₉ → (-1 ≤ v.toInt ∧ v.toInt ≤ 1500) → (xB S₉ (mR S₉ 70)) → (kC S₉ = kk) → (aT 84 S₉ = ab) → (v.toInt = aFf ab z.toInt b.toInt 4500 (aN ab a.toInt)) → Q (.inl (some (.inl v))) S₉) : ∀ (n : Nat) (S : ma_S) (l2 : Int32) (l3 : Int32) (l4 : Int32) (l5 : Int32), (4500 - l5.toInt).toNat = n → zJ84 f r C Z N S → (0 ≤ l4.toInt) → (l4.toInt ≤ 1500) → (0 ≤ l5.toInt) → (xB S (mR S 70)) → (kC S = kk) → (aT 84 S = ab) → (aFf ab l3.toInt l2.toInt (4500 - l5.toInt).toNat l4.toInt = aFf ab z.toInt b.toInt 4500 (aN ab a.toInt)) → ma_wp X d w 104 10 [(0, .inr (.inr (some 84))), (2, .inl l2), (3, .inl l3), (4, .inl l4), (5, .inl l5)] [] S Q := by
  intro n
  induction n using Nat.strongRecOn with
  | _ n IH =>
    intro S l2 l3 l4 l5 hmu hI  hi0 hi1 hi2 hi3 hi4 hi5 hi6
    refine g_104_84_sk_10 l2 l3 l4 l5 (by omega) (by omega) (zG_T hI) ?_
    have li1 : (4500 : Int32).toInt = 4500 := rfl
    have b2 := i_bd l5
    refine zd (fun h3 => ?_) (fun h3 => ?_)
    · skip
      have g4 := i_le h3
      have li5 : (-1 : Int32).toInt = -1 := rfl
      exact K ((-1 : Int32)) _ hI (by omega) (show xB S (mR S 70) from by first | (exact xB_x (xC_o (W := 75) hi3).2)) (show kC S = kk from by first | (exact (xK_o (W := 75) hi3 hi4).2)) (show aT 84 S = ab from by first | (exact (tC (P := 84) (xC_o (W := 75) hi3).1 (fun _ => rfl) (fun _ => rfl)).trans hi5)) (show (-1 : Int32).toInt = aFf ab z.toInt b.toInt 4500 (aN ab a.toInt) from by first | (have q := (aFf_st (by omega)).symm.trans hi6; exact q))
    · skip
      have g6 := i_nle h3
      have b7 := i_bd l2
      have b8 := i_bd l4
      refine zd (fun h9 => ?_) (fun h9 => ?_)
      · skip
        have g10 := i_le h9
        have li11 : (-1 : Int32).toInt = -1 := rfl
        exact K ((-1 : Int32)) _ hI (by omega) (show xB S (mR S 70) from by first | (exact xB_x (xC_o (W := 75) hi3).2)) (show kC S = kk from by first | (exact (xK_o (W := 75) hi3 hi4).2)) (show aT 84 S = ab from by first | (exact (tC (P := 84) (xC_o (W := 75) hi3).1 (fun _ => rfl) (fun _ => rfl)).trans hi5)) (show (-1 : Int32).toInt = aFf ab z.toInt b.toInt 4500 (aN ab a.toInt) from by first | (have q := (aFf_st (by omega)).symm.trans hi6; exact q))
      · skip
        have g12 := i_nle h9
        refine sp_106_84_s (ab := (aT 84 S)) (l4) (by omega) (by omega) hI (show xB S (mR S 70) from by first | (exact xB_x (xC_o (W := 75) hi3).2)) (show aT 84 S = (aT 84 S) from by first | (exact rfl) | (exact hi5)) (by omega) (by omega) (fun v2 S1 eS_S1 hp_v2 rp0_S1 => zi_n ⟨(by rw [eS_S1]; exact zG_T hI), ?_⟩)
        replace eS_S1 := eS_S1.symm; subst eS_S1
        have rp0_S1 : v2.toInt = aE (aT 84 S) l4.toInt := rp0_S1
        have b13 := i_bd v2
        first | have e14 : (v2 - l4).toInt = v2.toInt - l4.toInt := i_sub (by omega) (by omega) | have b15 := i_bd (v2 - l4)
        have b16 := i_bd l3
        refine zd (fun h17 => ?_) (fun h17 => ?_)
        · skip
          have g18 := i_lt h17
          have hI19 : zJ84 f r C Z N (ma_put S 69 12 (.inl ((mI S 69 12) + (1 : Int32)))) := zG_fr hI rfl (by decide) (by decide) (by decide) trivial
          refine sp_105_84_s (ab := (aT 84 (ma_put S 69 12 (.inl ((mI S 69 12) + (1 : Int32)))))) (v2) (by omega) (by omega) hI19 (show xB (ma_put S 69 12 (.inl ((mI S 69 12) + (1 : Int32)))) (mR (ma_put S 69 12 (.inl ((mI S 69 12) + (1 : Int32)))) 70) from by first | (exact xB_x (xC_n (c := 69) (k := 12) (x := ((mI S 69 12) + (1 : Int32))) (xC_o (W := 75) hi3) ⟨by decide, Or.inl ⟨rfl, rfl⟩⟩).2)) (show aT 84 (ma_put S 69 12 (.inl ((mI S 69 12) + (1 : Int32)))) = (aT 84 (ma_put S 69 12 (.inl ((mI S 69 12) + (1 : Int32))))) from by first | (exact rfl) | (exact hi5)) (by omega) (fun v4 S3 eS_S3 hp_v4 rp0_S3 => zi_n ⟨(by rw [eS_S3]; exact zG_T hI19), ?_⟩)
          replace eS_S3 := eS_S3.symm; subst eS_S3
          have rp0_S3 : v4.toInt = aN (aT 84 (ma_put S 69 12 (.inl ((mI S 69 12) + (1 : Int32))))) v2.toInt := rp0_S3
          have b20 := i_bd v4
          first | have e21 : (l5 + (1 : Int32)).toInt = l5.toInt + (1) := i_addk rfl (by omega) (by omega) | have b22 := i_bd (l5 + (1 : Int32))
          exact IH _ (by omega) _ (l2) (l3) (v4) ((l5 + (1 : Int32))) rfl hI19 (by omega) (by omega) (by omega) (show xB (ma_put S 69 12 (.inl ((mI S 69 12) + (1 : Int32)))) (mR (ma_put S 69 12 (.inl ((mI S 69 12) + (1 : Int32)))) 70) from by first | (exact xB_x (xC_n (c := 69) (k := 12) (x := ((mI S 69 12) + (1 : Int32))) (xC_o (W := 75) hi3) ⟨by decide, Or.inl ⟨rfl, rfl⟩⟩).2)) (show kC (ma_put S 69 12 (.inl ((mI S 69 12) + (1 : Int32)))) = kk from by first | (exact (xK_n (c := 69) (k := 12) (x := ((mI S 69 12) + (1 : Int32))) (xK_o (W := 75) hi3 hi4) ⟨by decide, Or.inl ⟨rfl, rfl⟩⟩).2)) (show aT 84 (ma_put S 69 12 (.inl ((mI S 69 12) + (1 : Int32)))) = ab from by first | (exact (tC (P := 84) (xC_n (c := 69) (k := 12) (x := ((mI S 69 12) + (1 : Int32))) (xC_o (W := 75) hi3) ⟨by decide, Or.inl ⟨rfl, rfl⟩⟩).1 (fun _ => rfl) (fun _ => rfl)).trans hi5)) (show aFf ab (l3).toInt (l2).toInt (4500 - ((l5 + (1 : Int32))).toInt).toNat (v4).toInt = aFf ab z.toInt b.toInt 4500 (aN ab a.toInt) from by first | (have e1 := rp0_S1; rw [hi5] at e1; have e2 := rp0_S3; rw [(tC (P := 84) (xC_n (c := 69) (k := 12) (x := ((mI S 69 12) + (1 : Int32))) (xC_o (W := 75) hi3) ⟨by decide, Or.inl ⟨rfl, rfl⟩⟩).1 (fun _ => rfl) (fun _ => rfl)), hi5, e1] at e2; rw [e2]; exact ((congrArg (fun q => aFf ab l3.toInt l2.toInt q l4.toInt) (show (4500 - l5.toInt).toNat = (4500 - (l5 + (1 : Int32)).toInt).toNat + 1 by omega)).trans (aFf_n (by omega) (by omega))).symm.trans hi6))
        · skip
          have g23 := i_nlt h17
          have hI24 : zJ84 f r C Z N (ma_put S 69 12 (.inl ((mI S 69 12) + (1 : Int32)))) := zG_fr hI rfl (by decide) (by decide) (by decide) trivial
          exact K (l4) _ hI24 (by omega) (show xB (ma_put S 69 12 (.inl ((mI S 69 12) + (1 : Int32)))) (mR (ma_put S 69 12 (.inl ((mI S 69 12) + (1 : Int32)))) 70) from by first | (exact xB_x (xC_n (c := 69) (k := 12) (x := ((mI S 69 12) + (1 : Int32))) (xC_o (W := 75) hi3) ⟨by decide, Or.inl ⟨rfl, rfl⟩⟩).2)) (show kC (ma_put S 69 12 (.inl ((mI S 69 12) + (1 : Int32)))) = kk from by first | (exact (xK_n (c := 69) (k := 12) (x := ((mI S 69 12) + (1 : Int32))) (xK_o (W := 75) hi3 hi4) ⟨by decide, Or.inl ⟨rfl, rfl⟩⟩).2)) (show aT 84 (ma_put S 69 12 (.inl ((mI S 69 12) + (1 : Int32)))) = ab from by first | (exact (tC (P := 84) (xC_n (c := 69) (k := 12) (x := ((mI S 69 12) + (1 : Int32))) (xC_o (W := 75) hi3) ⟨by decide, Or.inl ⟨rfl, rfl⟩⟩).1 (fun _ => rfl) (fun _ => rfl)).trans hi5)) (show l4.toInt = aFf ab z.toInt b.toInt 4500 (aN ab a.toInt) from by first | (have e1 := rp0_S1; rw [hi5] at e1; have q := ((congrArg (fun q => aFf ab l3.toInt l2.toInt q l4.toInt) (show (4500 - l5.toInt).toNat = (4500 - l5.toInt - 1).toNat + 1 by omega)).trans (aFf_y (by omega) (by omega))).symm.trans hi6; exact q))
theorem sp_104_84_sk {X : Nat × (Nat → Int32)} {d w : Nat} {f : Nat → Nat → Int32} {r : Nat → Nat → Option Nat} {C Z N : Nat} {Q : Option ma_V ⊕ Nat → ma_S → Prop} {ab : Nat→Nat→Int32} {kk : Nat→Int32} {S : ma_S} (a : Int32) (b : Int32) (z : Int32) (hd : 2 ≤ d) (hw : 45 ≤ w) (hI : zJ84 f r C Z N S) (hpre0 : xB S (mR S 70)) (hpre1 : kC S = kk) (hpre2 : aT 84 S = ab) (hpre3 : 0 ≤ a.toInt) (K : ∀ v S₉, zJ84 f r C Z N S₉ → (-1 ≤ v.toInt ∧ v.toInt ≤ 1500) → (xB S₉ (mR S₉ 70)) → (kC S₉ = kk) → (aT 84 S₉ = ab) → (v.toInt = aFf ab z.toInt b.toInt 4500 (aN ab a.toInt)) → Q (.inl (some (.inl v))) S₉) : ma_wp X d w 104 0 [(0, .inr (.inr (some 84))), (1, .inl a), (2, .inl b), (3, .inl z)] [] S Q := by
  refine g_104_84_sk_0 a b z (by omega) (by omega) (zG_T hI) ?_
  have b1 := i_bd a
  refine sp_105_84_s (ab := (aT 84 S)) (a) (by omega) (by omega) hI (show xB S (mR S 70) from by first | (exact xB_x (xC_o (W := 75) hpre0).2)) (show aT 84 S = (aT 84 S) from by first | (exact rfl) | (exact hpre2)) (by omega) (fun v2 S1 eS_S1 hp_v2 rp0_S1 => zi_n ⟨(by rw [eS_S1]; exact zG_T hI), ?_⟩)
  replace eS_S1 := eS_S1.symm; subst eS_S1
  have rp0_S1 : v2.toInt = aN (aT 84 S) a.toInt := rp0_S1
  have b2 := i_bd b
  have b3 := i_bd z
  have b4 := i_bd v2
  have li5 : (0 : Int32).toInt = 0 := rfl
  exact lp_104_84_sk_10 (by omega) (by omega) K _ _ (b) (z) (v2) ((0 : Int32)) rfl hI (by omega) (by omega) (by omega) (show xB S (mR S 70) from by first | (exact xB_x (xC_o (W := 75) hpre0).2)) (show kC S = kk from by first | (exact (xK_o (W := 75) hpre0 hpre1).2)) (show aT 84 S = ab from by first | (exact (tC (P := 84) (xC_o (W := 75) hpre0).1 (fun _ => rfl) (fun _ => rfl)).trans hpre2)) (show aFf ab (z).toInt (b).toInt (4500 - ((0 : Int32)).toInt).toNat (v2).toInt = aFf ab z.toInt b.toInt 4500 (aN ab a.toInt) from by first | (rw [← hpre2, ← rp0_S1]; rfl))
theorem g_107_84_sk_0 {X : Nat × (Nat → Int32)} {d w : Nat} {S : ma_S} {Q : Option ma_V ⊕ Nat → ma_S → Prop} (n : Int32) (hd : 3 ≤ d) (hw : 71 ≤ w) (hS : zT S) (h : ma_wp X (d - 1) (w - 26) 104 0 [(0, .inr (.inr (some 84))), (1, .inl (mI S 84 2)), (2, .inl (mI S 84 0)), (3, .inl n)] [] S (zi (fun v2 S1 => zT S1 ∧ (if v2 = (-1 : Int32) then (ma_wp X (d - 1) (w - 26) 104 0 [(0, .inr (.inr (some 84))), (1, .inl (0 : Int32)), (2, .inl (mI S1 84 2)), (3, .inl n)] [] S1 (zi (fun v4 S3 => zT S3 ∧ (Q (.inl (some (.inl v4))) S3)) (fun x S9 => Q (.inr x) S9))) else (Q (.inl (some (.inl v2))) S1))) (fun x S9 => Q (.inr x) S9))) : ma_wp X d w 107 0 [(0, .inr (.inr (some 84))), (1, .inl n)] [] S Q := by
  refine zw_push hm_107 dX8_fitNext_0 (v := .inr (.inr (some 84))) rfl ?_
  refine zw_push hm_107 dX8_fitNext_1 (v := .inr (.inr (some 84))) rfl ?_
  refine zw_gf hm_107 dX8_fitNext_2 (v := .inl (mI S 84 2)) (zT_is hS s_84) (zT_t hS s_84) rfl f_8_18_2 rfl ?_
  refine zw_push hm_107 dX8_fitNext_5 (v := .inr (.inr (some 84))) rfl ?_
  refine zw_gf hm_107 dX8_fitNext_6 (v := .inl (mI S 84 0)) (zT_is hS s_84) (zT_t hS s_84) rfl f_8_9_2 rfl ?_
  refine zw_push hm_107 dX8_fitNext_9 (v := .inl n) rfl ?_
  refine zw_cv hm_107 dX8_fitNext_10 v_8_56_2 hm_104 [.inl n, .inl (mI S 84 0), .inl (mI S 84 2)] [] rfl (zT_rt hS s_84 rfl) ⟨by omega, by omega⟩ rfl (zw_mono h (zi_go ?_ ?_))
  · intro v2 S1 hv
    obtain ⟨hS1, h⟩ := hv
    refine zw_sto hm_107 dX8_fitNext_13 [(2, .inl v2), (0, .inr (.inr (some 84))), (1, .inl n)] rfl rfl rfl ?_
    refine zw_push hm_107 dX8_fitNext_14 (v := .inl v2) rfl ?_
    refine zw_push hm_107 dX8_fitNext_15 (v := .inl (-1 : Int32)) rfl ?_
    refine zw_if2 hm_107 dX8_fitNext_16 (t := 23) rfl zc2_eq ?_ ?_
    · intro hc
      rw [if_pos hc] at h
      refine zw_push hm_107 dX8_fitNext_23 (v := .inr (.inr (some 84))) rfl ?_
      refine zw_push hm_107 dX8_fitNext_24 (v := .inl (0 : Int32)) rfl ?_
      refine zw_push hm_107 dX8_fitNext_25 (v := .inr (.inr (some 84))) rfl ?_
      refine zw_gf hm_107 dX8_fitNext_26 (v := .inl (mI S1 84 2)) (zT_is hS1 s_84) (zT_t hS1 s_84) rfl f_8_18_2 rfl ?_
      refine zw_push hm_107 dX8_fitNext_29 (v := .inl n) rfl ?_
      refine zw_cv hm_107 dX8_fitNext_30 v_8_56_2 hm_104 [.inl n, .inl (mI S1 84 2), .inl (0 : Int32)] [] rfl (zT_rt hS1 s_84 rfl) ⟨by omega, by omega⟩ rfl (zw_mono h (zi_go ?_ ?_))
      · intro v4 S3 hv
        obtain ⟨hS3, h⟩ := hv
        exact zw_iret hm_107 dX8_fitNext_33 h
      · intro x S9 hx
        exact ⟨by decide, hx⟩
    · intro hc
      rw [if_neg hc] at h
      refine zw_push hm_107 dX8_fitNext_19 (v := .inl v2) rfl ?_
      refine zw_goto hm_107 dX8_fitNext_20 (t := 33) rfl ?_
      exact zw_iret hm_107 dX8_fitNext_33 h
  · intro x S9 hx
    exact ⟨by decide, hx⟩
theorem sp_107_84_sk {X : Nat × (Nat → Int32)} {d w : Nat} {f : Nat → Nat → Int32} {r : Nat → Nat → Option Nat} {C Z N : Nat} {Q : Option ma_V ⊕ Nat → ma_S → Prop} {ab : Nat→Nat→Int32} {kk : Nat→Int32} {S : ma_S} (n : Int32) (hd : 3 ≤ d) (hw : 71 ≤ w) (hI : zJ84 f r C Z N S) (hpre0 : xB S (mR S 70)) (hpre1 : kC S = kk) (hpre2 : aT 84 S = ab) (K : ∀ v S₉, zJ84 f r C Z N S₉ → (-1 ≤ v.toInt ∧ v.toInt ≤ 1500) → (xB S₉ (mR S₉ 70)) → (kC S₉ = kk) → (aT 84 S₉ = ab) → (v.toInt = aFx ab n.toInt) → Q (.inl (some (.inl v))) S₉) : ma_wp X d w 107 0 [(0, .inr (.inr (some 84))), (1, .inl n)] [] S Q := by
  refine g_107_84_sk_0 n (by omega) (by omega) (zG_T hI) ?_
  have f1 := zG_s hI (0) (400000) (c := 84) (k := 2) (by decide)
  have f2 := zG_s hI (0) (1500) (c := 84) (k := 0) (by decide)
  have b3 := i_bd n
  refine sp_104_84_sk (ab := (aT 84 S)) (kk := kk) ((mI S 84 2)) ((mI S 84 0)) (n) (by omega) (by omega) hI (show xB S (mR S 70) from by first | (exact xB_x (xC_o (W := 75) hpre0).2)) (show kC S = kk from by first | (exact (xK_o (W := 75) hpre0 hpre1).2)) (show aT 84 S = (aT 84 S) from by first | (exact rfl) | (exact (tC (P := 84) (xC_o (W := 75) hpre0).1 (fun _ => rfl) (fun _ => rfl)).trans hpre2)) (by omega) (fun v2 S1 hI_S1 hp_v2 rp0_S1 rp1_S1 rp2_S1 rp3_S1 => zi_n ⟨zG_T hI_S1, ?_⟩)
  have rp0_S1 : xB S1 (mR S1 70) := rp0_S1
  have rp1_S1 : kC S1 = kk := rp1_S1
  have rp2_S1 : aT 84 S1 = (aT 84 S) := rp2_S1
  have rp3_S1 : v2.toInt = aFf (aT 84 S) n.toInt (mI S 84 0).toInt 4500 (aN (aT 84 S) (mI S 84 2).toInt) := rp3_S1
  have b4 := i_bd v2
  have li5 : (-1 : Int32).toInt = -1 := rfl
  refine zd (fun h6 => ?_) (fun h6 => ?_)
  · skip
    have g7 := i_eq h6
    have li8 : (0 : Int32).toInt = 0 := rfl
    have f9 := zG_s hI_S1 (0) (400000) (c := 84) (k := 2) (by decide)
    refine sp_104_84_sk (ab := (aT 84 S1)) (kk := kk) ((0 : Int32)) ((mI S1 84 2)) (n) (by omega) (by omega) hI_S1 (show xB S1 (mR S1 70) from by first | (exact xB_x (xC_o (W := 75) rp0_S1).2)) (show kC S1 = kk from by first | (exact (xK_o (W := 75) rp0_S1 rp1_S1).2)) (show aT 84 S1 = (aT 84 S1) from by first | (exact rfl) | (exact (tC (P := 84) (xC_o (W := 75) rp0_S1).1 (fun _ => rfl) (fun _ => rfl)).trans rp2_S1)) (by omega) (fun v4 S3 hI_S3 hp_v4 rp0_S3 rp1_S3 rp2_S3 rp3_S3 => zi_n ⟨zG_T hI_S3, ?_⟩)
    have rp0_S3 : xB S3 (mR S3 70) := rp0_S3
    have rp1_S3 : kC S3 = kk := rp1_S3
    have rp2_S3 : aT 84 S3 = (aT 84 S1) := rp2_S3
    have rp3_S3 : v4.toInt = aFf (aT 84 S1) n.toInt (mI S1 84 2).toInt 4500 (aN (aT 84 S1) (0 : Int32).toInt) := rp3_S3
    have b10 := i_bd v4
    exact K (v4) _ hI_S3 (by omega) (show xB S3 (mR S3 70) from by first | (exact xB_x (xC_o (W := 75) rp0_S3).2)) (show kC S3 = kk from by first | (exact (xK_o (W := 75) rp0_S3 rp1_S3).2)) (show aT 84 S3 = ab from by first | (exact rp2_S3.trans (rp2_S1.trans (hpre2)))) (show v4.toInt = aFx ab n.toInt from by first | (have e0 : aT 84 S1 = aT 84 S := rp2_S1; have e1 := rp3_S1; have e2 := rp3_S3; rw [← (show aT 84 S1 87 2 = mI S1 84 2 from rfl), e0, (show aT 84 S 87 2 = mI S 84 2 from rfl), show (0 : Int32).toInt = 0 from rfl] at e2; rw [← hpre2]; unfold aFx; rw [(show aT 84 S 87 0 = mI S 84 0 from rfl), (show aT 84 S 87 2 = mI S 84 2 from rfl), ← e1]; rw [← e2]; exact (if_pos (by omega)).symm))
  · skip
    have g11 := i_ne h6
    exact K (v2) _ hI_S1 (by omega) (show xB S1 (mR S1 70) from by first | (exact xB_x (xC_o (W := 75) rp0_S1).2)) (show kC S1 = kk from by first | (exact (xK_o (W := 75) rp0_S1 rp1_S1).2)) (show aT 84 S1 = ab from by first | (exact rp2_S1.trans (hpre2))) (show v2.toInt = aFx ab n.toInt from by first | (have e0 : aT 84 S1 = aT 84 S := rp2_S1; have e1 := rp3_S1; rw [← hpre2]; unfold aFx; rw [(show aT 84 S 87 0 = mI S 84 0 from rfl), (show aT 84 S 87 2 = mI S 84 2 from rfl), ← e1]; exact (if_neg (by omega)).symm))

/-! from 95.m43 -/
/-! COUNTS, the class (written by wip/tools/gen20k.py) -/
theorem g_108_84_sk_0 {X : Nat × (Nat → Int32)} {d w : Nat} {S : ma_S} {Q : Option ma_V ⊕ Nat → ma_S → Prop} (z : Int32) (b : Int32) (hd : 2 ≤ d) (hw : 45 ≤ w) (hS : zT S) (h : ma_wp X (d - 1) (w - 23) 105 0 [(0, .inr (.inr (some 84))), (1, .inl (0 : Int32))] [] S (zi (fun v2 S1 => zT S1 ∧ (ma_wp X d w 108 15 [(0, .inr (.inr (some 84))), (1, .inl z), (2, .inl b), (3, .inl (-1 : Int32)), (4, .inl (0 : Int32)), (5, .inl v2), (6, .inl (0 : Int32))] [] S1 Q)) (fun x S9 => Q (.inr x) S9))) : ma_wp X d w 108 0 [(0, .inr (.inr (some 84))), (1, .inl z), (2, .inl b)] [] S Q := by
  refine zw_push hm_108 dX8_fitByLength_0 (v := .inl (-1 : Int32)) rfl ?_
  refine zw_sto hm_108 dX8_fitByLength_1 [(3, .inl (-1 : Int32)), (0, .inr (.inr (some 84))), (1, .inl z), (2, .inl b)] rfl rfl rfl ?_
  refine zw_push hm_108 dX8_fitByLength_2 (v := .inl (0 : Int32)) rfl ?_
  refine zw_sto hm_108 dX8_fitByLength_3 [(4, .inl (0 : Int32)), (3, .inl (-1 : Int32)), (0, .inr (.inr (some 84))), (1, .inl z), (2, .inl b)] rfl rfl rfl ?_
  refine zw_push hm_108 dX8_fitByLength_5 (v := .inr (.inr (some 84))) rfl ?_
  refine zw_push hm_108 dX8_fitByLength_6 (v := .inl (0 : Int32)) rfl ?_
  refine zw_cv hm_108 dX8_fitByLength_7 v_8_40_2 hm_105 [.inl (0 : Int32)] [] rfl (zT_rt hS s_84 rfl) ⟨by omega, by omega⟩ rfl (zw_mono h (zi_go ?_ ?_))
  · intro v2 S1 hv
    obtain ⟨hS1, h⟩ := hv
    refine zw_sto hm_108 dX8_fitByLength_10 [(5, .inl v2), (4, .inl (0 : Int32)), (3, .inl (-1 : Int32)), (0, .inr (.inr (some 84))), (1, .inl z), (2, .inl b)] rfl rfl rfl ?_
    refine zw_push hm_108 dX8_fitByLength_12 (v := .inl (0 : Int32)) rfl ?_
    refine zw_sto hm_108 dX8_fitByLength_13 [(6, .inl (0 : Int32)), (5, .inl v2), (4, .inl (0 : Int32)), (3, .inl (-1 : Int32)), (0, .inr (.inr (some 84))), (1, .inl z), (2, .inl b)] rfl rfl rfl ?_
    exact zw_sub (ma_nd_of (ks := [0, 1, 2, 3, 4, 5, 6]) rfl (by decide)) (ma_nd_of (ks := [6, 5, 4, 3, 0, 1, 2]) rfl (by decide)) (ma_le_cons rfl (ma_le_cons rfl (ma_le_cons rfl (ma_le_cons rfl (ma_le_cons rfl (ma_le_cons rfl (ma_le_cons rfl (ma_le_nil _)))))))) h
  · intro x S9 hx
    exact ⟨by decide, hx⟩
theorem g_108_84_sk_15 {X : Nat × (Nat → Int32)} {d w : Nat} {S : ma_S} {Q : Option ma_V ⊕ Nat → ma_S → Prop} (l1 : Int32) (l2 : Int32) (l3 : Int32) (l4 : Int32) (l5 : Int32) (l6 : Int32) (hd : 2 ≤ d) (hw : 45 ≤ w) (hS : zT S) (h : if (4500 : Int32) ≤ l6 then (Q (.inl (some (.inl l3))) S) else (if (mI S 84 0) ≤ l5 then (Q (.inl (some (.inl l3))) S) else (ma_wp X (d - 1) (w - 22) 106 0 [(0, .inr (.inr (some 84))), (1, .inl l5)] [] S (zi (fun v2 S1 => zT S1 ∧ (if (v2 - l5) < l1 then (ma_wp X (d - 1) (w - 23) 105 0 [(0, .inr (.inr (some 84))), (1, .inl v2)] [] (ma_put S1 69 12 (.inl ((mI S1 69 12) + (1 : Int32)))) (zi (fun v4 S3 => zT S3 ∧ (ma_wp X d w 108 15 [(0, .inr (.inr (some 84))), (1, .inl l1), (2, .inl l2), (3, .inl l3), (4, .inl l4), (5, .inl v4), (6, .inl (l6 + (1 : Int32)))] [] S3 Q)) (fun x S9 => Q (.inr x) S9))) else (if l3 = (-1 : Int32) then (ma_wp X (d - 1) (w - 23) 105 0 [(0, .inr (.inr (some 84))), (1, .inl v2)] [] (ma_put S1 69 12 (.inl ((mI S1 69 12) + (1 : Int32)))) (zi (fun v6 S5 => zT S5 ∧ (ma_wp X d w 108 15 [(0, .inr (.inr (some 84))), (1, .inl l1), (2, .inl l2), (3, .inl l5), (4, .inl (v2 - l5)), (5, .inl v6), (6, .inl (l6 + (1 : Int32)))] [] S5 Q)) (fun x S9 => Q (.inr x) S9))) else (if l2 = 0 then (if (v2 - l5) ≤ l4 then (ma_wp X (d - 1) (w - 23) 105 0 [(0, .inr (.inr (some 84))), (1, .inl v2)] [] (ma_put S1 69 12 (.inl ((mI S1 69 12) + (1 : Int32)))) (zi (fun v8 S7 => zT S7 ∧ (ma_wp X d w 108 15 [(0, .inr (.inr (some 84))), (1, .inl l1), (2, .inl l2), (3, .inl l3), (4, .inl l4), (5, .inl v8), (6, .inl (l6 + (1 : Int32)))] [] S7 Q)) (fun x S9 => Q (.inr x) S9))) else (ma_wp X (d - 1) (w - 23) 105 0 [(0, .inr (.inr (some 84))), (1, .inl v2)] [] (ma_put S1 69 12 (.inl ((mI S1 69 12) + (1 : Int32)))) (zi (fun v10 S9 => zT S9 ∧ (ma_wp X d w 108 15 [(0, .inr (.inr (some 84))), (1, .inl l1), (2, .inl l2), (3, .inl l5), (4, .inl (v2 - l5)), (5, .inl v10), (6, .inl (l6 + (1 : Int32)))] [] S9 Q)) (fun x S9 => Q (.inr x) S9)))) else (if l4 ≤ (v2 - l5) then (ma_wp X (d - 1) (w - 23) 105 0 [(0, .inr (.inr (some 84))), (1, .inl v2)] [] (ma_put S1 69 12 (.inl ((mI S1 69 12) + (1 : Int32)))) (zi (fun v12 S11 => zT S11 ∧ (ma_wp X d w 108 15 [(0, .inr (.inr (some 84))), (1, .inl l1), (2, .inl l2), (3, .inl l3), (4, .inl l4), (5, .inl v12), (6, .inl (l6 + (1 : Int32)))] [] S11 Q)) (fun x S9 => Q (.inr x) S9))) else (ma_wp X (d - 1) (w - 23) 105 0 [(0, .inr (.inr (some 84))), (1, .inl v2)] [] (ma_put S1 69 12 (.inl ((mI S1 69 12) + (1 : Int32)))) (zi (fun v14 S13 => zT S13 ∧ (ma_wp X d w 108 15 [(0, .inr (.inr (some 84))), (1, .inl l1), (2, .inl l2), (3, .inl l5), (4, .inl (v2 - l5)), (5, .inl v14), (6, .inl (l6 + (1 : Int32)))] [] S13 Q)) (fun x S9 => Q (.inr x) S9)))))))) (fun x S9 => Q (.inr x) S9))))) : ma_wp X d w 108 15 [(0, .inr (.inr (some 84))), (1, .inl l1), (2, .inl l2), (3, .inl l3), (4, .inl l4), (5, .inl l5), (6, .inl l6)] [] S Q := by
  refine zw_push hm_108 dX8_fitByLength_15 (v := .inl l6) rfl ?_
  refine zw_push hm_108 dX8_fitByLength_17 (v := .inl (4500 : Int32)) rfl ?_
  refine zw_if2 hm_108 dX8_fitByLength_20 (t := 113) rfl zc2_ge ?_ ?_
  · intro hc
    rw [if_pos hc] at h
    refine zw_push hm_108 dX8_fitByLength_113 (v := .inl l3) rfl ?_
    exact zw_iret hm_108 dX8_fitByLength_114 h
  · intro hc
    rw [if_neg hc] at h
    refine zw_push hm_108 dX8_fitByLength_23 (v := .inl l5) rfl ?_
    refine zw_push hm_108 dX8_fitByLength_25 (v := .inr (.inr (some 84))) rfl ?_
    refine zw_gf hm_108 dX8_fitByLength_26 (v := .inl (mI S 84 0)) (zT_is hS s_84) (zT_t hS s_84) rfl f_8_9_2 rfl ?_
    refine zw_if2 hm_108 dX8_fitByLength_29 (t := 113) rfl zc2_ge ?_ ?_
    · intro hc
      rw [if_pos hc] at h
      refine zw_push hm_108 dX8_fitByLength_113 (v := .inl l3) rfl ?_
      exact zw_iret hm_108 dX8_fitByLength_114 h
    · intro hc
      rw [if_neg hc] at h
      refine zw_push hm_108 dX8_fitByLength_32 (v := .inr (.inr (some 84))) rfl ?_
      refine zw_push hm_108 dX8_fitByLength_33 (v := .inl l5) rfl ?_
      refine zw_cv hm_108 dX8_fitByLength_35 v_8_43_2 hm_106 [.inl l5] [] rfl (zT_rt hS s_84 rfl) ⟨by omega, by omega⟩ rfl (zw_mono h (zi_go ?_ ?_))
      · intro v2 S1 hv
        obtain ⟨hS1, h⟩ := hv
        refine zw_sto hm_108 dX8_fitByLength_38 [(7, .inl v2), (0, .inr (.inr (some 84))), (1, .inl l1), (2, .inl l2), (3, .inl l3), (4, .inl l4), (5, .inl l5), (6, .inl l6)] rfl rfl rfl ?_
        refine zw_push hm_108 dX8_fitByLength_40 (v := .inl v2) rfl ?_
        refine zw_push hm_108 dX8_fitByLength_42 (v := .inl l5) rfl ?_
        refine zw_stk hm_108 dX8_fitByLength_44 (st₉ := [.inl (v2 - l5)]) rfl rfl ?_
        refine zw_sto hm_108 dX8_fitByLength_45 [(8, .inl (v2 - l5)), (7, .inl v2), (0, .inr (.inr (some 84))), (1, .inl l1), (2, .inl l2), (3, .inl l3), (4, .inl l4), (5, .inl l5), (6, .inl l6)] rfl rfl rfl ?_
        refine zw_push hm_108 dX8_fitByLength_47 (v := .inr (.inr (some 84))) rfl ?_
        refine zw_gf hm_108 dX8_fitByLength_48 (v := .inr (.inr (some 69))) (zT_is hS1 s_84) (zT_t hS1 s_84) rfl f_8_46_2 (zT_f hS1 r_84_3) ?_
        refine zw_stk hm_108 dX8_fitByLength_51 (st₉ := [.inr (.inr (some 69)), .inr (.inr (some 69))]) rfl rfl ?_
        refine zw_gf hm_108 dX8_fitByLength_52 (v := .inl (mI S1 69 12)) (zT_is hS1 s_69) (zT_t hS1 s_69) rfl f_8_67_7 rfl ?_
        refine zw_push hm_108 dX8_fitByLength_55 (v := .inl (1 : Int32)) rfl ?_
        refine zw_stk hm_108 dX8_fitByLength_56 (st₉ := [.inl ((mI S1 69 12) + (1 : Int32)), .inr (.inr (some 69))]) rfl rfl ?_
        refine zw_pf hm_108 dX8_fitByLength_57 (zT_is hS1 s_69) (zT_t hS1 s_69) p_8_67_7 zk_int ?_
        refine zw_push hm_108 dX8_fitByLength_60 (v := .inl (v2 - l5)) rfl ?_
        refine zw_push hm_108 dX8_fitByLength_62 (v := .inl l1) rfl ?_
        refine zw_if2 hm_108 dX8_fitByLength_63 (t := 99) rfl zc2_lt ?_ ?_
        · intro hc
          rw [if_pos hc] at h
          refine zw_push hm_108 dX8_fitByLength_99 (v := .inr (.inr (some 84))) rfl ?_
          refine zw_push hm_108 dX8_fitByLength_100 (v := .inl v2) rfl ?_
          refine zw_cv hm_108 dX8_fitByLength_102 v_8_40_2 hm_105 [.inl v2] [] rfl (zT_rt (zT_pi hS1) s_84 rfl) ⟨by omega, by omega⟩ rfl (zw_mono h (zi_go ?_ ?_))
          · intro v4 S3 hv
            obtain ⟨hS3, h⟩ := hv
            refine zw_sto hm_108 dX8_fitByLength_105 [(5, .inl v4), (8, .inl (v2 - l5)), (7, .inl v2), (0, .inr (.inr (some 84))), (1, .inl l1), (2, .inl l2), (3, .inl l3), (4, .inl l4), (6, .inl l6)] rfl rfl rfl ?_
            refine zw_sto hm_108 dX8_fitByLength_107 [(6, .inl (l6 + (1 : Int32))), (5, .inl v4), (8, .inl (v2 - l5)), (7, .inl v2), (0, .inr (.inr (some 84))), (1, .inl l1), (2, .inl l2), (3, .inl l3), (4, .inl l4)] rfl rfl rfl ?_
            refine zw_goto hm_108 dX8_fitByLength_110 (t := 15) rfl ?_
            exact zw_sub (ma_nd_of (ks := [0, 1, 2, 3, 4, 5, 6]) rfl (by decide)) (ma_nd_of (ks := [6, 5, 8, 7, 0, 1, 2, 3, 4]) rfl (by decide)) (ma_le_cons rfl (ma_le_cons rfl (ma_le_cons rfl (ma_le_cons rfl (ma_le_cons rfl (ma_le_cons rfl (ma_le_cons rfl (ma_le_nil _)))))))) h
          · intro x S9 hx
            exact ⟨by decide, hx⟩
        · intro hc
          rw [if_neg hc] at h
          refine zw_push hm_108 dX8_fitByLength_66 (v := .inl l3) rfl ?_
          refine zw_push hm_108 dX8_fitByLength_67 (v := .inl (-1 : Int32)) rfl ?_
          refine zw_if2 hm_108 dX8_fitByLength_68 (t := 92) rfl zc2_eq ?_ ?_
          · intro hc
            rw [if_pos hc] at h
            refine zw_push hm_108 dX8_fitByLength_92 (v := .inl l5) rfl ?_
            refine zw_sto hm_108 dX8_fitByLength_94 [(3, .inl l5), (8, .inl (v2 - l5)), (7, .inl v2), (0, .inr (.inr (some 84))), (1, .inl l1), (2, .inl l2), (4, .inl l4), (5, .inl l5), (6, .inl l6)] rfl rfl rfl ?_
            refine zw_push hm_108 dX8_fitByLength_95 (v := .inl (v2 - l5)) rfl ?_
            refine zw_sto hm_108 dX8_fitByLength_97 [(4, .inl (v2 - l5)), (3, .inl l5), (8, .inl (v2 - l5)), (7, .inl v2), (0, .inr (.inr (some 84))), (1, .inl l1), (2, .inl l2), (5, .inl l5), (6, .inl l6)] rfl rfl rfl ?_
            refine zw_push hm_108 dX8_fitByLength_99 (v := .inr (.inr (some 84))) rfl ?_
            refine zw_push hm_108 dX8_fitByLength_100 (v := .inl v2) rfl ?_
            refine zw_cv hm_108 dX8_fitByLength_102 v_8_40_2 hm_105 [.inl v2] [] rfl (zT_rt (zT_pi hS1) s_84 rfl) ⟨by omega, by omega⟩ rfl (zw_mono h (zi_go ?_ ?_))
            · intro v6 S5 hv
              obtain ⟨hS5, h⟩ := hv
              refine zw_sto hm_108 dX8_fitByLength_105 [(5, .inl v6), (4, .inl (v2 - l5)), (3, .inl l5), (8, .inl (v2 - l5)), (7, .inl v2), (0, .inr (.inr (some 84))), (1, .inl l1), (2, .inl l2), (6, .inl l6)] rfl rfl rfl ?_
              refine zw_sto hm_108 dX8_fitByLength_107 [(6, .inl (l6 + (1 : Int32))), (5, .inl v6), (4, .inl (v2 - l5)), (3, .inl l5), (8, .inl (v2 - l5)), (7, .inl v2), (0, .inr (.inr (some 84))), (1, .inl l1), (2, .inl l2)] rfl rfl rfl ?_
              refine zw_goto hm_108 dX8_fitByLength_110 (t := 15) rfl ?_
              exact zw_sub (ma_nd_of (ks := [0, 1, 2, 3, 4, 5, 6]) rfl (by decide)) (ma_nd_of (ks := [6, 5, 4, 3, 8, 7, 0, 1, 2]) rfl (by decide)) (ma_le_cons rfl (ma_le_cons rfl (ma_le_cons rfl (ma_le_cons rfl (ma_le_cons rfl (ma_le_cons rfl (ma_le_cons rfl (ma_le_nil _)))))))) h
            · intro x S9 hx
              exact ⟨by decide, hx⟩
          · intro hc
            rw [if_neg hc] at h
            refine zw_push hm_108 dX8_fitByLength_71 (v := .inl l2) rfl ?_
            refine zw_if0 hm_108 dX8_fitByLength_72 (t := 85) rfl zc0_eq ?_ ?_
            · intro hc
              rw [if_pos hc] at h
              refine zw_push hm_108 dX8_fitByLength_85 (v := .inl (v2 - l5)) rfl ?_
              refine zw_push hm_108 dX8_fitByLength_87 (v := .inl l4) rfl ?_
              refine zw_if2 hm_108 dX8_fitByLength_89 (t := 99) rfl zc2_le ?_ ?_
              · intro hc
                rw [if_pos hc] at h
                refine zw_push hm_108 dX8_fitByLength_99 (v := .inr (.inr (some 84))) rfl ?_
                refine zw_push hm_108 dX8_fitByLength_100 (v := .inl v2) rfl ?_
                refine zw_cv hm_108 dX8_fitByLength_102 v_8_40_2 hm_105 [.inl v2] [] rfl (zT_rt (zT_pi hS1) s_84 rfl) ⟨by omega, by omega⟩ rfl (zw_mono h (zi_go ?_ ?_))
                · intro v8 S7 hv
                  obtain ⟨hS7, h⟩ := hv
                  refine zw_sto hm_108 dX8_fitByLength_105 [(5, .inl v8), (8, .inl (v2 - l5)), (7, .inl v2), (0, .inr (.inr (some 84))), (1, .inl l1), (2, .inl l2), (3, .inl l3), (4, .inl l4), (6, .inl l6)] rfl rfl rfl ?_
                  refine zw_sto hm_108 dX8_fitByLength_107 [(6, .inl (l6 + (1 : Int32))), (5, .inl v8), (8, .inl (v2 - l5)), (7, .inl v2), (0, .inr (.inr (some 84))), (1, .inl l1), (2, .inl l2), (3, .inl l3), (4, .inl l4)] rfl rfl rfl ?_
                  refine zw_goto hm_108 dX8_fitByLength_110 (t := 15) rfl ?_
                  exact zw_sub (ma_nd_of (ks := [0, 1, 2, 3, 4, 5, 6]) rfl (by decide)) (ma_nd_of (ks := [6, 5, 8, 7, 0, 1, 2, 3, 4]) rfl (by decide)) (ma_le_cons rfl (ma_le_cons rfl (ma_le_cons rfl (ma_le_cons rfl (ma_le_cons rfl (ma_le_cons rfl (ma_le_cons rfl (ma_le_nil _)))))))) h
                · intro x S9 hx
                  exact ⟨by decide, hx⟩
              · intro hc
                rw [if_neg hc] at h
                refine zw_push hm_108 dX8_fitByLength_92 (v := .inl l5) rfl ?_
                refine zw_sto hm_108 dX8_fitByLength_94 [(3, .inl l5), (8, .inl (v2 - l5)), (7, .inl v2), (0, .inr (.inr (some 84))), (1, .inl l1), (2, .inl l2), (4, .inl l4), (5, .inl l5), (6, .inl l6)] rfl rfl rfl ?_
                refine zw_push hm_108 dX8_fitByLength_95 (v := .inl (v2 - l5)) rfl ?_
                refine zw_sto hm_108 dX8_fitByLength_97 [(4, .inl (v2 - l5)), (3, .inl l5), (8, .inl (v2 - l5)), (7, .inl v2), (0, .inr (.inr (some 84))), (1, .inl l1), (2, .inl l2), (5, .inl l5), (6, .inl l6)] rfl rfl rfl ?_
                refine zw_push hm_108 dX8_fitByLength_99 (v := .inr (.inr (some 84))) rfl ?_
                refine zw_push hm_108 dX8_fitByLength_100 (v := .inl v2) rfl ?_
                refine zw_cv hm_108 dX8_fitByLength_102 v_8_40_2 hm_105 [.inl v2] [] rfl (zT_rt (zT_pi hS1) s_84 rfl) ⟨by omega, by omega⟩ rfl (zw_mono h (zi_go ?_ ?_))
                · intro v10 S9 hv
                  obtain ⟨hS9, h⟩ := hv
                  refine zw_sto hm_108 dX8_fitByLength_105 [(5, .inl v10), (4, .inl (v2 - l5)), (3, .inl l5), (8, .inl (v2 - l5)), (7, .inl v2), (0, .inr (.inr (some 84))), (1, .inl l1), (2, .inl l2), (6, .inl l6)] rfl rfl rfl ?_
                  refine zw_sto hm_108 dX8_fitByLength_107 [(6, .inl (l6 + (1 : Int32))), (5, .inl v10), (4, .inl (v2 - l5)), (3, .inl l5), (8, .inl (v2 - l5)), (7, .inl v2), (0, .inr (.inr (some 84))), (1, .inl l1), (2, .inl l2)] rfl rfl rfl ?_
                  refine zw_goto hm_108 dX8_fitByLength_110 (t := 15) rfl ?_
                  exact zw_sub (ma_nd_of (ks := [0, 1, 2, 3, 4, 5, 6]) rfl (by decide)) (ma_nd_of (ks := [6, 5, 4, 3, 8, 7, 0, 1, 2]) rfl (by decide)) (ma_le_cons rfl (ma_le_cons rfl (ma_le_cons rfl (ma_le_cons rfl (ma_le_cons rfl (ma_le_cons rfl (ma_le_cons rfl (ma_le_nil _)))))))) h
                · intro x S9 hx
                  exact ⟨by decide, hx⟩
            · intro hc
              rw [if_neg hc] at h
              refine zw_push hm_108 dX8_fitByLength_75 (v := .inl (v2 - l5)) rfl ?_
              refine zw_push hm_108 dX8_fitByLength_77 (v := .inl l4) rfl ?_
              refine zw_if2 hm_108 dX8_fitByLength_79 (t := 99) rfl zc2_ge ?_ ?_
              · intro hc
                rw [if_pos hc] at h
                refine zw_push hm_108 dX8_fitByLength_99 (v := .inr (.inr (some 84))) rfl ?_
                refine zw_push hm_108 dX8_fitByLength_100 (v := .inl v2) rfl ?_
                refine zw_cv hm_108 dX8_fitByLength_102 v_8_40_2 hm_105 [.inl v2] [] rfl (zT_rt (zT_pi hS1) s_84 rfl) ⟨by omega, by omega⟩ rfl (zw_mono h (zi_go ?_ ?_))
                · intro v12 S11 hv
                  obtain ⟨hS11, h⟩ := hv
                  refine zw_sto hm_108 dX8_fitByLength_105 [(5, .inl v12), (8, .inl (v2 - l5)), (7, .inl v2), (0, .inr (.inr (some 84))), (1, .inl l1), (2, .inl l2), (3, .inl l3), (4, .inl l4), (6, .inl l6)] rfl rfl rfl ?_
                  refine zw_sto hm_108 dX8_fitByLength_107 [(6, .inl (l6 + (1 : Int32))), (5, .inl v12), (8, .inl (v2 - l5)), (7, .inl v2), (0, .inr (.inr (some 84))), (1, .inl l1), (2, .inl l2), (3, .inl l3), (4, .inl l4)] rfl rfl rfl ?_
                  refine zw_goto hm_108 dX8_fitByLength_110 (t := 15) rfl ?_
                  exact zw_sub (ma_nd_of (ks := [0, 1, 2, 3, 4, 5, 6]) rfl (by decide)) (ma_nd_of (ks := [6, 5, 8, 7, 0, 1, 2, 3, 4]) rfl (by decide)) (ma_le_cons rfl (ma_le_cons rfl (ma_le_cons rfl (ma_le_cons rfl (ma_le_cons rfl (ma_le_cons rfl (ma_le_cons rfl (ma_le_nil _)))))))) h
                · intro x S9 hx
                  exact ⟨by decide, hx⟩
              · intro hc
                rw [if_neg hc] at h
                refine zw_goto hm_108 dX8_fitByLength_82 (t := 92) rfl ?_
                refine zw_push hm_108 dX8_fitByLength_92 (v := .inl l5) rfl ?_
                refine zw_sto hm_108 dX8_fitByLength_94 [(3, .inl l5), (8, .inl (v2 - l5)), (7, .inl v2), (0, .inr (.inr (some 84))), (1, .inl l1), (2, .inl l2), (4, .inl l4), (5, .inl l5), (6, .inl l6)] rfl rfl rfl ?_
                refine zw_push hm_108 dX8_fitByLength_95 (v := .inl (v2 - l5)) rfl ?_
                refine zw_sto hm_108 dX8_fitByLength_97 [(4, .inl (v2 - l5)), (3, .inl l5), (8, .inl (v2 - l5)), (7, .inl v2), (0, .inr (.inr (some 84))), (1, .inl l1), (2, .inl l2), (5, .inl l5), (6, .inl l6)] rfl rfl rfl ?_
                refine zw_push hm_108 dX8_fitByLength_99 (v := .inr (.inr (some 84))) rfl ?_
                refine zw_push hm_108 dX8_fitByLength_100 (v := .inl v2) rfl ?_
                refine zw_cv hm_108 dX8_fitByLength_102 v_8_40_2 hm_105 [.inl v2] [] rfl (zT_rt (zT_pi hS1) s_84 rfl) ⟨by omega, by omega⟩ rfl (zw_mono h (zi_go ?_ ?_))
                · intro v14 S13 hv
                  obtain ⟨hS13, h⟩ := hv
                  refine zw_sto hm_108 dX8_fitByLength_105 [(5, .inl v14), (4, .inl (v2 - l5)), (3, .inl l5), (8, .inl (v2 - l5)), (7, .inl v2), (0, .inr (.inr (some 84))), (1, .inl l1), (2, .inl l2), (6, .inl l6)] rfl rfl rfl ?_
                  refine zw_sto hm_108 dX8_fitByLength_107 [(6, .inl (l6 + (1 : Int32))), (5, .inl v14), (4, .inl (v2 - l5)), (3, .inl l5), (8, .inl (v2 - l5)), (7, .inl v2), (0, .inr (.inr (some 84))), (1, .inl l1), (2, .inl l2)] rfl rfl rfl ?_
                  refine zw_goto hm_108 dX8_fitByLength_110 (t := 15) rfl ?_
                  exact zw_sub (ma_nd_of (ks := [0, 1, 2, 3, 4, 5, 6]) rfl (by decide)) (ma_nd_of (ks := [6, 5, 4, 3, 8, 7, 0, 1, 2]) rfl (by decide)) (ma_le_cons rfl (ma_le_cons rfl (ma_le_cons rfl (ma_le_cons rfl (ma_le_cons rfl (ma_le_cons rfl (ma_le_cons rfl (ma_le_nil _)))))))) h
                · intro x S9 hx
                  exact ⟨by decide, hx⟩
      · intro x S9 hx
        exact ⟨by decide, hx⟩
theorem lp_108_84_sk_15 {X : Nat × (Nat → Int32)} {d w : Nat} {f : Nat → Nat → Int32} {r : Nat → Nat → Option Nat} {C Z N : Nat} {Q : Option ma_V ⊕ Nat → ma_S → Prop} {ab : Nat→Nat→Int32} {kk : Nat→Int32} {z : Int32} {b : Int32} (hd : 2 ≤ d) (hw : 45 ≤ w) (K : ∀ v S₉, zJ84 f r C Z N S₉ → (-1 ≤ v.toInt ∧ v.toInt ≤ 1500) → (xB S₉ (mR S₉ 70)) → (kC S₉ = kk) → (aT 84 S₉ = ab) → (v.toInt = aFl ab z.toInt b 4500 (aN ab 0) (-1) 0) → Q (.inl (some (.inl v))) S₉) : ∀ (n : Nat) (S : ma_S) (l1 : Int32) (l2 : Int32) (l3 : Int32) (l4 : Int32) (l5 : Int32) (l6 : Int32), (4500 - l6.toInt).toNat = n → zJ84 f r C Z N S → (0 ≤ l5.toInt) → (l5.toInt ≤ 1500) → (0 ≤ l6.toInt) → (-1 ≤ l3.toInt) → (l3.toInt ≤ 1500) → (xB S (mR S 70)) → (kC S = kk) → (aT 84 S = ab) → (aFl ab l1.toInt l2 (4500 - l6.toInt).toNat l5.toInt l3.toInt l4.toInt = aFl ab z.toInt b 4500 (aN ab 0) (-1) 0) → ma_wp X d w 108 15 [(0, .inr (.inr (some 84))), (1, .inl l1), (2, .inl l2), (3, .inl l3), (4, .inl l4), (5, .inl l5), (6, .inl l6)] [] S Q := by
  intro n
  induction n using Nat.strongRecOn with
  | _ n IH =>
    intro S l1 l2 l3 l4 l5 l6 hmu hI  hi0 hi1 hi2 hi3 hi4 hi5 hi6 hi7 hi8
    refine g_108_84_sk_15 l1 l2 l3 l4 l5 l6 (by omega) (by omega) (zG_T hI) ?_
    have li1 : (4500 : Int32).toInt = 4500 := rfl
    have b2 := i_bd l6
    refine zd (fun h3 => ?_) (fun h3 => ?_)
    · skip
      have g4 := i_le h3
      have b5 := i_bd l3
      exact K (l3) _ hI (by omega) (show xB S (mR S 70) from by first | (exact xB_x (xC_o (W := 75) hi5).2)) (show kC S = kk from by first | (exact (xK_o (W := 75) hi5 hi6).2)) (show aT 84 S = ab from by first | (exact (tC (P := 84) (xC_o (W := 75) hi5).1 (fun _ => rfl) (fun _ => rfl)).trans hi7)) (show l3.toInt = aFl ab z.toInt b 4500 (aN ab 0) (-1) 0 from by first | (have r0 := congrArg Int32.toInt (show aT 84 S 87 0 = mI S 84 0 from rfl); rw [hi7] at r0; have q := (aFl_st (by omega)).symm.trans hi8; exact q))
    · skip
      have g6 := i_nle h3
      have f7 := zG_s hI (0) (1500) (c := 84) (k := 0) (by decide)
      have b8 := i_bd l5
      refine zd (fun h9 => ?_) (fun h9 => ?_)
      · skip
        have g10 := i_le h9
        have b11 := i_bd l3
        exact K (l3) _ hI (by omega) (show xB S (mR S 70) from by first | (exact xB_x (xC_o (W := 75) hi5).2)) (show kC S = kk from by first | (exact (xK_o (W := 75) hi5 hi6).2)) (show aT 84 S = ab from by first | (exact (tC (P := 84) (xC_o (W := 75) hi5).1 (fun _ => rfl) (fun _ => rfl)).trans hi7)) (show l3.toInt = aFl ab z.toInt b 4500 (aN ab 0) (-1) 0 from by first | (have r0 := congrArg Int32.toInt (show aT 84 S 87 0 = mI S 84 0 from rfl); rw [hi7] at r0; have q := (aFl_st (by omega)).symm.trans hi8; exact q))
      · skip
        have g12 := i_nle h9
        refine sp_106_84_s (ab := (aT 84 S)) (l5) (by omega) (by omega) hI (show xB S (mR S 70) from by first | (exact xB_x (xC_o (W := 75) hi5).2)) (show aT 84 S = (aT 84 S) from by first | (exact rfl) | (exact hi7)) (by omega) (by omega) (fun v2 S1 eS_S1 hp_v2 rp0_S1 => zi_n ⟨(by rw [eS_S1]; exact zG_T hI), ?_⟩)
        replace eS_S1 := eS_S1.symm; subst eS_S1
        have rp0_S1 : v2.toInt = aE (aT 84 S) l5.toInt := rp0_S1
        have b13 := i_bd v2
        first | have e14 : (v2 - l5).toInt = v2.toInt - l5.toInt := i_sub (by omega) (by omega) | have b15 := i_bd (v2 - l5)
        have b16 := i_bd l1
        refine zd (fun h17 => ?_) (fun h17 => ?_)
        · skip
          have g18 := i_lt h17
          have hI19 : zJ84 f r C Z N (ma_put S 69 12 (.inl ((mI S 69 12) + (1 : Int32)))) := zG_fr hI rfl (by decide) (by decide) (by decide) trivial
          refine sp_105_84_s (ab := (aT 84 (ma_put S 69 12 (.inl ((mI S 69 12) + (1 : Int32)))))) (v2) (by omega) (by omega) hI19 (show xB (ma_put S 69 12 (.inl ((mI S 69 12) + (1 : Int32)))) (mR (ma_put S 69 12 (.inl ((mI S 69 12) + (1 : Int32)))) 70) from by first | (exact xB_x (xC_n (c := 69) (k := 12) (x := ((mI S 69 12) + (1 : Int32))) (xC_o (W := 75) hi5) ⟨by decide, Or.inl ⟨rfl, rfl⟩⟩).2)) (show aT 84 (ma_put S 69 12 (.inl ((mI S 69 12) + (1 : Int32)))) = (aT 84 (ma_put S 69 12 (.inl ((mI S 69 12) + (1 : Int32))))) from by first | (exact rfl) | (exact hi7)) (by omega) (fun v4 S3 eS_S3 hp_v4 rp0_S3 => zi_n ⟨(by rw [eS_S3]; exact zG_T hI19), ?_⟩)
          replace eS_S3 := eS_S3.symm; subst eS_S3
          have rp0_S3 : v4.toInt = aN (aT 84 (ma_put S 69 12 (.inl ((mI S 69 12) + (1 : Int32))))) v2.toInt := rp0_S3
          have b20 := i_bd l2
          have b21 := i_bd l3
          have b22 := i_bd l4
          have b23 := i_bd v4
          first | have e24 : (l6 + (1 : Int32)).toInt = l6.toInt + (1) := i_addk rfl (by omega) (by omega) | have b25 := i_bd (l6 + (1 : Int32))
          exact IH _ (by omega) _ (l1) (l2) (l3) (l4) (v4) ((l6 + (1 : Int32))) rfl hI19 (by omega) (by omega) (by omega) (by omega) (by omega) (show xB (ma_put S 69 12 (.inl ((mI S 69 12) + (1 : Int32)))) (mR (ma_put S 69 12 (.inl ((mI S 69 12) + (1 : Int32)))) 70) from by first | (exact xB_x (xC_n (c := 69) (k := 12) (x := ((mI S 69 12) + (1 : Int32))) (xC_o (W := 75) hi5) ⟨by decide, Or.inl ⟨rfl, rfl⟩⟩).2)) (show kC (ma_put S 69 12 (.inl ((mI S 69 12) + (1 : Int32)))) = kk from by first | (exact (xK_n (c := 69) (k := 12) (x := ((mI S 69 12) + (1 : Int32))) (xK_o (W := 75) hi5 hi6) ⟨by decide, Or.inl ⟨rfl, rfl⟩⟩).2)) (show aT 84 (ma_put S 69 12 (.inl ((mI S 69 12) + (1 : Int32)))) = ab from by first | (exact (tC (P := 84) (xC_n (c := 69) (k := 12) (x := ((mI S 69 12) + (1 : Int32))) (xC_o (W := 75) hi5) ⟨by decide, Or.inl ⟨rfl, rfl⟩⟩).1 (fun _ => rfl) (fun _ => rfl)).trans hi7)) (show aFl ab (l1).toInt (l2) (4500 - ((l6 + (1 : Int32))).toInt).toNat (v4).toInt (l3).toInt (l4).toInt = aFl ab z.toInt b 4500 (aN ab 0) (-1) 0 from by first | (have r0 := congrArg Int32.toInt (show aT 84 S 87 0 = mI S 84 0 from rfl); rw [hi7] at r0; have e1 := rp0_S1; rw [hi7] at e1; have e2 := rp0_S3; rw [(tC (P := 84) (xC_n (c := 69) (k := 12) (x := ((mI S 69 12) + (1 : Int32))) (xC_o (W := 75) hi5) ⟨by decide, Or.inl ⟨rfl, rfl⟩⟩).1 (fun _ => rfl) (fun _ => rfl)), hi7, e1] at e2; rw [e2]; exact ((congrArg (fun q => aFl ab l1.toInt l2 q l5.toInt l3.toInt l4.toInt) (show (4500 - l6.toInt).toNat = (4500 - (l6 + (1 : Int32)).toInt).toNat + 1 by omega)).trans (aFl_n (by omega) (Or.inl (by omega)))).symm.trans hi8) | (have r0 := congrArg Int32.toInt (show aT 84 S 87 0 = mI S 84 0 from rfl); rw [hi7] at r0; have e1 := rp0_S1; rw [hi7] at e1; have e2 := rp0_S3; rw [(tC (P := 84) (xC_n (c := 69) (k := 12) (x := ((mI S 69 12) + (1 : Int32))) (xC_o (W := 75) hi5) ⟨by decide, Or.inl ⟨rfl, rfl⟩⟩).1 (fun _ => rfl) (fun _ => rfl)), hi7, e1] at e2; rw [e2]; exact ((congrArg (fun q => aFl ab l1.toInt l2 q l5.toInt l3.toInt l4.toInt) (show (4500 - l6.toInt).toNat = (4500 - (l6 + (1 : Int32)).toInt).toNat + 1 by omega)).trans (aFl_n (by omega) (Or.inr ⟨by omega, Or.inl ⟨by assumption, by omega⟩⟩))).symm.trans hi8) | (have r0 := congrArg Int32.toInt (show aT 84 S 87 0 = mI S 84 0 from rfl); rw [hi7] at r0; have e1 := rp0_S1; rw [hi7] at e1; have e2 := rp0_S3; rw [(tC (P := 84) (xC_n (c := 69) (k := 12) (x := ((mI S 69 12) + (1 : Int32))) (xC_o (W := 75) hi5) ⟨by decide, Or.inl ⟨rfl, rfl⟩⟩).1 (fun _ => rfl) (fun _ => rfl)), hi7, e1] at e2; rw [e2]; exact ((congrArg (fun q => aFl ab l1.toInt l2 q l5.toInt l3.toInt l4.toInt) (show (4500 - l6.toInt).toNat = (4500 - (l6 + (1 : Int32)).toInt).toNat + 1 by omega)).trans (aFl_n (by omega) (Or.inr ⟨by omega, Or.inr ⟨by assumption, by omega⟩⟩))).symm.trans hi8))
        · skip
          have g26 := i_nlt h17
          have b27 := i_bd l3
          have li28 : (-1 : Int32).toInt = -1 := rfl
          refine zd (fun h29 => ?_) (fun h29 => ?_)
          · skip
            have g30 := i_eq h29
            have hI31 : zJ84 f r C Z N (ma_put S 69 12 (.inl ((mI S 69 12) + (1 : Int32)))) := zG_fr hI rfl (by decide) (by decide) (by decide) trivial
            refine sp_105_84_s (ab := (aT 84 (ma_put S 69 12 (.inl ((mI S 69 12) + (1 : Int32)))))) (v2) (by omega) (by omega) hI31 (show xB (ma_put S 69 12 (.inl ((mI S 69 12) + (1 : Int32)))) (mR (ma_put S 69 12 (.inl ((mI S 69 12) + (1 : Int32)))) 70) from by first | (exact xB_x (xC_n (c := 69) (k := 12) (x := ((mI S 69 12) + (1 : Int32))) (xC_o (W := 75) hi5) ⟨by decide, Or.inl ⟨rfl, rfl⟩⟩).2)) (show aT 84 (ma_put S 69 12 (.inl ((mI S 69 12) + (1 : Int32)))) = (aT 84 (ma_put S 69 12 (.inl ((mI S 69 12) + (1 : Int32))))) from by first | (exact rfl) | (exact hi7)) (by omega) (fun v6 S5 eS_S5 hp_v6 rp0_S5 => zi_n ⟨(by rw [eS_S5]; exact zG_T hI31), ?_⟩)
            replace eS_S5 := eS_S5.symm; subst eS_S5
            have rp0_S5 : v6.toInt = aN (aT 84 (ma_put S 69 12 (.inl ((mI S 69 12) + (1 : Int32))))) v2.toInt := rp0_S5
            have b32 := i_bd l2
            have b33 := i_bd v6
            first | have e34 : (l6 + (1 : Int32)).toInt = l6.toInt + (1) := i_addk rfl (by omega) (by omega) | have b35 := i_bd (l6 + (1 : Int32))
            exact IH _ (by omega) _ (l1) (l2) (l5) ((v2 - l5)) (v6) ((l6 + (1 : Int32))) rfl hI31 (by omega) (by omega) (by omega) (by omega) (by omega) (show xB (ma_put S 69 12 (.inl ((mI S 69 12) + (1 : Int32)))) (mR (ma_put S 69 12 (.inl ((mI S 69 12) + (1 : Int32)))) 70) from by first | (exact xB_x (xC_n (c := 69) (k := 12) (x := ((mI S 69 12) + (1 : Int32))) (xC_o (W := 75) hi5) ⟨by decide, Or.inl ⟨rfl, rfl⟩⟩).2)) (show kC (ma_put S 69 12 (.inl ((mI S 69 12) + (1 : Int32)))) = kk from by first | (exact (xK_n (c := 69) (k := 12) (x := ((mI S 69 12) + (1 : Int32))) (xK_o (W := 75) hi5 hi6) ⟨by decide, Or.inl ⟨rfl, rfl⟩⟩).2)) (show aT 84 (ma_put S 69 12 (.inl ((mI S 69 12) + (1 : Int32)))) = ab from by first | (exact (tC (P := 84) (xC_n (c := 69) (k := 12) (x := ((mI S 69 12) + (1 : Int32))) (xC_o (W := 75) hi5) ⟨by decide, Or.inl ⟨rfl, rfl⟩⟩).1 (fun _ => rfl) (fun _ => rfl)).trans hi7)) (show aFl ab (l1).toInt (l2) (4500 - ((l6 + (1 : Int32))).toInt).toNat (v6).toInt (l5).toInt ((v2 - l5)).toInt = aFl ab z.toInt b 4500 (aN ab 0) (-1) 0 from by first | (have r0 := congrArg Int32.toInt (show aT 84 S 87 0 = mI S 84 0 from rfl); rw [hi7] at r0; have e1 := rp0_S1; rw [hi7] at e1; have e2 := rp0_S5; rw [(tC (P := 84) (xC_n (c := 69) (k := 12) (x := ((mI S 69 12) + (1 : Int32))) (xC_o (W := 75) hi5) ⟨by decide, Or.inl ⟨rfl, rfl⟩⟩).1 (fun _ => rfl) (fun _ => rfl)), hi7, e1] at e2; rw [e2]; rw [show ((v2 - l5)).toInt = aE ab l5.toInt - l5.toInt from by omega]; exact ((congrArg (fun q => aFl ab l1.toInt l2 q l5.toInt l3.toInt l4.toInt) (show (4500 - l6.toInt).toNat = (4500 - (l6 + (1 : Int32)).toInt).toNat + 1 by omega)).trans (aFl_y (by omega) (by omega) (Or.inl (by omega)))).symm.trans hi8) | (have r0 := congrArg Int32.toInt (show aT 84 S 87 0 = mI S 84 0 from rfl); rw [hi7] at r0; have e1 := rp0_S1; rw [hi7] at e1; have e2 := rp0_S5; rw [(tC (P := 84) (xC_n (c := 69) (k := 12) (x := ((mI S 69 12) + (1 : Int32))) (xC_o (W := 75) hi5) ⟨by decide, Or.inl ⟨rfl, rfl⟩⟩).1 (fun _ => rfl) (fun _ => rfl)), hi7, e1] at e2; rw [e2]; rw [show ((v2 - l5)).toInt = aE ab l5.toInt - l5.toInt from by omega]; exact ((congrArg (fun q => aFl ab l1.toInt l2 q l5.toInt l3.toInt l4.toInt) (show (4500 - l6.toInt).toNat = (4500 - (l6 + (1 : Int32)).toInt).toNat + 1 by omega)).trans (aFl_y (by omega) (by omega) (Or.inr (Or.inl ⟨by assumption, by omega⟩)))).symm.trans hi8) | (have r0 := congrArg Int32.toInt (show aT 84 S 87 0 = mI S 84 0 from rfl); rw [hi7] at r0; have e1 := rp0_S1; rw [hi7] at e1; have e2 := rp0_S5; rw [(tC (P := 84) (xC_n (c := 69) (k := 12) (x := ((mI S 69 12) + (1 : Int32))) (xC_o (W := 75) hi5) ⟨by decide, Or.inl ⟨rfl, rfl⟩⟩).1 (fun _ => rfl) (fun _ => rfl)), hi7, e1] at e2; rw [e2]; rw [show ((v2 - l5)).toInt = aE ab l5.toInt - l5.toInt from by omega]; exact ((congrArg (fun q => aFl ab l1.toInt l2 q l5.toInt l3.toInt l4.toInt) (show (4500 - l6.toInt).toNat = (4500 - (l6 + (1 : Int32)).toInt).toNat + 1 by omega)).trans (aFl_y (by omega) (by omega) (Or.inr (Or.inr ⟨by assumption, by omega⟩)))).symm.trans hi8))
          · skip
            have g36 := i_ne h29
            have b37 := i_bd l2
            have li38 : (0 : Int32).toInt = 0 := rfl
            refine zd (fun h39 => ?_) (fun h39 => ?_)
            · skip
              have g40 := i_eq h39
              have b41 := i_bd l4
              refine zd (fun h42 => ?_) (fun h42 => ?_)
              · skip
                have g43 := i_le h42
                have hI44 : zJ84 f r C Z N (ma_put S 69 12 (.inl ((mI S 69 12) + (1 : Int32)))) := zG_fr hI rfl (by decide) (by decide) (by decide) trivial
                refine sp_105_84_s (ab := (aT 84 (ma_put S 69 12 (.inl ((mI S 69 12) + (1 : Int32)))))) (v2) (by omega) (by omega) hI44 (show xB (ma_put S 69 12 (.inl ((mI S 69 12) + (1 : Int32)))) (mR (ma_put S 69 12 (.inl ((mI S 69 12) + (1 : Int32)))) 70) from by first | (exact xB_x (xC_n (c := 69) (k := 12) (x := ((mI S 69 12) + (1 : Int32))) (xC_o (W := 75) hi5) ⟨by decide, Or.inl ⟨rfl, rfl⟩⟩).2)) (show aT 84 (ma_put S 69 12 (.inl ((mI S 69 12) + (1 : Int32)))) = (aT 84 (ma_put S 69 12 (.inl ((mI S 69 12) + (1 : Int32))))) from by first | (exact rfl) | (exact hi7)) (by omega) (fun v8 S7 eS_S7 hp_v8 rp0_S7 => zi_n ⟨(by rw [eS_S7]; exact zG_T hI44), ?_⟩)
                replace eS_S7 := eS_S7.symm; subst eS_S7
                have rp0_S7 : v8.toInt = aN (aT 84 (ma_put S 69 12 (.inl ((mI S 69 12) + (1 : Int32))))) v2.toInt := rp0_S7
                have b45 := i_bd v8
                first | have e46 : (l6 + (1 : Int32)).toInt = l6.toInt + (1) := i_addk rfl (by omega) (by omega) | have b47 := i_bd (l6 + (1 : Int32))
                exact IH _ (by omega) _ (l1) (l2) (l3) (l4) (v8) ((l6 + (1 : Int32))) rfl hI44 (by omega) (by omega) (by omega) (by omega) (by omega) (show xB (ma_put S 69 12 (.inl ((mI S 69 12) + (1 : Int32)))) (mR (ma_put S 69 12 (.inl ((mI S 69 12) + (1 : Int32)))) 70) from by first | (exact xB_x (xC_n (c := 69) (k := 12) (x := ((mI S 69 12) + (1 : Int32))) (xC_o (W := 75) hi5) ⟨by decide, Or.inl ⟨rfl, rfl⟩⟩).2)) (show kC (ma_put S 69 12 (.inl ((mI S 69 12) + (1 : Int32)))) = kk from by first | (exact (xK_n (c := 69) (k := 12) (x := ((mI S 69 12) + (1 : Int32))) (xK_o (W := 75) hi5 hi6) ⟨by decide, Or.inl ⟨rfl, rfl⟩⟩).2)) (show aT 84 (ma_put S 69 12 (.inl ((mI S 69 12) + (1 : Int32)))) = ab from by first | (exact (tC (P := 84) (xC_n (c := 69) (k := 12) (x := ((mI S 69 12) + (1 : Int32))) (xC_o (W := 75) hi5) ⟨by decide, Or.inl ⟨rfl, rfl⟩⟩).1 (fun _ => rfl) (fun _ => rfl)).trans hi7)) (show aFl ab (l1).toInt (l2) (4500 - ((l6 + (1 : Int32))).toInt).toNat (v8).toInt (l3).toInt (l4).toInt = aFl ab z.toInt b 4500 (aN ab 0) (-1) 0 from by first | (have r0 := congrArg Int32.toInt (show aT 84 S 87 0 = mI S 84 0 from rfl); rw [hi7] at r0; have e1 := rp0_S1; rw [hi7] at e1; have e2 := rp0_S7; rw [(tC (P := 84) (xC_n (c := 69) (k := 12) (x := ((mI S 69 12) + (1 : Int32))) (xC_o (W := 75) hi5) ⟨by decide, Or.inl ⟨rfl, rfl⟩⟩).1 (fun _ => rfl) (fun _ => rfl)), hi7, e1] at e2; rw [e2]; exact ((congrArg (fun q => aFl ab l1.toInt l2 q l5.toInt l3.toInt l4.toInt) (show (4500 - l6.toInt).toNat = (4500 - (l6 + (1 : Int32)).toInt).toNat + 1 by omega)).trans (aFl_n (by omega) (Or.inl (by omega)))).symm.trans hi8) | (have r0 := congrArg Int32.toInt (show aT 84 S 87 0 = mI S 84 0 from rfl); rw [hi7] at r0; have e1 := rp0_S1; rw [hi7] at e1; have e2 := rp0_S7; rw [(tC (P := 84) (xC_n (c := 69) (k := 12) (x := ((mI S 69 12) + (1 : Int32))) (xC_o (W := 75) hi5) ⟨by decide, Or.inl ⟨rfl, rfl⟩⟩).1 (fun _ => rfl) (fun _ => rfl)), hi7, e1] at e2; rw [e2]; exact ((congrArg (fun q => aFl ab l1.toInt l2 q l5.toInt l3.toInt l4.toInt) (show (4500 - l6.toInt).toNat = (4500 - (l6 + (1 : Int32)).toInt).toNat + 1 by omega)).trans (aFl_n (by omega) (Or.inr ⟨by omega, Or.inl ⟨by assumption, by omega⟩⟩))).symm.trans hi8) | (have r0 := congrArg Int32.toInt (show aT 84 S 87 0 = mI S 84 0 from rfl); rw [hi7] at r0; have e1 := rp0_S1; rw [hi7] at e1; have e2 := rp0_S7; rw [(tC (P := 84) (xC_n (c := 69) (k := 12) (x := ((mI S 69 12) + (1 : Int32))) (xC_o (W := 75) hi5) ⟨by decide, Or.inl ⟨rfl, rfl⟩⟩).1 (fun _ => rfl) (fun _ => rfl)), hi7, e1] at e2; rw [e2]; exact ((congrArg (fun q => aFl ab l1.toInt l2 q l5.toInt l3.toInt l4.toInt) (show (4500 - l6.toInt).toNat = (4500 - (l6 + (1 : Int32)).toInt).toNat + 1 by omega)).trans (aFl_n (by omega) (Or.inr ⟨by omega, Or.inr ⟨by assumption, by omega⟩⟩))).symm.trans hi8))
              · skip
                have g48 := i_nle h42
                have hI49 : zJ84 f r C Z N (ma_put S 69 12 (.inl ((mI S 69 12) + (1 : Int32)))) := zG_fr hI rfl (by decide) (by decide) (by decide) trivial
                refine sp_105_84_s (ab := (aT 84 (ma_put S 69 12 (.inl ((mI S 69 12) + (1 : Int32)))))) (v2) (by omega) (by omega) hI49 (show xB (ma_put S 69 12 (.inl ((mI S 69 12) + (1 : Int32)))) (mR (ma_put S 69 12 (.inl ((mI S 69 12) + (1 : Int32)))) 70) from by first | (exact xB_x (xC_n (c := 69) (k := 12) (x := ((mI S 69 12) + (1 : Int32))) (xC_o (W := 75) hi5) ⟨by decide, Or.inl ⟨rfl, rfl⟩⟩).2)) (show aT 84 (ma_put S 69 12 (.inl ((mI S 69 12) + (1 : Int32)))) = (aT 84 (ma_put S 69 12 (.inl ((mI S 69 12) + (1 : Int32))))) from by first | (exact rfl) | (exact hi7)) (by omega) (fun v10 S9 eS_S9 hp_v10 rp0_S9 => zi_n ⟨(by rw [eS_S9]; exact zG_T hI49), ?_⟩)
                replace eS_S9 := eS_S9.symm; subst eS_S9
                have rp0_S9 : v10.toInt = aN (aT 84 (ma_put S 69 12 (.inl ((mI S 69 12) + (1 : Int32))))) v2.toInt := rp0_S9
                have b50 := i_bd v10
                first | have e51 : (l6 + (1 : Int32)).toInt = l6.toInt + (1) := i_addk rfl (by omega) (by omega) | have b52 := i_bd (l6 + (1 : Int32))
                exact IH _ (by omega) _ (l1) (l2) (l5) ((v2 - l5)) (v10) ((l6 + (1 : Int32))) rfl hI49 (by omega) (by omega) (by omega) (by omega) (by omega) (show xB (ma_put S 69 12 (.inl ((mI S 69 12) + (1 : Int32)))) (mR (ma_put S 69 12 (.inl ((mI S 69 12) + (1 : Int32)))) 70) from by first | (exact xB_x (xC_n (c := 69) (k := 12) (x := ((mI S 69 12) + (1 : Int32))) (xC_o (W := 75) hi5) ⟨by decide, Or.inl ⟨rfl, rfl⟩⟩).2)) (show kC (ma_put S 69 12 (.inl ((mI S 69 12) + (1 : Int32)))) = kk from by first | (exact (xK_n (c := 69) (k := 12) (x := ((mI S 69 12) + (1 : Int32))) (xK_o (W := 75) hi5 hi6) ⟨by decide, Or.inl ⟨rfl, rfl⟩⟩).2)) (show aT 84 (ma_put S 69 12 (.inl ((mI S 69 12) + (1 : Int32)))) = ab from by first | (exact (tC (P := 84) (xC_n (c := 69) (k := 12) (x := ((mI S 69 12) + (1 : Int32))) (xC_o (W := 75) hi5) ⟨by decide, Or.inl ⟨rfl, rfl⟩⟩).1 (fun _ => rfl) (fun _ => rfl)).trans hi7)) (show aFl ab (l1).toInt (l2) (4500 - ((l6 + (1 : Int32))).toInt).toNat (v10).toInt (l5).toInt ((v2 - l5)).toInt = aFl ab z.toInt b 4500 (aN ab 0) (-1) 0 from by first | (have r0 := congrArg Int32.toInt (show aT 84 S 87 0 = mI S 84 0 from rfl); rw [hi7] at r0; have e1 := rp0_S1; rw [hi7] at e1; have e2 := rp0_S9; rw [(tC (P := 84) (xC_n (c := 69) (k := 12) (x := ((mI S 69 12) + (1 : Int32))) (xC_o (W := 75) hi5) ⟨by decide, Or.inl ⟨rfl, rfl⟩⟩).1 (fun _ => rfl) (fun _ => rfl)), hi7, e1] at e2; rw [e2]; rw [show ((v2 - l5)).toInt = aE ab l5.toInt - l5.toInt from by omega]; exact ((congrArg (fun q => aFl ab l1.toInt l2 q l5.toInt l3.toInt l4.toInt) (show (4500 - l6.toInt).toNat = (4500 - (l6 + (1 : Int32)).toInt).toNat + 1 by omega)).trans (aFl_y (by omega) (by omega) (Or.inl (by omega)))).symm.trans hi8) | (have r0 := congrArg Int32.toInt (show aT 84 S 87 0 = mI S 84 0 from rfl); rw [hi7] at r0; have e1 := rp0_S1; rw [hi7] at e1; have e2 := rp0_S9; rw [(tC (P := 84) (xC_n (c := 69) (k := 12) (x := ((mI S 69 12) + (1 : Int32))) (xC_o (W := 75) hi5) ⟨by decide, Or.inl ⟨rfl, rfl⟩⟩).1 (fun _ => rfl) (fun _ => rfl)), hi7, e1] at e2; rw [e2]; rw [show ((v2 - l5)).toInt = aE ab l5.toInt - l5.toInt from by omega]; exact ((congrArg (fun q => aFl ab l1.toInt l2 q l5.toInt l3.toInt l4.toInt) (show (4500 - l6.toInt).toNat = (4500 - (l6 + (1 : Int32)).toInt).toNat + 1 by omega)).trans (aFl_y (by omega) (by omega) (Or.inr (Or.inl ⟨by assumption, by omega⟩)))).symm.trans hi8) | (have r0 := congrArg Int32.toInt (show aT 84 S 87 0 = mI S 84 0 from rfl); rw [hi7] at r0; have e1 := rp0_S1; rw [hi7] at e1; have e2 := rp0_S9; rw [(tC (P := 84) (xC_n (c := 69) (k := 12) (x := ((mI S 69 12) + (1 : Int32))) (xC_o (W := 75) hi5) ⟨by decide, Or.inl ⟨rfl, rfl⟩⟩).1 (fun _ => rfl) (fun _ => rfl)), hi7, e1] at e2; rw [e2]; rw [show ((v2 - l5)).toInt = aE ab l5.toInt - l5.toInt from by omega]; exact ((congrArg (fun q => aFl ab l1.toInt l2 q l5.toInt l3.toInt l4.toInt) (show (4500 - l6.toInt).toNat = (4500 - (l6 + (1 : Int32)).toInt).toNat + 1 by omega)).trans (aFl_y (by omega) (by omega) (Or.inr (Or.inr ⟨by assumption, by omega⟩)))).symm.trans hi8))
            · skip
              have g53 := i_ne h39
              have b54 := i_bd l4
              refine zd (fun h55 => ?_) (fun h55 => ?_)
              · skip
                have g56 := i_le h55
                have hI57 : zJ84 f r C Z N (ma_put S 69 12 (.inl ((mI S 69 12) + (1 : Int32)))) := zG_fr hI rfl (by decide) (by decide) (by decide) trivial
                refine sp_105_84_s (ab := (aT 84 (ma_put S 69 12 (.inl ((mI S 69 12) + (1 : Int32)))))) (v2) (by omega) (by omega) hI57 (show xB (ma_put S 69 12 (.inl ((mI S 69 12) + (1 : Int32)))) (mR (ma_put S 69 12 (.inl ((mI S 69 12) + (1 : Int32)))) 70) from by first | (exact xB_x (xC_n (c := 69) (k := 12) (x := ((mI S 69 12) + (1 : Int32))) (xC_o (W := 75) hi5) ⟨by decide, Or.inl ⟨rfl, rfl⟩⟩).2)) (show aT 84 (ma_put S 69 12 (.inl ((mI S 69 12) + (1 : Int32)))) = (aT 84 (ma_put S 69 12 (.inl ((mI S 69 12) + (1 : Int32))))) from by first | (exact rfl) | (exact hi7)) (by omega) (fun v12 S11 eS_S11 hp_v12 rp0_S11 => zi_n ⟨(by rw [eS_S11]; exact zG_T hI57), ?_⟩)
                replace eS_S11 := eS_S11.symm; subst eS_S11
                have rp0_S11 : v12.toInt = aN (aT 84 (ma_put S 69 12 (.inl ((mI S 69 12) + (1 : Int32))))) v2.toInt := rp0_S11
                have b58 := i_bd v12
                first | have e59 : (l6 + (1 : Int32)).toInt = l6.toInt + (1) := i_addk rfl (by omega) (by omega) | have b60 := i_bd (l6 + (1 : Int32))
                exact IH _ (by omega) _ (l1) (l2) (l3) (l4) (v12) ((l6 + (1 : Int32))) rfl hI57 (by omega) (by omega) (by omega) (by omega) (by omega) (show xB (ma_put S 69 12 (.inl ((mI S 69 12) + (1 : Int32)))) (mR (ma_put S 69 12 (.inl ((mI S 69 12) + (1 : Int32)))) 70) from by first | (exact xB_x (xC_n (c := 69) (k := 12) (x := ((mI S 69 12) + (1 : Int32))) (xC_o (W := 75) hi5) ⟨by decide, Or.inl ⟨rfl, rfl⟩⟩).2)) (show kC (ma_put S 69 12 (.inl ((mI S 69 12) + (1 : Int32)))) = kk from by first | (exact (xK_n (c := 69) (k := 12) (x := ((mI S 69 12) + (1 : Int32))) (xK_o (W := 75) hi5 hi6) ⟨by decide, Or.inl ⟨rfl, rfl⟩⟩).2)) (show aT 84 (ma_put S 69 12 (.inl ((mI S 69 12) + (1 : Int32)))) = ab from by first | (exact (tC (P := 84) (xC_n (c := 69) (k := 12) (x := ((mI S 69 12) + (1 : Int32))) (xC_o (W := 75) hi5) ⟨by decide, Or.inl ⟨rfl, rfl⟩⟩).1 (fun _ => rfl) (fun _ => rfl)).trans hi7)) (show aFl ab (l1).toInt (l2) (4500 - ((l6 + (1 : Int32))).toInt).toNat (v12).toInt (l3).toInt (l4).toInt = aFl ab z.toInt b 4500 (aN ab 0) (-1) 0 from by first | (have r0 := congrArg Int32.toInt (show aT 84 S 87 0 = mI S 84 0 from rfl); rw [hi7] at r0; have e1 := rp0_S1; rw [hi7] at e1; have e2 := rp0_S11; rw [(tC (P := 84) (xC_n (c := 69) (k := 12) (x := ((mI S 69 12) + (1 : Int32))) (xC_o (W := 75) hi5) ⟨by decide, Or.inl ⟨rfl, rfl⟩⟩).1 (fun _ => rfl) (fun _ => rfl)), hi7, e1] at e2; rw [e2]; exact ((congrArg (fun q => aFl ab l1.toInt l2 q l5.toInt l3.toInt l4.toInt) (show (4500 - l6.toInt).toNat = (4500 - (l6 + (1 : Int32)).toInt).toNat + 1 by omega)).trans (aFl_n (by omega) (Or.inl (by omega)))).symm.trans hi8) | (have r0 := congrArg Int32.toInt (show aT 84 S 87 0 = mI S 84 0 from rfl); rw [hi7] at r0; have e1 := rp0_S1; rw [hi7] at e1; have e2 := rp0_S11; rw [(tC (P := 84) (xC_n (c := 69) (k := 12) (x := ((mI S 69 12) + (1 : Int32))) (xC_o (W := 75) hi5) ⟨by decide, Or.inl ⟨rfl, rfl⟩⟩).1 (fun _ => rfl) (fun _ => rfl)), hi7, e1] at e2; rw [e2]; exact ((congrArg (fun q => aFl ab l1.toInt l2 q l5.toInt l3.toInt l4.toInt) (show (4500 - l6.toInt).toNat = (4500 - (l6 + (1 : Int32)).toInt).toNat + 1 by omega)).trans (aFl_n (by omega) (Or.inr ⟨by omega, Or.inl ⟨by assumption, by omega⟩⟩))).symm.trans hi8) | (have r0 := congrArg Int32.toInt (show aT 84 S 87 0 = mI S 84 0 from rfl); rw [hi7] at r0; have e1 := rp0_S1; rw [hi7] at e1; have e2 := rp0_S11; rw [(tC (P := 84) (xC_n (c := 69) (k := 12) (x := ((mI S 69 12) + (1 : Int32))) (xC_o (W := 75) hi5) ⟨by decide, Or.inl ⟨rfl, rfl⟩⟩).1 (fun _ => rfl) (fun _ => rfl)), hi7, e1] at e2; rw [e2]; exact ((congrArg (fun q => aFl ab l1.toInt l2 q l5.toInt l3.toInt l4.toInt) (show (4500 - l6.toInt).toNat = (4500 - (l6 + (1 : Int32)).toInt).toNat + 1 by omega)).trans (aFl_n (by omega) (Or.inr ⟨by omega, Or.inr ⟨by assumption, by omega⟩⟩))).symm.trans hi8))
              · skip
                have g61 := i_nle h55
                have hI62 : zJ84 f r C Z N (ma_put S 69 12 (.inl ((mI S 69 12) + (1 : Int32)))) := zG_fr hI rfl (by decide) (by decide) (by decide) trivial
                refine sp_105_84_s (ab := (aT 84 (ma_put S 69 12 (.inl ((mI S 69 12) + (1 : Int32)))))) (v2) (by omega) (by omega) hI62 (show xB (ma_put S 69 12 (.inl ((mI S 69 12) + (1 : Int32)))) (mR (ma_put S 69 12 (.inl ((mI S 69 12) + (1 : Int32)))) 70) from by first | (exact xB_x (xC_n (c := 69) (k := 12) (x := ((mI S 69 12) + (1 : Int32))) (xC_o (W := 75) hi5) ⟨by decide, Or.inl ⟨rfl, rfl⟩⟩).2)) (show aT 84 (ma_put S 69 12 (.inl ((mI S 69 12) + (1 : Int32)))) = (aT 84 (ma_put S 69 12 (.inl ((mI S 69 12) + (1 : Int32))))) from by first | (exact rfl) | (exact hi7)) (by omega) (fun v14 S13 eS_S13 hp_v14 rp0_S13 => zi_n ⟨(by rw [eS_S13]; exact zG_T hI62), ?_⟩)
                replace eS_S13 := eS_S13.symm; subst eS_S13
                have rp0_S13 : v14.toInt = aN (aT 84 (ma_put S 69 12 (.inl ((mI S 69 12) + (1 : Int32))))) v2.toInt := rp0_S13
                have b63 := i_bd v14
                first | have e64 : (l6 + (1 : Int32)).toInt = l6.toInt + (1) := i_addk rfl (by omega) (by omega) | have b65 := i_bd (l6 + (1 : Int32))
                exact IH _ (by omega) _ (l1) (l2) (l5) ((v2 - l5)) (v14) ((l6 + (1 : Int32))) rfl hI62 (by omega) (by omega) (by omega) (by omega) (by omega) (show xB (ma_put S 69 12 (.inl ((mI S 69 12) + (1 : Int32)))) (mR (ma_put S 69 12 (.inl ((mI S 69 12) + (1 : Int32)))) 70) from by first | (exact xB_x (xC_n (c := 69) (k := 12) (x := ((mI S 69 12) + (1 : Int32))) (xC_o (W := 75) hi5) ⟨by decide, Or.inl ⟨rfl, rfl⟩⟩).2)) (show kC (ma_put S 69 12 (.inl ((mI S 69 12) + (1 : Int32)))) = kk from by first | (exact (xK_n (c := 69) (k := 12) (x := ((mI S 69 12) + (1 : Int32))) (xK_o (W := 75) hi5 hi6) ⟨by decide, Or.inl ⟨rfl, rfl⟩⟩).2)) (show aT 84 (ma_put S 69 12 (.inl ((mI S 69 12) + (1 : Int32)))) = ab from by first | (exact (tC (P := 84) (xC_n (c := 69) (k := 12) (x := ((mI S 69 12) + (1 : Int32))) (xC_o (W := 75) hi5) ⟨by decide, Or.inl ⟨rfl, rfl⟩⟩).1 (fun _ => rfl) (fun _ => rfl)).trans hi7)) (show aFl ab (l1).toInt (l2) (4500 - ((l6 + (1 : Int32))).toInt).toNat (v14).toInt (l5).toInt ((v2 - l5)).toInt = aFl ab z.toInt b 4500 (aN ab 0) (-1) 0 from by first | (have r0 := congrArg Int32.toInt (show aT 84 S 87 0 = mI S 84 0 from rfl); rw [hi7] at r0; have e1 := rp0_S1; rw [hi7] at e1; have e2 := rp0_S13; rw [(tC (P := 84) (xC_n (c := 69) (k := 12) (x := ((mI S 69 12) + (1 : Int32))) (xC_o (W := 75) hi5) ⟨by decide, Or.inl ⟨rfl, rfl⟩⟩).1 (fun _ => rfl) (fun _ => rfl)), hi7, e1] at e2; rw [e2]; rw [show ((v2 - l5)).toInt = aE ab l5.toInt - l5.toInt from by omega]; exact ((congrArg (fun q => aFl ab l1.toInt l2 q l5.toInt l3.toInt l4.toInt) (show (4500 - l6.toInt).toNat = (4500 - (l6 + (1 : Int32)).toInt).toNat + 1 by omega)).trans (aFl_y (by omega) (by omega) (Or.inl (by omega)))).symm.trans hi8) | (have r0 := congrArg Int32.toInt (show aT 84 S 87 0 = mI S 84 0 from rfl); rw [hi7] at r0; have e1 := rp0_S1; rw [hi7] at e1; have e2 := rp0_S13; rw [(tC (P := 84) (xC_n (c := 69) (k := 12) (x := ((mI S 69 12) + (1 : Int32))) (xC_o (W := 75) hi5) ⟨by decide, Or.inl ⟨rfl, rfl⟩⟩).1 (fun _ => rfl) (fun _ => rfl)), hi7, e1] at e2; rw [e2]; rw [show ((v2 - l5)).toInt = aE ab l5.toInt - l5.toInt from by omega]; exact ((congrArg (fun q => aFl ab l1.toInt l2 q l5.toInt l3.toInt l4.toInt) (show (4500 - l6.toInt).toNat = (4500 - (l6 + (1 : Int32)).toInt).toNat + 1 by omega)).trans (aFl_y (by omega) (by omega) (Or.inr (Or.inl ⟨by assumption, by omega⟩)))).symm.trans hi8) | (have r0 := congrArg Int32.toInt (show aT 84 S 87 0 = mI S 84 0 from rfl); rw [hi7] at r0; have e1 := rp0_S1; rw [hi7] at e1; have e2 := rp0_S13; rw [(tC (P := 84) (xC_n (c := 69) (k := 12) (x := ((mI S 69 12) + (1 : Int32))) (xC_o (W := 75) hi5) ⟨by decide, Or.inl ⟨rfl, rfl⟩⟩).1 (fun _ => rfl) (fun _ => rfl)), hi7, e1] at e2; rw [e2]; rw [show ((v2 - l5)).toInt = aE ab l5.toInt - l5.toInt from by omega]; exact ((congrArg (fun q => aFl ab l1.toInt l2 q l5.toInt l3.toInt l4.toInt) (show (4500 - l6.toInt).toNat = (4500 - (l6 + (1 : Int32)).toInt).toNat + 1 by omega)).trans (aFl_y (by omega) (by omega) (Or.inr (Or.inr ⟨by assumption, by omega⟩)))).symm.trans hi8))
theorem sp_108_84_sk {X : Nat × (Nat → Int32)} {d w : Nat} {f : Nat → Nat → Int32} {r : Nat → Nat → Option Nat} {C Z N : Nat} {Q : Option ma_V ⊕ Nat → ma_S → Prop} {ab : Nat→Nat→Int32} {kk : Nat→Int32} {S : ma_S} (z : Int32) (b : Int32) (hd : 2 ≤ d) (hw : 45 ≤ w) (hI : zJ84 f r C Z N S) (hpre0 : xB S (mR S 70)) (hpre1 : kC S = kk) (hpre2 : aT 84 S = ab) (K : ∀ v S₉, zJ84 f r C Z N S₉ → (-1 ≤ v.toInt ∧ v.toInt ≤ 1500) → (xB S₉ (mR S₉ 70)) → (kC S₉ = kk) → (aT 84 S₉ = ab) → (v.toInt = aFl ab z.toInt b 4500 (aN ab 0) (-1) 0) → Q (.inl (some (.inl v))) S₉) : ma_wp X d w 108 0 [(0, .inr (.inr (some 84))), (1, .inl z), (2, .inl b)] [] S Q := by
  refine g_108_84_sk_0 z b (by omega) (by omega) (zG_T hI) ?_
  have li1 : (0 : Int32).toInt = 0 := rfl
  refine sp_105_84_s (ab := (aT 84 S)) ((0 : Int32)) (by omega) (by omega) hI (show xB S (mR S 70) from by first | (exact xB_x (xC_o (W := 75) hpre0).2)) (show aT 84 S = (aT 84 S) from by first | (exact rfl) | (exact hpre2)) (by omega) (fun v2 S1 eS_S1 hp_v2 rp0_S1 => zi_n ⟨(by rw [eS_S1]; exact zG_T hI), ?_⟩)
  replace eS_S1 := eS_S1.symm; subst eS_S1
  have rp0_S1 : v2.toInt = aN (aT 84 S) (0 : Int32).toInt := rp0_S1
  have b2 := i_bd z
  have b3 := i_bd b
  have li4 : (-1 : Int32).toInt = -1 := rfl
  have b5 := i_bd v2
  exact lp_108_84_sk_15 (by omega) (by omega) K _ _ (z) (b) ((-1 : Int32)) ((0 : Int32)) (v2) ((0 : Int32)) rfl hI (by omega) (by omega) (by omega) (by omega) (by omega) (show xB S (mR S 70) from by first | (exact xB_x (xC_o (W := 75) hpre0).2)) (show kC S = kk from by first | (exact (xK_o (W := 75) hpre0 hpre1).2)) (show aT 84 S = ab from by first | (exact (tC (P := 84) (xC_o (W := 75) hpre0).1 (fun _ => rfl) (fun _ => rfl)).trans hpre2)) (show aFl ab (z).toInt (b) (4500 - ((0 : Int32)).toInt).toNat (v2).toInt ((-1 : Int32)).toInt ((0 : Int32)).toInt = aFl ab z.toInt b 4500 (aN ab 0) (-1) 0 from by first | (have q := rp0_S1; rw [show (0 : Int32).toInt = 0 from rfl] at q; rw [← hpre2, ← q]; rfl))

/-! from 95.m44 -/
/-! COUNTS, the class (written by wip/tools/gen20k.py) -/
theorem g_103_84_sk_0 {X : Nat × (Nat → Int32)} {d w : Nat} {S : ma_S} {Q : Option ma_V ⊕ Nat → ma_S → Prop} (n : Int32) (hd : 4 ≤ d) (hw : 93 ≤ w) (hS : zT S) (h : if (mI S 84 1) = (0 : Int32) then (ma_wp X (d - 1) (w - 26) 104 0 [(0, .inr (.inr (some 84))), (1, .inl (0 : Int32)), (2, .inl (mI S 84 0)), (3, .inl n)] [] S (zi (fun v2 S1 => zT S1 ∧ (Q (.inl (some (.inl v2))) S1)) (fun x S9 => Q (.inr x) S9))) else (if (mI S 84 1) = (1 : Int32) then (ma_wp X (d - 1) (w - 22) 107 0 [(0, .inr (.inr (some 84))), (1, .inl n)] [] S (zi (fun v4 S3 => zT S3 ∧ (Q (.inl (some (.inl v4))) S3)) (fun x S9 => Q (.inr x) S9))) else (if (mI S 84 1) = (2 : Int32) then (ma_wp X (d - 1) (w - 28) 108 0 [(0, .inr (.inr (some 84))), (1, .inl n), (2, .inl (1 : Int32))] [] S (zi (fun v6 S5 => zT S5 ∧ (Q (.inl (some (.inl v6))) S5)) (fun x S9 => Q (.inr x) S9))) else (ma_wp X (d - 1) (w - 28) 108 0 [(0, .inr (.inr (some 84))), (1, .inl n), (2, .inl (0 : Int32))] [] S (zi (fun v8 S7 => zT S7 ∧ (Q (.inl (some (.inl v8))) S7)) (fun x S9 => Q (.inr x) S9)))))) : ma_wp X d w 103 0 [(0, .inr (.inr (some 84))), (1, .inl n)] [] S Q := by
  refine zw_push hm_103 dX8_fit_0 (v := .inr (.inr (some 84))) rfl ?_
  refine zw_gf hm_103 dX8_fit_1 (v := .inl (mI S 84 1)) (zT_is hS s_84) (zT_t hS s_84) rfl f_8_15_2 rfl ?_
  by_cases hc0 : (mI S 84 1) = (0 : Int32)
  · rw [if_pos hc0] at h
    refine zw_jmp hm_103 dX8_fit_4 (t := 32) (st₉ := []) rfl rfl rfl (ma_jmp_tab (by rw [hc0]; decide +kernel)) ?_
    refine zw_push hm_103 dX8_fit_32 (v := .inr (.inr (some 84))) rfl ?_
    refine zw_push hm_103 dX8_fit_33 (v := .inl (0 : Int32)) rfl ?_
    refine zw_push hm_103 dX8_fit_34 (v := .inr (.inr (some 84))) rfl ?_
    refine zw_gf hm_103 dX8_fit_35 (v := .inl (mI S 84 0)) (zT_is hS s_84) (zT_t hS s_84) rfl f_8_9_2 rfl ?_
    refine zw_push hm_103 dX8_fit_38 (v := .inl n) rfl ?_
    refine zw_cv hm_103 dX8_fit_39 v_8_56_2 hm_104 [.inl n, .inl (mI S 84 0), .inl (0 : Int32)] [] rfl (zT_rt hS s_84 rfl) ⟨by omega, by omega⟩ rfl (zw_mono h (zi_go ?_ ?_))
    · intro v2 S1 hv
      obtain ⟨hS1, h⟩ := hv
      exact zw_iret hm_103 dX8_fit_42 h
    · intro x S9 hx
      exact ⟨by decide, hx⟩
  rw [if_neg hc0] at h
  by_cases hc1 : (mI S 84 1) = (1 : Int32)
  · rw [if_pos hc1] at h
    refine zw_jmp hm_103 dX8_fit_4 (t := 43) (st₉ := []) rfl rfl rfl (ma_jmp_tab (by rw [hc1]; decide +kernel)) ?_
    refine zw_push hm_103 dX8_fit_43 (v := .inr (.inr (some 84))) rfl ?_
    refine zw_push hm_103 dX8_fit_44 (v := .inl n) rfl ?_
    refine zw_cv hm_103 dX8_fit_45 v_8_60_2 hm_107 [.inl n] [] rfl (zT_rt hS s_84 rfl) ⟨by omega, by omega⟩ rfl (zw_mono h (zi_go ?_ ?_))
    · intro v4 S3 hv
      obtain ⟨hS3, h⟩ := hv
      exact zw_iret hm_103 dX8_fit_48 h
    · intro x S9 hx
      exact ⟨by decide, hx⟩
  rw [if_neg hc1] at h
  by_cases hc2 : (mI S 84 1) = (2 : Int32)
  · rw [if_pos hc2] at h
    refine zw_jmp hm_103 dX8_fit_4 (t := 49) (st₉ := []) rfl rfl rfl (ma_jmp_tab (by rw [hc2]; decide +kernel)) ?_
    refine zw_push hm_103 dX8_fit_49 (v := .inr (.inr (some 84))) rfl ?_
    refine zw_push hm_103 dX8_fit_50 (v := .inl n) rfl ?_
    refine zw_push hm_103 dX8_fit_51 (v := .inl (1 : Int32)) rfl ?_
    refine zw_cv hm_103 dX8_fit_52 v_8_63_2 hm_108 [.inl (1 : Int32), .inl n] [] rfl (zT_rt hS s_84 rfl) ⟨by omega, by omega⟩ rfl (zw_mono h (zi_go ?_ ?_))
    · intro v6 S5 hv
      obtain ⟨hS5, h⟩ := hv
      exact zw_iret hm_103 dX8_fit_55 h
    · intro x S9 hx
      exact ⟨by decide, hx⟩
  rw [if_neg hc2] at h
  refine zw_jmp hm_103 dX8_fit_4 (t := 56) (st₉ := []) rfl rfl rfl (ma_jmp_def (m := 3) (by decide) (fun j hj => by
      have hj2 : j = 0 ∨ j = 1 ∨ j = 2 := by omega
      rcases hj2 with rfl | rfl | rfl
      · exact hc0
      · exact hc1
      · exact hc2
      ) rfl) ?_
  refine zw_push hm_103 dX8_fit_56 (v := .inr (.inr (some 84))) rfl ?_
  refine zw_push hm_103 dX8_fit_57 (v := .inl n) rfl ?_
  refine zw_push hm_103 dX8_fit_58 (v := .inl (0 : Int32)) rfl ?_
  refine zw_cv hm_103 dX8_fit_59 v_8_63_2 hm_108 [.inl (0 : Int32), .inl n] [] rfl (zT_rt hS s_84 rfl) ⟨by omega, by omega⟩ rfl (zw_mono h (zi_go ?_ ?_))
  · intro v8 S7 hv
    obtain ⟨hS7, h⟩ := hv
    exact zw_iret hm_103 dX8_fit_62 h
  · intro x S9 hx
    exact ⟨by decide, hx⟩
theorem sp_103_84_sk {X : Nat × (Nat → Int32)} {d w : Nat} {f : Nat → Nat → Int32} {r : Nat → Nat → Option Nat} {C Z N : Nat} {Q : Option ma_V ⊕ Nat → ma_S → Prop} {ab : Nat→Nat→Int32} {kk : Nat→Int32} {S : ma_S} (n : Int32) (hd : 4 ≤ d) (hw : 93 ≤ w) (hI : zJ84 f r C Z N S) (hpre0 : xB S (mR S 70)) (hpre1 : kC S = kk) (hpre2 : aT 84 S = ab) (K : ∀ v S₉, zJ84 f r C Z N S₉ → (-1 ≤ v.toInt ∧ v.toInt ≤ 1500) → (xB S₉ (mR S₉ 70)) → (kC S₉ = kk) → (aT 84 S₉ = ab) → (v.toInt = aFt ab n.toInt) → Q (.inl (some (.inl v))) S₉) : ma_wp X d w 103 0 [(0, .inr (.inr (some 84))), (1, .inl n)] [] S Q := by
  refine g_103_84_sk_0 n (by omega) (by omega) (zG_T hI) ?_
  have b1 := i_bd (mI S 84 1)
  have li2 : (0 : Int32).toInt = 0 := rfl
  refine zd (fun h3 => ?_) (fun h3 => ?_)
  · skip
    have g4 := i_eq h3
    have f5 := zG_s hI (0) (1500) (c := 84) (k := 0) (by decide)
    have b6 := i_bd n
    refine sp_104_84_sk (ab := (aT 84 S)) (kk := kk) ((0 : Int32)) ((mI S 84 0)) (n) (by omega) (by omega) hI (show xB S (mR S 70) from by first | (exact xB_x (xC_o (W := 75) hpre0).2)) (show kC S = kk from by first | (exact (xK_o (W := 75) hpre0 hpre1).2)) (show aT 84 S = (aT 84 S) from by first | (exact rfl) | (exact (tC (P := 84) (xC_o (W := 75) hpre0).1 (fun _ => rfl) (fun _ => rfl)).trans hpre2)) (by omega) (fun v2 S1 hI_S1 hp_v2 rp0_S1 rp1_S1 rp2_S1 rp3_S1 => zi_n ⟨zG_T hI_S1, ?_⟩)
    have rp0_S1 : xB S1 (mR S1 70) := rp0_S1
    have rp1_S1 : kC S1 = kk := rp1_S1
    have rp2_S1 : aT 84 S1 = (aT 84 S) := rp2_S1
    have rp3_S1 : v2.toInt = aFf (aT 84 S) n.toInt (mI S 84 0).toInt 4500 (aN (aT 84 S) (0 : Int32).toInt) := rp3_S1
    have b7 := i_bd v2
    exact K (v2) _ hI_S1 (by omega) (show xB S1 (mR S1 70) from by first | (exact xB_x (xC_o (W := 75) rp0_S1).2)) (show kC S1 = kk from by first | (exact (xK_o (W := 75) rp0_S1 rp1_S1).2)) (show aT 84 S1 = ab from by first | (exact rp2_S1.trans (hpre2))) (show v2.toInt = aFt ab n.toInt from by first | (have q := rp3_S1; rw [← (show aT 84 S 87 0 = mI S 84 0 from rfl), hpre2, show (0 : Int32).toInt = 0 from rfl] at q; refine q.trans ?_; unfold aFt; refine (if_pos ?_).symm; rw [← hpre2, (show aT 84 S 87 1 = mI S 84 1 from rfl)]; assumption))
  · skip
    have g8 := i_ne h3
    have li9 : (1 : Int32).toInt = 1 := rfl
    refine zd (fun h10 => ?_) (fun h10 => ?_)
    · skip
      have g11 := i_eq h10
      have b12 := i_bd n
      refine sp_107_84_sk (ab := (aT 84 S)) (kk := kk) (n) (by omega) (by omega) hI (show xB S (mR S 70) from by first | (exact xB_x (xC_o (W := 75) hpre0).2)) (show kC S = kk from by first | (exact (xK_o (W := 75) hpre0 hpre1).2)) (show aT 84 S = (aT 84 S) from by first | (exact rfl)) (fun v4 S3 hI_S3 hp_v4 rp0_S3 rp1_S3 rp2_S3 rp3_S3 => zi_n ⟨zG_T hI_S3, ?_⟩)
      have rp0_S3 : xB S3 (mR S3 70) := rp0_S3
      have rp1_S3 : kC S3 = kk := rp1_S3
      have rp2_S3 : aT 84 S3 = (aT 84 S) := rp2_S3
      have rp3_S3 : v4.toInt = aFx (aT 84 S) n.toInt := rp3_S3
      have b13 := i_bd v4
      exact K (v4) _ hI_S3 (by omega) (show xB S3 (mR S3 70) from by first | (exact xB_x (xC_o (W := 75) rp0_S3).2)) (show kC S3 = kk from by first | (exact (xK_o (W := 75) rp0_S3 rp1_S3).2)) (show aT 84 S3 = ab from by first | (exact rp2_S3.trans (hpre2))) (show v4.toInt = aFt ab n.toInt from by first | (have q := rp3_S3; rw [hpre2] at q; refine q.trans ?_; unfold aFt; rw [← hpre2, (show aT 84 S 87 1 = mI S 84 1 from rfl)]; exact ((if_neg (by assumption)).trans (if_pos (by assumption))).symm))
    · skip
      have g14 := i_ne h10
      have li15 : (2 : Int32).toInt = 2 := rfl
      refine zd (fun h16 => ?_) (fun h16 => ?_)
      · skip
        have g17 := i_eq h16
        have b18 := i_bd n
        refine sp_108_84_sk (ab := (aT 84 S)) (kk := kk) (n) ((1 : Int32)) (by omega) (by omega) hI (show xB S (mR S 70) from by first | (exact xB_x (xC_o (W := 75) hpre0).2)) (show kC S = kk from by first | (exact (xK_o (W := 75) hpre0 hpre1).2)) (show aT 84 S = (aT 84 S) from by first | (exact rfl) | (exact (tC (P := 84) (xC_o (W := 75) hpre0).1 (fun _ => rfl) (fun _ => rfl)).trans hpre2)) (fun v6 S5 hI_S5 hp_v6 rp0_S5 rp1_S5 rp2_S5 rp3_S5 => zi_n ⟨zG_T hI_S5, ?_⟩)
        have rp0_S5 : xB S5 (mR S5 70) := rp0_S5
        have rp1_S5 : kC S5 = kk := rp1_S5
        have rp2_S5 : aT 84 S5 = (aT 84 S) := rp2_S5
        have rp3_S5 : v6.toInt = aFl (aT 84 S) n.toInt (1 : Int32) 4500 (aN (aT 84 S) 0) (-1) 0 := rp3_S5
        have b19 := i_bd v6
        exact K (v6) _ hI_S5 (by omega) (show xB S5 (mR S5 70) from by first | (exact xB_x (xC_o (W := 75) rp0_S5).2)) (show kC S5 = kk from by first | (exact (xK_o (W := 75) rp0_S5 rp1_S5).2)) (show aT 84 S5 = ab from by first | (exact rp2_S5.trans (hpre2))) (show v6.toInt = aFt ab n.toInt from by first | (have q := rp3_S5; rw [hpre2] at q; refine q.trans ?_; unfold aFt; rw [← hpre2, (show aT 84 S 87 1 = mI S 84 1 from rfl)]; exact ((if_neg (by assumption)).trans ((if_neg (by assumption)).trans (if_pos (by assumption)))).symm) | (have q := rp3_S5; rw [hpre2] at q; refine q.trans ?_; unfold aFt; rw [← hpre2, (show aT 84 S 87 1 = mI S 84 1 from rfl)]; exact ((if_neg (by assumption)).trans ((if_neg (by assumption)).trans (if_neg (by assumption)))).symm))
      · skip
        have g20 := i_ne h16
        have b21 := i_bd n
        refine sp_108_84_sk (ab := (aT 84 S)) (kk := kk) (n) ((0 : Int32)) (by omega) (by omega) hI (show xB S (mR S 70) from by first | (exact xB_x (xC_o (W := 75) hpre0).2)) (show kC S = kk from by first | (exact (xK_o (W := 75) hpre0 hpre1).2)) (show aT 84 S = (aT 84 S) from by first | (exact rfl) | (exact (tC (P := 84) (xC_o (W := 75) hpre0).1 (fun _ => rfl) (fun _ => rfl)).trans hpre2)) (fun v8 S7 hI_S7 hp_v8 rp0_S7 rp1_S7 rp2_S7 rp3_S7 => zi_n ⟨zG_T hI_S7, ?_⟩)
        have rp0_S7 : xB S7 (mR S7 70) := rp0_S7
        have rp1_S7 : kC S7 = kk := rp1_S7
        have rp2_S7 : aT 84 S7 = (aT 84 S) := rp2_S7
        have rp3_S7 : v8.toInt = aFl (aT 84 S) n.toInt (0 : Int32) 4500 (aN (aT 84 S) 0) (-1) 0 := rp3_S7
        have b22 := i_bd v8
        exact K (v8) _ hI_S7 (by omega) (show xB S7 (mR S7 70) from by first | (exact xB_x (xC_o (W := 75) rp0_S7).2)) (show kC S7 = kk from by first | (exact (xK_o (W := 75) rp0_S7 rp1_S7).2)) (show aT 84 S7 = ab from by first | (exact rp2_S7.trans (hpre2))) (show v8.toInt = aFt ab n.toInt from by first | (have q := rp3_S7; rw [hpre2] at q; refine q.trans ?_; unfold aFt; rw [← hpre2, (show aT 84 S 87 1 = mI S 84 1 from rfl)]; exact ((if_neg (by assumption)).trans ((if_neg (by assumption)).trans (if_pos (by assumption)))).symm) | (have q := rp3_S7; rw [hpre2] at q; refine q.trans ?_; unfold aFt; rw [← hpre2, (show aT 84 S 87 1 = mI S 84 1 from rfl)]; exact ((if_neg (by assumption)).trans ((if_neg (by assumption)).trans (if_neg (by assumption)))).symm))
theorem g_102_84_sk_0 {X : Nat × (Nat → Int32)} {d w : Nat} {S : ma_S} {Q : Option ma_V ⊕ Nat → ma_S → Prop} (z : Int32) (hd : 5 ≤ d) (hw : 114 ≤ w) (hS : zT S) (h : ma_wp X (d - 1) (w - 21) 103 0 [(0, .inr (.inr (some 84))), (1, .inl z)] [] S (zi (fun v2 S1 => zT S1 ∧ (if v2 = (-1 : Int32) then (ma_wp X (d - 1) (w - 20) 109 0 [(0, .inr (.inr (some 84)))] [] S1 (zi (fun v4 S3 => zT S3 ∧ (ma_wp X (d - 1) (w - 21) 103 0 [(0, .inr (.inr (some 84))), (1, .inl z)] [] S3 (zi (fun v6 S5 => zT S5 ∧ (Q (.inl (some (.inl v6))) S5)) (fun x S9 => Q (.inr x) S9)))) (fun x S9 => Q (.inr x) S9))) else (Q (.inl (some (.inl v2))) S1))) (fun x S9 => Q (.inr x) S9))) : ma_wp X d w 102 0 [(0, .inr (.inr (some 84))), (1, .inl z)] [] S Q := by
  refine zw_push hm_102 dX8_findRoom_0 (v := .inr (.inr (some 84))) rfl ?_
  refine zw_push hm_102 dX8_findRoom_1 (v := .inl z) rfl ?_
  refine zw_cv hm_102 dX8_findRoom_2 v_8_21_2 hm_103 [.inl z] [] rfl (zT_rt hS s_84 rfl) ⟨by omega, by omega⟩ rfl (zw_mono h (zi_go ?_ ?_))
  · intro v2 S1 hv
    obtain ⟨hS1, h⟩ := hv
    refine zw_sto hm_102 dX8_findRoom_5 [(2, .inl v2), (0, .inr (.inr (some 84))), (1, .inl z)] rfl rfl rfl ?_
    refine zw_push hm_102 dX8_findRoom_6 (v := .inl v2) rfl ?_
    refine zw_push hm_102 dX8_findRoom_7 (v := .inl (-1 : Int32)) rfl ?_
    refine zw_if2 hm_102 dX8_findRoom_8 (t := 22) rfl zc2_ne ?_ ?_
    · intro hc
      rw [if_neg hc] at h
      refine zw_push hm_102 dX8_findRoom_22 (v := .inl v2) rfl ?_
      exact zw_iret hm_102 dX8_findRoom_23 h
    · intro hc
      rw [if_pos (Classical.not_not.mp hc)] at h
      refine zw_push hm_102 dX8_findRoom_11 (v := .inr (.inr (some 84))) rfl ?_
      refine zw_cv hm_102 dX8_findRoom_12 v_8_25_2 hm_109 [] [] rfl (zT_rt hS1 s_84 rfl) ⟨by omega, by omega⟩ rfl (zw_mono h (zi_go ?_ ?_))
      · intro v4 S3 hv
        obtain ⟨hS3, h⟩ := hv
        refine zw_stk hm_102 dX8_findRoom_15 (st₉ := []) rfl rfl ?_
        refine zw_push hm_102 dX8_findRoom_16 (v := .inr (.inr (some 84))) rfl ?_
        refine zw_push hm_102 dX8_findRoom_17 (v := .inl z) rfl ?_
        refine zw_cv hm_102 dX8_findRoom_18 v_8_21_2 hm_103 [.inl z] [] rfl (zT_rt hS3 s_84 rfl) ⟨by omega, by omega⟩ rfl (zw_mono h (zi_go ?_ ?_))
        · intro v6 S5 hv
          obtain ⟨hS5, h⟩ := hv
          refine zw_sto hm_102 dX8_findRoom_21 [(2, .inl v6), (0, .inr (.inr (some 84))), (1, .inl z)] rfl rfl rfl ?_
          refine zw_push hm_102 dX8_findRoom_22 (v := .inl v6) rfl ?_
          exact zw_iret hm_102 dX8_findRoom_23 h
        · intro x S9 hx
          exact ⟨by decide, hx⟩
      · intro x S9 hx
        exact ⟨by decide, hx⟩
  · intro x S9 hx
    exact ⟨by decide, hx⟩
theorem sp_102_84_sk {X : Nat × (Nat → Int32)} {d w : Nat} {f : Nat → Nat → Int32} {r : Nat → Nat → Option Nat} {C Z N : Nat} {Q : Option ma_V ⊕ Nat → ma_S → Prop} {ab : Nat→Nat→Int32} {B : Int} {S : ma_S} (z : Int32) (hd : 5 ≤ d) (hw : 114 ≤ w) (hI : zJ84 f r C Z N S) (hpre0 : xB S (mR S 70)) (hpre1 : aT 84 S = ab) (hpre2 : cC ab [] (kC S) B) (hpre3 : qI ab) (K : ∀ v S₉, zJ84 f r C Z N S₉ → (-1 ≤ v.toInt ∧ v.toInt ≤ 1500) → (xB S₉ (mR S₉ 70)) → (aT 84 S₉ = zRs ab z.toInt ∧ v.toInt = zRp ab z.toInt) → (cC (aT 84 S₉) [] (kC S₉) B) → Q (.inl (some (.inl v))) S₉) : ma_wp X d w 102 0 [(0, .inr (.inr (some 84))), (1, .inl z)] [] S Q := by
  refine g_102_84_sk_0 z (by omega) (by omega) (zG_T hI) ?_
  have b1 := i_bd z
  refine sp_103_84_sk (ab := (aT 84 S)) (kk := (kC S)) (z) (by omega) (by omega) hI (show xB S (mR S 70) from by first | (exact xB_x (xC_o (W := 75) hpre0).2)) (show kC S = (kC S) from by first | (exact rfl)) (show aT 84 S = (aT 84 S) from by first | (exact rfl)) (fun v2 S1 hI_S1 hp_v2 rp0_S1 rp1_S1 rp2_S1 rp3_S1 => zi_n ⟨zG_T hI_S1, ?_⟩)
  have rp0_S1 : xB S1 (mR S1 70) := rp0_S1
  have rp1_S1 : kC S1 = (kC S) := rp1_S1
  have rp2_S1 : aT 84 S1 = (aT 84 S) := rp2_S1
  have rp3_S1 : v2.toInt = aFt (aT 84 S) z.toInt := rp3_S1
  have b2 := i_bd v2
  have li3 : (-1 : Int32).toInt = -1 := rfl
  refine zd (fun h4 => ?_) (fun h4 => ?_)
  · skip
    have g5 := i_eq h4
    refine sp_109_84_sk (ab := (aS 75 S1)) (fp := (mI S1 84)) (by omega) (by omega) hI_S1 (show xB S1 (mR S1 70) from by first | (exact xB_x (xC_o (W := 75) rp0_S1).2)) (show aS 75 S1 = (aS 75 S1) from by first | (exact rfl)) (show (mI S1 84) = (mI S1 84) from by first | (exact rfl)) (show kJ (aS 75 S1) (kC S1) from by first | (have k1 := rp2_S1.trans hpre1; refine J_o8 (T_o8 (P := 84)) ?_; rw [k1, rp1_S1]; exact C_J hpre2)) (fun v4 S3 hI_S3 hp_v4 rp0_S3 rp1_S3 rp2_S3 rp3_S3 => zi_n ⟨zG_T hI_S3, ?_⟩)
    have rp0_S3 : xB S3 (mR S3 70) := rp0_S3
    have rp1_S3 : aS 75 S3 = aSw (aS 75 S1) ∧ v4 = aSv (aS 75 S1) := rp1_S3
    have rp2_S3 : (mI S3 84) = (mI S1 84) := rp2_S3
    have rp3_S3 : kJ (aS 75 S3) (kC S3) := rp3_S3
    refine sp_103_84_sk (ab := (aT 84 S3)) (kk := (kC S3)) (z) (by omega) (by omega) hI_S3 (show xB S3 (mR S3 70) from by first | (exact xB_x (xC_o (W := 75) rp0_S3).2)) (show kC S3 = (kC S3) from by first | (exact rfl)) (show aT 84 S3 = (aT 84 S3) from by first | (exact rfl)) (fun v6 S5 hI_S5 hp_v6 rp0_S5 rp1_S5 rp2_S5 rp3_S5 => zi_n ⟨zG_T hI_S5, ?_⟩)
    have rp0_S5 : xB S5 (mR S5 70) := rp0_S5
    have rp1_S5 : kC S5 = (kC S3) := rp1_S5
    have rp2_S5 : aT 84 S5 = (aT 84 S3) := rp2_S5
    have rp3_S5 : v6.toInt = aFt (aT 84 S3) z.toInt := rp3_S5
    have b6 := i_bd v6
    exact K (v6) _ hI_S5 (by omega) (show xB S5 (mR S5 70) from by first | (exact xB_x (xC_o (W := 75) rp0_S5).2)) (show aT 84 S5 = zRs ab z.toInt ∧ v6.toInt = zRp ab z.toInt from by first | (have k1 := rp2_S1.trans hpre1; have v1 := rp3_S1; rw [hpre1] at v1; have k2 := (T_sw (P := 84) rp1_S3.1 (zf_84 rp2_S3)).trans (congrArg aSw k1); have k3 := rp2_S5.trans k2; have v3 := rp3_S5; rw [k2] at v3; have E := zRs_2 (a := ab) (z := z.toInt) (by rw [← v1]; omega); exact ⟨k3.trans E.symm, (by rw [zRp, E]; exact v3)⟩)) (show cC (aT 84 S5) [] (kC S5) B from by first | (have k1 := rp2_S1.trans hpre1; have k2 := (T_sw (P := 84) rp1_S3.1 (zf_84 rp2_S3)).trans (congrArg aSw k1); have k3 := rp2_S5.trans k2; have j := J_o8 (O8_sy (T_o8 (P := 84))) rp3_S3; rw [k2] at j; rw [k3, rp1_S5]; exact C_sw hpre3 hpre2 j))
  · skip
    have g7 := i_ne h4
    exact K (v2) _ hI_S1 (by omega) (show xB S1 (mR S1 70) from by first | (exact xB_x (xC_o (W := 75) rp0_S1).2)) (show aT 84 S1 = zRs ab z.toInt ∧ v2.toInt = zRp ab z.toInt from by first | (have k1 := rp2_S1.trans hpre1; have v1 := rp3_S1; rw [hpre1] at v1; have E := zRs_1 (a := ab) (z := z.toInt) (by rw [← v1]; omega); exact ⟨k1.trans E.symm, (by rw [zRp, E]; exact v1)⟩)) (show cC (aT 84 S1) [] (kC S1) B from by first | (have k1 := rp2_S1.trans hpre1; rw [k1, rp1_S1]; exact hpre2))
theorem g_159_64_sk_p84_0 {X : Nat × (Nat → Int32)} {d w : Nat} {S : ma_S} {Q : Option ma_V ⊕ Nat → ma_S → Prop}  (hd : 7 ≤ d) (hw : 179 ≤ w) (hS : zT S) (h : mR S 64 11 = some 84 ∧ (mR S 64 11 = some 84 ∧ (ma_wp X (d - 1) (w - 20) 109 0 [(0, .inr (.inr (some 84)))] [] S (zi (fun v2 S1 => zT S1 ∧ (Q (.inl (some (.inl v2))) S1)) (fun _ _ => False))))) : ma_wp X d w 159 0 [(0, .inr (.inr (some 64)))] [] S Q := by
  refine zw_push hm_159 dX11_clean_0 (v := .inr (.inr (some 64))) rfl ?_
  refine zw_cv hm_159 dX11_clean_1 v_11_119_11 hm_144 [] [] rfl (zT_rt hS s_64 rfl) ⟨by omega, by omega⟩ rfl ?_
  show ma_wp X (d - 1) (w - 20) 144 0 [(0, .inr (.inr (some 64)))] [] S _
  refine zw_push hm_144 dX11_needCollector_0 (v := .inr (.inr (some 64))) rfl ?_
  obtain ⟨hg, h⟩ := h
  refine zw_gf hm_144 dX11_needCollector_1 (v := .inr (.inr (some 84))) (zT_is hS s_64) (zT_t hS s_64) rfl f_11_98_11 (congrArg (fun z => Sum.inr (Sum.inr z)) hg) ?_
  refine zw_ifnonnull hm_144 dX11_needCollector_4 (t := 15) rfl (fun z => by cases z) (fun _ _ => ?_)
  refine zw_push hm_144 dX11_needCollector_15 (v := .inr (.inr (some 64))) rfl ?_
  obtain ⟨hg, h⟩ := h
  refine zw_gf hm_144 dX11_needCollector_16 (v := .inr (.inr (some 84))) (zT_is hS s_64) (zT_t hS s_64) rfl f_11_98_11 (congrArg (fun z => Sum.inr (Sum.inr z)) hg) ?_
  refine zw_aret hm_144 dX11_needCollector_19 ?_
  show ma_wp X d w 159 4 [(0, .inr (.inr (some 64)))] [.inr (.inr (some 84))] S _
  refine zw_cv hm_159 dX11_clean_4 v_11_207_2 hm_109 [] [] rfl (zT_rt hS s_84 rfl) ⟨by omega, by omega⟩ rfl (zw_mono h (zi_go ?_ ?_))
  · intro v2 S1 hv
    obtain ⟨hS1, h⟩ := hv
    exact zw_iret hm_159 dX11_clean_7 h
  · intro x S9 hx
    exact hx.elim
theorem sp_159_64_sk_p84 {X : Nat × (Nat → Int32)} {d w : Nat} {f : Nat → Nat → Int32} {r : Nat → Nat → Option Nat} {C Z N : Nat} {Q : Option ma_V ⊕ Nat → ma_S → Prop} {ab : Nat→Nat→Int32} {B : Int} {S : ma_S}  (hd : 7 ≤ d) (hw : 179 ≤ w) (hI : zB f r C Z N S) (hr : r 64 11 = some 84) (hpre0 : xB S (mR S 70)) (hpre1 : aT 84 S = ab) (hpre2 : cC ab [] (kC S) B) (hpre3 : qI ab) (K : ∀ v S₉, zB f r C Z N S₉ → (True) → (xB S₉ (mR S₉ 70)) → (aT 84 S₉ = aSw ab ∧ v = aSv ab) → (cC (aT 84 S₉) [] (kC S₉) B) → Q (.inl (some (.inl v))) S₉) : ma_wp X d w 159 0 [(0, .inr (.inr (some 64)))] [] S Q := by
  refine g_159_64_sk_p84_0  (by omega) (by omega) (zG_T hI) ?_
  refine ⟨((zG_r hI (by decide)).trans hr), ?_⟩
  refine ⟨((zG_r hI (by decide)).trans hr), ?_⟩
  refine sp_109_84_sk (ab := (aS 75 S)) (fp := (mI S 84)) (by omega) (by omega) (zB_dn_zJ84 hI) (show xB S (mR S 70) from by first | (exact xB_x (xC_o (W := 75) hpre0).2)) (show aS 75 S = (aS 75 S) from by first | (exact rfl)) (show (mI S 84) = (mI S 84) from by first | (exact rfl)) (show kJ (aS 75 S) (kC S) from by first | (exact J_o8 (T_o8 (P := 84)) (by rw [hpre1]; exact C_J hpre2))) (fun v2 S1 hL_S1 hp_v2 rp0_S1 rp1_S1 rp2_S1 rp3_S1 => zi_n ⟨zG_T hL_S1, ?_⟩)
  have hI_S1 := zB_up_zJ84 hI hL_S1
  have rp0_S1 : xB S1 (mR S1 70) := by
    have z := rp0_S1
    (try rw [show mI S 65 = f 65 from funext (fun k => zG_z hI rfl)] at z)
    (try rw [show mI S 64 1 = f 64 1 from zG_z hI rfl] at z)
    exact z
  have rp1_S1 : aS 75 S1 = aSw (aS 75 S) ∧ v2 = aSv (aS 75 S) := by
    have z := rp1_S1
    (try rw [show mI S 65 = f 65 from funext (fun k => zG_z hI rfl)] at z)
    (try rw [show mI S 64 1 = f 64 1 from zG_z hI rfl] at z)
    exact z
  have rp2_S1 : (mI S1 84) = (mI S 84) := by
    have z := rp2_S1
    (try rw [show mI S 65 = f 65 from funext (fun k => zG_z hI rfl)] at z)
    (try rw [show mI S 64 1 = f 64 1 from zG_z hI rfl] at z)
    exact z
  have rp3_S1 : kJ (aS 75 S1) (kC S1) := by
    have z := rp3_S1
    (try rw [show mI S 65 = f 65 from funext (fun k => zG_z hI rfl)] at z)
    (try rw [show mI S 64 1 = f 64 1 from zG_z hI rfl] at z)
    exact z
  have b1 := i_bd v2
  exact K (v2) _ hI_S1 trivial (show xB S1 (mR S1 70) from by first | (exact xB_x (xC_o (W := 75) rp0_S1).2)) (show aT 84 S1 = aSw ab ∧ v2 = aSv ab from by first | (have z := rp1_S1; refine ⟨(T_sw z.1 (zf_84 rp2_S1)).trans (congrArg aSw hpre1), z.2.trans (T_sv.trans (congrArg aSv hpre1))⟩)) (show cC (aT 84 S1) [] (kC S1) B from by first | (have k2 := (T_sw (P := 84) rp1_S1.1 (zf_84 rp2_S1)).trans (congrArg aSw hpre1); have j := J_o8 (O8_sy (T_o8 (P := 84))) rp3_S1; rw [k2] at j; rw [k2]; exact C_sw hpre3 hpre2 j))

/-! from 95.m45 -/
/-! COUNTS, the class (written by wip/tools/gen20k.py) -/
theorem g_162_64_sk_p84_0 {X : Nat × (Nat → Int32)} {d w : Nat} {S : ma_S} {Q : Option ma_V ⊕ Nat → ma_S → Prop} (i : Int32) (pa : Int32) (hd : 7 ≤ d) (hw : 109 ≤ w) (hS : zT S) (h : if pa < 0 then (Q (.inr 2) (ma_bump S)) else (if pa ≤ (1 : Int32) then (mR S 64 11 = some 84 ∧ (mR S 64 11 = some 84 ∧ (ma_wp X (d - 1) (w - 23) 111 0 [(0, .inr (.inr (some 84))), (1, .inl i)] [] S (zi (fun v2 S1 => zT S1 ∧ (if v2 = (-1 : Int32) then (Q (.inr 1) (ma_bump S1)) else (if pa = 0 then (Q (.inl (some (.inl v2))) S1) else (ma_wp X (d - 1) (w - 22) 106 0 [(0, .inr (.inr (some 84))), (1, .inl v2)] [] S1 (zi (fun v4 S3 => zT S3 ∧ (Q (.inl (some (.inl (v4 - v2)))) S3)) (fun x S9 => Q (.inr x) S9)))))) (fun x S9 => Q (.inr x) S9))))) else (Q (.inr 2) (ma_bump S)))) : ma_wp X d w 162 0 [(0, .inr (.inr (some 64))), (1, .inl i), (2, .inl pa)] [] S Q := by
  refine zw_push hm_162 dX11_block_0 (v := .inl pa) rfl ?_
  refine zw_if0 hm_162 dX11_block_1 (t := 9) rfl zc0_lt ?_ ?_
  · intro hc
    rw [if_pos hc] at h
    exact zw_thr hm_162 dX11_block_9 dX11_block_12 dX11_block_13 dX11_block_16 x_11_79_81 n_11_79 (by omega) (by show 0 + 81 ≤ w; omega) h
  · intro hc
    rw [if_neg hc] at h
    refine zw_push hm_162 dX11_block_4 (v := .inl pa) rfl ?_
    refine zw_push hm_162 dX11_block_5 (v := .inl (1 : Int32)) rfl ?_
    refine zw_if2 hm_162 dX11_block_6 (t := 17) rfl zc2_le ?_ ?_
    · intro hc
      rw [if_pos hc] at h
      refine zw_push hm_162 dX11_block_17 (v := .inr (.inr (some 64))) rfl ?_
      refine zw_cv hm_162 dX11_block_18 v_11_119_11 hm_144 [] [] rfl (zT_rt hS s_64 rfl) ⟨by omega, by omega⟩ rfl ?_
      show ma_wp X (d - 1) (w - 20) 144 0 [(0, .inr (.inr (some 64)))] [] S _
      refine zw_push hm_144 dX11_needCollector_0 (v := .inr (.inr (some 64))) rfl ?_
      obtain ⟨hg, h⟩ := h
      refine zw_gf hm_144 dX11_needCollector_1 (v := .inr (.inr (some 84))) (zT_is hS s_64) (zT_t hS s_64) rfl f_11_98_11 (congrArg (fun z => Sum.inr (Sum.inr z)) hg) ?_
      refine zw_ifnonnull hm_144 dX11_needCollector_4 (t := 15) rfl (fun z => by cases z) (fun _ _ => ?_)
      refine zw_push hm_144 dX11_needCollector_15 (v := .inr (.inr (some 64))) rfl ?_
      obtain ⟨hg, h⟩ := h
      refine zw_gf hm_144 dX11_needCollector_16 (v := .inr (.inr (some 84))) (zT_is hS s_64) (zT_t hS s_64) rfl f_11_98_11 (congrArg (fun z => Sum.inr (Sum.inr z)) hg) ?_
      refine zw_aret hm_144 dX11_needCollector_19 ?_
      show ma_wp X d w 162 21 [(0, .inr (.inr (some 64))), (1, .inl i), (2, .inl pa)] [.inr (.inr (some 84))] S _
      refine zw_sto hm_162 dX11_block_21 [(4, .inr (.inr (some 84))), (0, .inr (.inr (some 64))), (1, .inl i), (2, .inl pa)] rfl rfl rfl ?_
      refine zw_push hm_162 dX11_block_23 (v := .inr (.inr (some 84))) rfl ?_
      refine zw_iof hm_162 dX11_block_25 (zT_is hS s_84) (zT_t hS s_84) rfl ct_11_41_2 (v := (1 : Int32)) rfl ?_
      refine zw_if0 hm_162 dX11_block_28 (t := 77) rfl zc0_eq (fun hc => absurd hc (by decide)) (fun _ => ?_)
      refine zw_push hm_162 dX11_block_31 (v := .inr (.inr (some 84))) rfl ?_
      refine zw_cast hm_162 dX11_block_33 (zT_is hS s_84) (zT_t hS s_84) rfl ct_11_41_2 ?_
      refine zw_sto hm_162 dX11_block_36 [(3, .inr (.inr (some 84))), (4, .inr (.inr (some 84))), (0, .inr (.inr (some 64))), (1, .inl i), (2, .inl pa)] rfl rfl rfl ?_
      refine zw_push hm_162 dX11_block_37 (v := .inr (.inr (some 84))) rfl ?_
      refine zw_push hm_162 dX11_block_38 (v := .inl i) rfl ?_
      refine zw_cv hm_162 dX11_block_39 v_11_232_2 hm_111 [.inl i] [] rfl (zT_rt hS s_84 rfl) ⟨by omega, by omega⟩ rfl (zw_mono h (zi_go ?_ ?_))
      · intro v2 S1 hv
        obtain ⟨hS1, h⟩ := hv
        refine zw_sto hm_162 dX11_block_42 [(4, .inl v2), (3, .inr (.inr (some 84))), (0, .inr (.inr (some 64))), (1, .inl i), (2, .inl pa)] rfl rfl rfl ?_
        refine zw_push hm_162 dX11_block_44 (v := .inl v2) rfl ?_
        refine zw_push hm_162 dX11_block_46 (v := .inl (-1 : Int32)) rfl ?_
        refine zw_if2 hm_162 dX11_block_47 (t := 58) rfl zc2_ne ?_ ?_
        · intro hc
          rw [if_neg hc] at h
          refine zw_push hm_162 dX11_block_58 (v := .inl pa) rfl ?_
          refine zw_if0 hm_162 dX11_block_59 (t := 67) rfl zc0_ne ?_ ?_
          · intro hc
            rw [if_neg hc] at h
            refine zw_push hm_162 dX11_block_67 (v := .inr (.inr (some 84))) rfl ?_
            refine zw_push hm_162 dX11_block_68 (v := .inl v2) rfl ?_
            refine zw_cv hm_162 dX11_block_70 v_11_235_2 hm_106 [.inl v2] [] rfl (zT_rt hS1 s_84 rfl) ⟨by omega, by omega⟩ rfl (zw_mono h (zi_go ?_ ?_))
            · intro v4 S3 hv
              obtain ⟨hS3, h⟩ := hv
              refine zw_push hm_162 dX11_block_73 (v := .inl v2) rfl ?_
              refine zw_stk hm_162 dX11_block_75 (st₉ := [.inl (v4 - v2)]) rfl rfl ?_
              exact zw_iret hm_162 dX11_block_76 h
            · intro x S9 hx
              exact ⟨by decide, hx⟩
          · intro hc
            rw [if_pos (Classical.not_not.mp hc)] at h
            refine zw_push hm_162 dX11_block_62 (v := .inl v2) rfl ?_
            refine zw_goto hm_162 dX11_block_64 (t := 76) rfl ?_
            exact zw_iret hm_162 dX11_block_76 h
        · intro hc
          rw [if_pos (Classical.not_not.mp hc)] at h
          exact zw_thr hm_162 dX11_block_50 dX11_block_53 dX11_block_54 dX11_block_57 x_11_72_74 n_11_72 (by omega) (by show 0 + 81 ≤ w; omega) h
      · intro x S9 hx
        exact ⟨by decide, hx⟩
    · intro hc
      rw [if_neg hc] at h
      exact zw_thr hm_162 dX11_block_9 dX11_block_12 dX11_block_13 dX11_block_16 x_11_79_81 n_11_79 (by omega) (by show 0 + 81 ≤ w; omega) h
theorem sp_162_64_sk_p84 {X : Nat × (Nat → Int32)} {d w : Nat} {f : Nat → Nat → Int32} {r : Nat → Nat → Option Nat} {C Z N : Nat} {Q : Option ma_V ⊕ Nat → ma_S → Prop} {ab : Nat→Nat→Int32} {B : Int} {S : ma_S} (i : Int32) (pa : Int32) (hd : 7 ≤ d) (hw : 109 ≤ w) (hI : zB f r C Z N S) (hr : r 64 11 = some 84) (hpre0 : xB S (mR S 70)) (hpre1 : aT 84 S = ab) (hpre2 : cC ab [] (kC S) B) (K : ∀ v S₉, zB f r C Z N S₉ → (True) → (xB S₉ (mR S₉ 70)) → (aT 84 S₉ = ab) → (cC ab [] (kC S₉) B) → ((0 ≤ pa.toInt ∧ pa.toInt ≤ 1) ∧ (if i.toInt < 0 then -1 else aBk ab i.toInt.toNat (aN ab 0)) ≠ -1 ∧ ((pa.toInt = 0 ∧ v.toInt = (if i.toInt < 0 then -1 else aBk ab i.toInt.toNat (aN ab 0))) ∨ (pa.toInt = 1 ∧ v.toInt = aE ab (if i.toInt < 0 then -1 else aBk ab i.toInt.toNat (aN ab 0)) - (if i.toInt < 0 then -1 else aBk ab i.toInt.toNat (aN ab 0))))) → Q (.inl (some (.inl v))) S₉) (KX : ∀ x S₉, (x = 1 ∨ x = 2) → zB f r C Z N S₉ → (xB S₉ (mR S₉ 70)) → (aT 84 S₉ = ab) → (cC ab [] (kC S₉) B) → ((x = 2 ∧ ¬ (0 ≤ pa.toInt ∧ pa.toInt ≤ 1)) ∨ (x = 1 ∧ (0 ≤ pa.toInt ∧ pa.toInt ≤ 1) ∧ (if i.toInt < 0 then -1 else aBk ab i.toInt.toNat (aN ab 0)) = -1)) → Q (.inr x) (ma_bump S₉)) : ma_wp X d w 162 0 [(0, .inr (.inr (some 64))), (1, .inl i), (2, .inl pa)] [] S Q := by
  refine g_162_64_sk_p84_0 i pa (by omega) (by omega) (zG_T hI) ?_
  have li1 : (0 : Int32).toInt = 0 := rfl
  refine zd (fun h2 => ?_) (fun h2 => ?_)
  · skip
    have g3 := i_lt h2
    exact KX 2 _ (by decide) hI (show xB S (mR S 70) from by first | (exact xB_x (xC_o (W := 75) hpre0).2)) (show aT 84 S = ab from by first | (exact hpre1)) (show cC ab [] (kC S) B from by first | (exact hpre2)) (show (2 = 2 ∧ ¬ (0 ≤ pa.toInt ∧ pa.toInt ≤ 1)) ∨ (2 = 1 ∧ (0 ≤ pa.toInt ∧ pa.toInt ≤ 1) ∧ (if i.toInt < 0 then -1 else aBk ab i.toInt.toNat (aN ab 0)) = -1) from by first | (exact Or.inl ⟨rfl, by omega⟩))
  · skip
    have g4 := i_nlt h2
    have li5 : (1 : Int32).toInt = 1 := rfl
    refine zd (fun h6 => ?_) (fun h6 => ?_)
    · skip
      have g7 := i_le h6
      refine ⟨((zG_r hI (by decide)).trans hr), ?_⟩
      refine ⟨((zG_r hI (by decide)).trans hr), ?_⟩
      refine sp_111_84_s (ab := (aT 84 S)) (i) (by omega) (by omega) (zB_dn_zJ84 hI) (show xB S (mR S 70) from by first | (exact xB_x (xC_o (W := 75) hpre0).2)) (show aT 84 S = (aT 84 S) from by first | (exact rfl) | (exact hpre1)) (fun v2 S1 eS_S1 hp_v2 rp0_S1 => zi_n ⟨(by rw [eS_S1]; exact zG_T hI), ?_⟩)
      replace eS_S1 := eS_S1.symm; subst eS_S1
      have rp0_S1 : v2.toInt = (if i.toInt < 0 then -1 else aBk (aT 84 S) i.toInt.toNat (aN (aT 84 S) 0)) := rp0_S1
      have li8 : (-1 : Int32).toInt = -1 := rfl
      refine zd (fun h9 => ?_) (fun h9 => ?_)
      · skip
        have g10 := i_eq h9
        exact KX 1 _ (by decide) hI (show xB S (mR S 70) from by first | (exact xB_x (xC_o (W := 75) hpre0).2)) (show aT 84 S = ab from by first | (exact hpre1)) (show cC ab [] (kC S) B from by first | (exact hpre2)) (show (1 = 2 ∧ ¬ (0 ≤ pa.toInt ∧ pa.toInt ≤ 1)) ∨ (1 = 1 ∧ (0 ≤ pa.toInt ∧ pa.toInt ≤ 1) ∧ (if i.toInt < 0 then -1 else aBk ab i.toInt.toNat (aN ab 0)) = -1) from by first | (have bp := rp0_S1; rw [hpre1] at bp; rw [← bp]; exact Or.inr ⟨rfl, ⟨by omega, by omega⟩, by omega⟩))
      · skip
        have g11 := i_ne h9
        refine zd (fun h12 => ?_) (fun h12 => ?_)
        · skip
          have g13 := i_eq h12
          exact K (v2) _ hI trivial (show xB S (mR S 70) from by first | (exact xB_x (xC_o (W := 75) hpre0).2)) (show aT 84 S = ab from by first | (exact hpre1)) (show cC ab [] (kC S) B from by first | (exact hpre2)) (show (0 ≤ pa.toInt ∧ pa.toInt ≤ 1) ∧ (if i.toInt < 0 then -1 else aBk ab i.toInt.toNat (aN ab 0)) ≠ -1 ∧ ((pa.toInt = 0 ∧ v2.toInt = (if i.toInt < 0 then -1 else aBk ab i.toInt.toNat (aN ab 0))) ∨ (pa.toInt = 1 ∧ v2.toInt = aE ab (if i.toInt < 0 then -1 else aBk ab i.toInt.toNat (aN ab 0)) - (if i.toInt < 0 then -1 else aBk ab i.toInt.toNat (aN ab 0)))) from by first | (have bp := rp0_S1; rw [hpre1] at bp; rw [← bp]; exact ⟨⟨by omega, by omega⟩, by omega, Or.inl ⟨by omega, rfl⟩⟩))
        · skip
          have g14 := i_ne h12
          refine sp_106_84_s (ab := (aT 84 S)) (v2) (by omega) (by omega) (zB_dn_zJ84 hI) (show xB S (mR S 70) from by first | (exact xB_x (xC_o (W := 75) hpre0).2)) (show aT 84 S = (aT 84 S) from by first | (exact rfl) | (exact hpre1)) (by omega) (by omega) (fun v4 S3 eS_S3 hp_v4 rp0_S3 => zi_n ⟨(by rw [eS_S3]; exact zG_T hI), ?_⟩)
          replace eS_S3 := eS_S3.symm; subst eS_S3
          have rp0_S3 : v4.toInt = aE (aT 84 S) v2.toInt := rp0_S3
          first | have e15 : (v4 - v2).toInt = v4.toInt - v2.toInt := i_sub (by omega) (by omega) | have b16 := i_bd (v4 - v2)
          exact K ((v4 - v2)) _ hI trivial (show xB S (mR S 70) from by first | (exact xB_x (xC_o (W := 75) hpre0).2)) (show aT 84 S = ab from by first | (exact hpre1)) (show cC ab [] (kC S) B from by first | (exact hpre2)) (show (0 ≤ pa.toInt ∧ pa.toInt ≤ 1) ∧ (if i.toInt < 0 then -1 else aBk ab i.toInt.toNat (aN ab 0)) ≠ -1 ∧ ((pa.toInt = 0 ∧ (v4 - v2).toInt = (if i.toInt < 0 then -1 else aBk ab i.toInt.toNat (aN ab 0))) ∨ (pa.toInt = 1 ∧ (v4 - v2).toInt = aE ab (if i.toInt < 0 then -1 else aBk ab i.toInt.toNat (aN ab 0)) - (if i.toInt < 0 then -1 else aBk ab i.toInt.toNat (aN ab 0)))) from by first | (have bp := rp0_S1; rw [hpre1] at bp; rw [← bp]; have ef := rp0_S3; rw [hpre1] at ef; exact ⟨⟨by omega, by omega⟩, by omega, Or.inr ⟨by omega, by omega⟩⟩))
    · skip
      have g17 := i_nle h6
      exact KX 2 _ (by decide) hI (show xB S (mR S 70) from by first | (exact xB_x (xC_o (W := 75) hpre0).2)) (show aT 84 S = ab from by first | (exact hpre1)) (show cC ab [] (kC S) B from by first | (exact hpre2)) (show (2 = 2 ∧ ¬ (0 ≤ pa.toInt ∧ pa.toInt ≤ 1)) ∨ (2 = 1 ∧ (0 ≤ pa.toInt ∧ pa.toInt ≤ 1) ∧ (if i.toInt < 0 then -1 else aBk ab i.toInt.toNat (aN ab 0)) = -1) from by first | (exact Or.inl ⟨rfl, by omega⟩))
theorem g_27_84_sk_0 {X : Nat × (Nat → Int32)} {d w : Nat} {S : ma_S} {Q : Option ma_V ⊕ Nat → ma_S → Prop} (a : Nat) (hd : 0 ≤ d) (hw : 0 ≤ w) (hS : zT S) (h : (126 ≤ a ∧ a < mN S) ∧ (Q (.inl (some (.inl (mI S a 6)))) S)) : ma_wp X d w 27 0 [(0, .inr (.inr (some 84))), (1, .inr (.inr (some a)))] [] S Q := by
  refine zw_push hm_27 dX2_countOf_0 (v := .inr (.inr (some a))) rfl ?_
  obtain ⟨hg, h⟩ := h
  refine zw_gf hm_27 dX2_countOf_1 (v := .inl (mI S a 6)) (zT_tis hS hg) (zT_tt hS hg) rfl f_2_21_9 rfl ?_
  exact zw_iret hm_27 dX2_countOf_4 h
theorem sp_27_84_sk {X : Nat × (Nat → Int32)} {d w : Nat} {f : Nat → Nat → Int32} {r : Nat → Nat → Option Nat} {C Z N : Nat} {Q : Option ma_V ⊕ Nat → ma_S → Prop} {S : ma_S} (a : Nat) (hd : 0 ≤ d) (hw : 0 ≤ w) (hI : zJ84 f r C Z N S) (th_a : 126 ≤ a ∧ a < N) (K : ∀ v S₉, S₉ = S → (True) → Q (.inl (some (.inl v))) S₉) : ma_wp X d w 27 0 [(0, .inr (.inr (some 84))), (1, .inr (.inr (some a)))] [] S Q := by
  refine g_27_84_sk_0 a (by omega) (by omega) (zG_T hI) ?_
  refine ⟨zG_n hI th_a, ?_⟩
  have b1 := i_bd (mI S a 6)
  exact K ((mI S a 6)) _ rfl trivial

/-! from 95.m46 -/
/-! COUNTS, the class (written by wip/tools/gen20k.py) -/
theorem g_161_64_sk_p84_0 {X : Nat × (Nat → Int32)} {d w : Nat} {S : ma_S} {Q : Option ma_V ⊕ Nat → ma_S → Prop} (o : Int32) (wh : Int32) (hd : 7 ≤ d) (hw : 111 ≤ w) (hS : zT S) (h : if wh < 0 then (Q (.inr 2) (ma_bump S)) else (if wh ≤ (7 : Int32) then (mR S 64 11 = some 84 ∧ (mR S 64 11 = some 84 ∧ (ma_wp X (d - 1) (w - 22) 149 0 [(0, .inr (.inr (some 64))), (1, .inl o)] [] S (zo (fun v2 S1 => zT S1 ∧ ((∃ c3, v2 = some c3 ∧ (if wh = (0 : Int32) then ((126 ≤ c3 ∧ c3 < mN S1) ∧ (Q (.inl (some (.inl (mI S1 c3 4)))) S1)) else (if wh = (1 : Int32) then ((126 ≤ c3 ∧ c3 < mN S1) ∧ (Q (.inl (some (.inl (mI S1 c3 2)))) S1)) else (if wh = (2 : Int32) then ((126 ≤ c3 ∧ c3 < mN S1) ∧ (Q (.inl (some (.inl (mI S1 c3 1)))) S1)) else (if wh = (3 : Int32) then ((126 ≤ c3 ∧ c3 < mN S1) ∧ (Q (.inl (some (.inl (mI S1 c3 5)))) S1)) else (if wh = (4 : Int32) then (ma_wp X (d - 1) (w - 21) 27 0 [(0, .inr (.inr (some 84))), (1, .inr (.inr (some c3)))] [] S1 (zi (fun v5 S4 => zT S4 ∧ (Q (.inl (some (.inl v5))) S4)) (fun _ _ => False))) else (if wh = (5 : Int32) then (Q (.inl (some (.inl (0 : Int32)))) S1) else (if wh = (6 : Int32) then ((126 ≤ c3 ∧ c3 < mN S1) ∧ (Q (.inl (some (.inl (mI S1 c3 7)))) S1)) else ((126 ≤ c3 ∧ c3 < mN S1) ∧ (if (mI S1 c3 8) = 0 then (Q (.inl (some (.inl (0 : Int32)))) S1) else (Q (.inl (some (.inl (1 : Int32)))) S1))))))))))))) (fun x S9 => Q (.inr x) S9))))) else (Q (.inr 2) (ma_bump S)))) : ma_wp X d w 161 0 [(0, .inr (.inr (some 64))), (1, .inl o), (2, .inl wh)] [] S Q := by
  refine zw_push hm_161 dX11_about_0 (v := .inl wh) rfl ?_
  refine zw_if0 hm_161 dX11_about_1 (t := 10) rfl zc0_lt ?_ ?_
  · intro hc
    rw [if_pos hc] at h
    exact zw_thr hm_161 dX11_about_10 dX11_about_13 dX11_about_14 dX11_about_17 x_11_79_81 n_11_79 (by omega) (by show 0 + 81 ≤ w; omega) h
  · intro hc
    rw [if_neg hc] at h
    refine zw_push hm_161 dX11_about_4 (v := .inl wh) rfl ?_
    refine zw_push hm_161 dX11_about_5 (v := .inl (7 : Int32)) rfl ?_
    refine zw_if2 hm_161 dX11_about_7 (t := 18) rfl zc2_le ?_ ?_
    · intro hc
      rw [if_pos hc] at h
      refine zw_push hm_161 dX11_about_18 (v := .inr (.inr (some 64))) rfl ?_
      refine zw_cv hm_161 dX11_about_19 v_11_119_11 hm_144 [] [] rfl (zT_rt hS s_64 rfl) ⟨by omega, by omega⟩ rfl ?_
      show ma_wp X (d - 1) (w - 20) 144 0 [(0, .inr (.inr (some 64)))] [] S _
      refine zw_push hm_144 dX11_needCollector_0 (v := .inr (.inr (some 64))) rfl ?_
      obtain ⟨hg, h⟩ := h
      refine zw_gf hm_144 dX11_needCollector_1 (v := .inr (.inr (some 84))) (zT_is hS s_64) (zT_t hS s_64) rfl f_11_98_11 (congrArg (fun z => Sum.inr (Sum.inr z)) hg) ?_
      refine zw_ifnonnull hm_144 dX11_needCollector_4 (t := 15) rfl (fun z => by cases z) (fun _ _ => ?_)
      refine zw_push hm_144 dX11_needCollector_15 (v := .inr (.inr (some 64))) rfl ?_
      obtain ⟨hg, h⟩ := h
      refine zw_gf hm_144 dX11_needCollector_16 (v := .inr (.inr (some 84))) (zT_is hS s_64) (zT_t hS s_64) rfl f_11_98_11 (congrArg (fun z => Sum.inr (Sum.inr z)) hg) ?_
      refine zw_aret hm_144 dX11_needCollector_19 ?_
      show ma_wp X d w 161 22 [(0, .inr (.inr (some 64))), (1, .inl o), (2, .inl wh)] [.inr (.inr (some 84))] S _
      refine zw_sto hm_161 dX11_about_22 [(3, .inr (.inr (some 84))), (0, .inr (.inr (some 64))), (1, .inl o), (2, .inl wh)] rfl rfl rfl ?_
      refine zw_push hm_161 dX11_about_23 (v := .inr (.inr (some 64))) rfl ?_
      refine zw_push hm_161 dX11_about_24 (v := .inl o) rfl ?_
      refine zw_cv hm_161 dX11_about_25 v_11_123_11 hm_149 [.inl o] [] rfl (zT_rt hS s_64 rfl) ⟨by omega, by omega⟩ rfl (zw_mono h (zo_go ?_ ?_))
      · intro v2 S1 hv
        obtain ⟨hS1, h⟩ := hv
        obtain ⟨c3, hc, h⟩ := h
        subst hc
        show ma_wp X d w 161 28 [(3, .inr (.inr (some 84))), (0, .inr (.inr (some 64))), (1, .inl o), (2, .inl wh)] [.inr (.inr (some c3))] S1 _
        refine zw_sto hm_161 dX11_about_28 [(4, .inr (.inr (some c3))), (3, .inr (.inr (some 84))), (0, .inr (.inr (some 64))), (1, .inl o), (2, .inl wh)] rfl rfl rfl ?_
        refine zw_push hm_161 dX11_about_30 (v := .inl wh) rfl ?_
        by_cases hc0 : wh = (0 : Int32)
        · rw [if_pos hc0] at h
          refine zw_jmp hm_161 dX11_about_31 (t := 72) (st₉ := []) rfl rfl rfl (ma_jmp_tab (by rw [hc0]; decide +kernel)) ?_
          refine zw_push hm_161 dX11_about_72 (v := .inr (.inr (some c3))) rfl ?_
          obtain ⟨hg, h⟩ := h
          refine zw_gf hm_161 dX11_about_74 (v := .inl (mI S1 c3 4)) (zT_tis hS1 hg) (zT_tt hS1 hg) rfl f_11_214_9 rfl ?_
          exact zw_iret hm_161 dX11_about_77 h
        rw [if_neg hc0] at h
        by_cases hc1 : wh = (1 : Int32)
        · rw [if_pos hc1] at h
          refine zw_jmp hm_161 dX11_about_31 (t := 78) (st₉ := []) rfl rfl rfl (ma_jmp_tab (by rw [hc1]; decide +kernel)) ?_
          refine zw_push hm_161 dX11_about_78 (v := .inr (.inr (some c3))) rfl ?_
          obtain ⟨hg, h⟩ := h
          refine zw_gf hm_161 dX11_about_80 (v := .inl (mI S1 c3 2)) (zT_tis hS1 hg) (zT_tt hS1 hg) rfl f_11_217_9 rfl ?_
          exact zw_iret hm_161 dX11_about_83 h
        rw [if_neg hc1] at h
        by_cases hc2 : wh = (2 : Int32)
        · rw [if_pos hc2] at h
          refine zw_jmp hm_161 dX11_about_31 (t := 84) (st₉ := []) rfl rfl rfl (ma_jmp_tab (by rw [hc2]; decide +kernel)) ?_
          refine zw_push hm_161 dX11_about_84 (v := .inr (.inr (some c3))) rfl ?_
          obtain ⟨hg, h⟩ := h
          refine zw_gf hm_161 dX11_about_86 (v := .inl (mI S1 c3 1)) (zT_tis hS1 hg) (zT_tt hS1 hg) rfl f_11_220_9 rfl ?_
          exact zw_iret hm_161 dX11_about_89 h
        rw [if_neg hc2] at h
        by_cases hc3 : wh = (3 : Int32)
        · rw [if_pos hc3] at h
          refine zw_jmp hm_161 dX11_about_31 (t := 90) (st₉ := []) rfl rfl rfl (ma_jmp_tab (by rw [hc3]; decide +kernel)) ?_
          refine zw_push hm_161 dX11_about_90 (v := .inr (.inr (some c3))) rfl ?_
          obtain ⟨hg, h⟩ := h
          refine zw_gf hm_161 dX11_about_92 (v := .inl (mI S1 c3 5)) (zT_tis hS1 hg) (zT_tt hS1 hg) rfl f_11_223_9 rfl ?_
          exact zw_iret hm_161 dX11_about_95 h
        rw [if_neg hc3] at h
        by_cases hc4 : wh = (4 : Int32)
        · rw [if_pos hc4] at h
          refine zw_jmp hm_161 dX11_about_31 (t := 96) (st₉ := []) rfl rfl rfl (ma_jmp_tab (by rw [hc4]; decide +kernel)) ?_
          refine zw_push hm_161 dX11_about_96 (v := .inr (.inr (some 84))) rfl ?_
          refine zw_push hm_161 dX11_about_97 (v := .inr (.inr (some c3))) rfl ?_
          refine zw_cv hm_161 dX11_about_99 v_11_226_2 hm_27 [.inr (.inr (some c3))] [] rfl (zT_rt hS1 s_84 rfl) ⟨by omega, by omega⟩ rfl (zw_mono h (zi_go ?_ ?_))
          · intro v5 S4 hv
            obtain ⟨hS4, h⟩ := hv
            exact zw_iret hm_161 dX11_about_102 h
          · intro x S9 hx
            exact hx.elim
        rw [if_neg hc4] at h
        by_cases hc5 : wh = (5 : Int32)
        · rw [if_pos hc5] at h
          refine zw_jmp hm_161 dX11_about_31 (t := 103) (st₉ := []) rfl rfl rfl (ma_jmp_tab (by rw [hc5]; decide +kernel)) ?_
          refine zw_push hm_161 dX11_about_103 (v := .inr (.inr (some 84))) rfl ?_
          refine zw_push hm_161 dX11_about_104 (v := .inr (.inr (some c3))) rfl ?_
          refine zw_cv hm_161 dX11_about_106 v_11_229_2 hm_271 [.inr (.inr (some c3))] [] rfl (zT_rt hS1 s_84 rfl) ⟨by omega, by omega⟩ rfl ?_
          show ma_wp X (d - 1) (w - 21) 271 0 [(0, .inr (.inr (some 84))), (1, .inr (.inr (some c3)))] [] S1 _
          refine zw_push hm_271 dX1_colourOf_0 (v := .inl (0 : Int32)) rfl ?_
          refine zw_iret hm_271 dX1_colourOf_1 ?_
          show ma_wp X d w 161 109 [(4, .inr (.inr (some c3))), (3, .inr (.inr (some 84))), (0, .inr (.inr (some 64))), (1, .inl o), (2, .inl wh)] [.inl (0 : Int32)] S1 _
          exact zw_iret hm_161 dX11_about_109 h
        rw [if_neg hc5] at h
        by_cases hc6 : wh = (6 : Int32)
        · rw [if_pos hc6] at h
          refine zw_jmp hm_161 dX11_about_31 (t := 110) (st₉ := []) rfl rfl rfl (ma_jmp_tab (by rw [hc6]; decide +kernel)) ?_
          refine zw_push hm_161 dX11_about_110 (v := .inr (.inr (some c3))) rfl ?_
          obtain ⟨hg, h⟩ := h
          refine zw_gf hm_161 dX11_about_112 (v := .inl (mI S1 c3 7)) (zT_tis hS1 hg) (zT_tt hS1 hg) rfl f_11_189_9 rfl ?_
          exact zw_iret hm_161 dX11_about_115 h
        rw [if_neg hc6] at h
        refine zw_jmp hm_161 dX11_about_31 (t := 116) (st₉ := []) rfl rfl rfl (ma_jmp_def (m := 7) (by decide) (fun j hj => by
            have hj2 : j = 0 ∨ j = 1 ∨ j = 2 ∨ j = 3 ∨ j = 4 ∨ j = 5 ∨ j = 6 := by omega
            rcases hj2 with rfl | rfl | rfl | rfl | rfl | rfl | rfl
            · exact hc0
            · exact hc1
            · exact hc2
            · exact hc3
            · exact hc4
            · exact hc5
            · exact hc6
            ) rfl) ?_
        refine zw_push hm_161 dX11_about_116 (v := .inr (.inr (some c3))) rfl ?_
        obtain ⟨hg, h⟩ := h
        refine zw_gf hm_161 dX11_about_118 (v := .inl (mI S1 c3 8)) (zT_tis hS1 hg) (zT_tt hS1 hg) rfl f_11_199_9 rfl ?_
        refine zw_if0 hm_161 dX11_about_121 (t := 128) rfl zc0_eq ?_ ?_
        · intro hc
          rw [if_pos hc] at h
          refine zw_push hm_161 dX11_about_128 (v := .inl (0 : Int32)) rfl ?_
          exact zw_iret hm_161 dX11_about_129 h
        · intro hc
          rw [if_neg hc] at h
          refine zw_push hm_161 dX11_about_124 (v := .inl (1 : Int32)) rfl ?_
          refine zw_goto hm_161 dX11_about_125 (t := 129) rfl ?_
          exact zw_iret hm_161 dX11_about_129 h
      · intro x S9 hx
        exact ⟨by decide, hx⟩
    · intro hc
      rw [if_neg hc] at h
      exact zw_thr hm_161 dX11_about_10 dX11_about_13 dX11_about_14 dX11_about_17 x_11_79_81 n_11_79 (by omega) (by show 0 + 81 ≤ w; omega) h
theorem sp_161_64_sk_p84 {X : Nat × (Nat → Int32)} {d w : Nat} {f : Nat → Nat → Int32} {r : Nat → Nat → Option Nat} {C Z N : Nat} {Q : Option ma_V ⊕ Nat → ma_S → Prop} {ab : Nat→Nat→Int32} {B : Int} {fq : Nat→Int32} {S : ma_S} (o : Int32) (wh : Int32) (hd : 7 ≤ d) (hw : 111 ≤ w) (hI : zB f r C Z N S) (hr : r 64 11 = some 84) (hpre0 : xB S (mR S 70)) (hpre1 : aS 88 S = ab) (hpre2 : cC ab [] (kC S) B) (hpre3 : zfP 84 (mI S) = fq) (K : ∀ v S₉, zB f r C Z N S₉ → (True) → (xB S₉ (mR S₉ 70)) → (aS 88 S₉ = ab) → (cC ab [] (kC S₉) B) → (zfP 84 (mI S₉) = fq) → Q (.inl (some (.inl v))) S₉) (KX : ∀ x S₉, (x = 2 ∨ x = 4) → zB f r C Z N S₉ → (xB S₉ (mR S₉ 70)) → (aS 88 S₉ = ab) → (cC ab [] (kC S₉) B) → (zfP 84 (mI S₉) = fq) → Q (.inr x) (ma_bump S₉)) : ma_wp X d w 161 0 [(0, .inr (.inr (some 64))), (1, .inl o), (2, .inl wh)] [] S Q := by
  refine g_161_64_sk_p84_0 o wh (by omega) (by omega) (zG_T hI) ?_
  have b1 := i_bd wh
  have li2 : (0 : Int32).toInt = 0 := rfl
  refine zd (fun h3 => ?_) (fun h3 => ?_)
  · skip
    have g4 := i_lt h3
    exact KX 2 _ (by decide) hI (show xB S (mR S 70) from by first | (exact xB_x (xC_o (W := 75) hpre0).2)) (show aS 88 S = ab from by first | (exact (xC_o (W := 88) hpre0).1.trans hpre1)) (show cC ab [] (kC S) B from by first | (rw [(xK_o (W := 88) hpre0 rfl).2]; exact hpre2) | (exact hpre2)) (show zfP 84 (mI S) = fq from by first | (exact hpre3))
  · skip
    have g5 := i_nlt h3
    have li6 : (7 : Int32).toInt = 7 := rfl
    refine zd (fun h7 => ?_) (fun h7 => ?_)
    · skip
      have g8 := i_le h7
      refine ⟨((zG_r hI (by decide)).trans hr), ?_⟩
      refine ⟨((zG_r hI (by decide)).trans hr), ?_⟩
      have b9 := i_bd o
      refine sp_149_64_sk (R := (mR S 70)) (a7 := (aS 75 S)) (a8 := (aS 88 S)) (kk := (kC S)) (o) (by omega) (by omega) (zB_dn_zI hI) (show xB S (mR S 70) from by first | (exact (xC_o (W := 75) hpre0).2)) (show aS 75 S = (aS 75 S) from by first | (exact rfl)) (show aS 88 S = (aS 88 S) from by first | (exact rfl)) (show kC S = (kC S) from by first | (exact rfl)) (fun v2 S1 hL_S1 hq_v2 rp0_S1 rp1_S1 rp2_S1 rp3_S1 rp4_S1 => zo_n ⟨zG_T hL_S1, ?_⟩) (fun x S9 hx h9 rx0 rx1 rx2 rx3 => by have h9u := (zB_up_zI hI h9); exact zo_x (KX x S9 (by omega) h9u (show xB S9 (mR S9 70) from by first | (exact xB_x (xC_o (W := 75) rx0).2)) (show aS 88 S9 = ab from by first | (exact rx1.trans hpre1)) (show cC ab [] (kC S9) B from by first | (rw [rx2]; exact hpre2)) (show zfP 84 (mI S9) = fq from by first | (exact ((zf_fr (P := 84) (fun _ => zG_z h9 rfl)).trans hpre3)))))
      have hI_S1 := zB_up_zI hI hL_S1
      have rp0_S1 : xB S1 (mR S 70) := by
        have z := rp0_S1
        (try rw [show mI S 65 = f 65 from funext (fun k => zG_z hI rfl)] at z)
        (try rw [show mI S 64 1 = f 64 1 from zG_z hI rfl] at z)
        exact z
      have rp1_S1 : aS 88 S1 = (aS 88 S) := by
        have z := rp1_S1
        (try rw [show mI S 65 = f 65 from funext (fun k => zG_z hI rfl)] at z)
        (try rw [show mI S 64 1 = f 64 1 from zG_z hI rfl] at z)
        exact z
      have rp2_S1 : v2 = zTa (mR S 70) o := by
        have z := rp2_S1
        (try rw [show mI S 65 = f 65 from funext (fun k => zG_z hI rfl)] at z)
        (try rw [show mI S 64 1 = f 64 1 from zG_z hI rfl] at z)
        exact z
      have rp3_S1 : zRq (aS 75 S) o := by
        have z := rp3_S1
        (try rw [show mI S 65 = f 65 from funext (fun k => zG_z hI rfl)] at z)
        (try rw [show mI S 64 1 = f 64 1 from zG_z hI rfl] at z)
        exact z
      have rp4_S1 : kC S1 = (kC S) := by
        have z := rp4_S1
        (try rw [show mI S 65 = f 65 from funext (fun k => zG_z hI rfl)] at z)
        (try rw [show mI S 64 1 = f 64 1 from zG_z hI rfl] at z)
        exact z
      obtain ⟨c3, hc, th_c3⟩ := hq_v2
      have rg_c3 : zTa (mR S 70) o = some c3 := rp2_S1.symm.trans hc
      refine ⟨c3, hc, ?_⟩
      refine zd (fun h10 => ?_) (fun h10 => ?_)
      · skip
        have g11 := i_eq h10
        refine ⟨zG_n hI_S1 th_c3, ?_⟩
        have f12 := zG_th hI_S1 th_c3
        exact K ((mI S1 c3 4)) _ hI_S1 trivial (show xB S1 (mR S1 70) from by first | (exact xB_x (xC_o (W := 75) rp0_S1).2)) (show aS 88 S1 = ab from by first | (exact (xC_o (W := 88) rp0_S1).1.trans (rp1_S1.trans hpre1))) (show cC ab [] (kC S1) B from by first | (rw [rp4_S1]; exact hpre2) | (exact hpre2)) (show zfP 84 (mI S1) = fq from by first | (exact ((zf_fr (P := 84) (S₉ := S1) (S := S) (fun _ => zG_z hL_S1 rfl)).trans hpre3)))
      · skip
        have g13 := i_ne h10
        have li14 : (1 : Int32).toInt = 1 := rfl
        refine zd (fun h15 => ?_) (fun h15 => ?_)
        · skip
          have g16 := i_eq h15
          refine ⟨zG_n hI_S1 th_c3, ?_⟩
          have f17 := zG_th hI_S1 th_c3
          exact K ((mI S1 c3 2)) _ hI_S1 trivial (show xB S1 (mR S1 70) from by first | (exact xB_x (xC_o (W := 75) rp0_S1).2)) (show aS 88 S1 = ab from by first | (exact (xC_o (W := 88) rp0_S1).1.trans (rp1_S1.trans hpre1))) (show cC ab [] (kC S1) B from by first | (rw [rp4_S1]; exact hpre2) | (exact hpre2)) (show zfP 84 (mI S1) = fq from by first | (exact ((zf_fr (P := 84) (S₉ := S1) (S := S) (fun _ => zG_z hL_S1 rfl)).trans hpre3)))
        · skip
          have g18 := i_ne h15
          have li19 : (2 : Int32).toInt = 2 := rfl
          refine zd (fun h20 => ?_) (fun h20 => ?_)
          · skip
            have g21 := i_eq h20
            refine ⟨zG_n hI_S1 th_c3, ?_⟩
            have b22 := i_bd (mI S1 c3 1)
            exact K ((mI S1 c3 1)) _ hI_S1 trivial (show xB S1 (mR S1 70) from by first | (exact xB_x (xC_o (W := 75) rp0_S1).2)) (show aS 88 S1 = ab from by first | (exact (xC_o (W := 88) rp0_S1).1.trans (rp1_S1.trans hpre1))) (show cC ab [] (kC S1) B from by first | (rw [rp4_S1]; exact hpre2) | (exact hpre2)) (show zfP 84 (mI S1) = fq from by first | (exact ((zf_fr (P := 84) (S₉ := S1) (S := S) (fun _ => zG_z hL_S1 rfl)).trans hpre3)))
          · skip
            have g23 := i_ne h20
            have li24 : (3 : Int32).toInt = 3 := rfl
            refine zd (fun h25 => ?_) (fun h25 => ?_)
            · skip
              have g26 := i_eq h25
              refine ⟨zG_n hI_S1 th_c3, ?_⟩
              have b27 := i_bd (mI S1 c3 5)
              exact K ((mI S1 c3 5)) _ hI_S1 trivial (show xB S1 (mR S1 70) from by first | (exact xB_x (xC_o (W := 75) rp0_S1).2)) (show aS 88 S1 = ab from by first | (exact (xC_o (W := 88) rp0_S1).1.trans (rp1_S1.trans hpre1))) (show cC ab [] (kC S1) B from by first | (rw [rp4_S1]; exact hpre2) | (exact hpre2)) (show zfP 84 (mI S1) = fq from by first | (exact ((zf_fr (P := 84) (S₉ := S1) (S := S) (fun _ => zG_z hL_S1 rfl)).trans hpre3)))
            · skip
              have g28 := i_ne h25
              have li29 : (4 : Int32).toInt = 4 := rfl
              refine zd (fun h30 => ?_) (fun h30 => ?_)
              · skip
                have g31 := i_eq h30
                refine sp_27_84_sk c3 (by omega) (by omega) (zB_dn_zJ84 hI_S1) th_c3 (fun v5 S4 eS_S4 hp_v5 => zi_n ⟨(by rw [eS_S4]; exact zG_T hI_S1), ?_⟩)
                replace eS_S4 := eS_S4.symm; subst eS_S4
                have b32 := i_bd v5
                exact K (v5) _ hI_S1 trivial (show xB S1 (mR S1 70) from by first | (exact xB_x (xC_o (W := 75) rp0_S1).2)) (show aS 88 S1 = ab from by first | (exact (xC_o (W := 88) rp0_S1).1.trans (rp1_S1.trans hpre1))) (show cC ab [] (kC S1) B from by first | (rw [rp4_S1]; exact hpre2) | (exact hpre2)) (show zfP 84 (mI S1) = fq from by first | (exact ((zf_fr (P := 84) (S₉ := S1) (S := S) (fun _ => zG_z hL_S1 rfl)).trans hpre3)))
              · skip
                have g33 := i_ne h30
                have li34 : (5 : Int32).toInt = 5 := rfl
                refine zd (fun h35 => ?_) (fun h35 => ?_)
                · skip
                  have g36 := i_eq h35
                  exact K ((0 : Int32)) _ hI_S1 trivial (show xB S1 (mR S1 70) from by first | (exact xB_x (xC_o (W := 75) rp0_S1).2)) (show aS 88 S1 = ab from by first | (exact (xC_o (W := 88) rp0_S1).1.trans (rp1_S1.trans hpre1))) (show cC ab [] (kC S1) B from by first | (rw [rp4_S1]; exact hpre2) | (exact hpre2)) (show zfP 84 (mI S1) = fq from by first | (exact ((zf_fr (P := 84) (S₉ := S1) (S := S) (fun _ => zG_z hL_S1 rfl)).trans hpre3)))
                · skip
                  have g37 := i_ne h35
                  have li38 : (6 : Int32).toInt = 6 := rfl
                  refine zd (fun h39 => ?_) (fun h39 => ?_)
                  · skip
                    have g40 := i_eq h39
                    refine ⟨zG_n hI_S1 th_c3, ?_⟩
                    have b41 := i_bd (mI S1 c3 7)
                    exact K ((mI S1 c3 7)) _ hI_S1 trivial (show xB S1 (mR S1 70) from by first | (exact xB_x (xC_o (W := 75) rp0_S1).2)) (show aS 88 S1 = ab from by first | (exact (xC_o (W := 88) rp0_S1).1.trans (rp1_S1.trans hpre1))) (show cC ab [] (kC S1) B from by first | (rw [rp4_S1]; exact hpre2) | (exact hpre2)) (show zfP 84 (mI S1) = fq from by first | (exact ((zf_fr (P := 84) (S₉ := S1) (S := S) (fun _ => zG_z hL_S1 rfl)).trans hpre3)))
                  · skip
                    have g42 := i_ne h39
                    refine ⟨zG_n hI_S1 th_c3, ?_⟩
                    have b43 := i_bd (mI S1 c3 8)
                    refine zd (fun h44 => ?_) (fun h44 => ?_)
                    · skip
                      have g45 := i_eq h44
                      exact K ((0 : Int32)) _ hI_S1 trivial (show xB S1 (mR S1 70) from by first | (exact xB_x (xC_o (W := 75) rp0_S1).2)) (show aS 88 S1 = ab from by first | (exact (xC_o (W := 88) rp0_S1).1.trans (rp1_S1.trans hpre1))) (show cC ab [] (kC S1) B from by first | (rw [rp4_S1]; exact hpre2) | (exact hpre2)) (show zfP 84 (mI S1) = fq from by first | (exact ((zf_fr (P := 84) (S₉ := S1) (S := S) (fun _ => zG_z hL_S1 rfl)).trans hpre3)))
                    · skip
                      have g46 := i_ne h44
                      exact K ((1 : Int32)) _ hI_S1 trivial (show xB S1 (mR S1 70) from by first | (exact xB_x (xC_o (W := 75) rp0_S1).2)) (show aS 88 S1 = ab from by first | (exact (xC_o (W := 88) rp0_S1).1.trans (rp1_S1.trans hpre1))) (show cC ab [] (kC S1) B from by first | (rw [rp4_S1]; exact hpre2) | (exact hpre2)) (show zfP 84 (mI S1) = fq from by first | (exact ((zf_fr (P := 84) (S₉ := S1) (S := S) (fun _ => zG_z hL_S1 rfl)).trans hpre3)))
    · skip
      have g47 := i_nle h7
      exact KX 2 _ (by decide) hI (show xB S (mR S 70) from by first | (exact xB_x (xC_o (W := 75) hpre0).2)) (show aS 88 S = ab from by first | (exact (xC_o (W := 88) hpre0).1.trans hpre1)) (show cC ab [] (kC S) B from by first | (rw [(xK_o (W := 88) hpre0 rfl).2]; exact hpre2) | (exact hpre2)) (show zfP 84 (mI S) = fq from by first | (exact hpre3))

/-! from 95.m47 -/
/-! COUNTS, the class (written by wip/tools/gen20k.py) -/
theorem g_163_64_sk_p84_0 {X : Nat × (Nat → Int32)} {d w : Nat} {S : ma_S} {Q : Option ma_V ⊕ Nat → ma_S → Prop} (wh : Int32) (hd : 7 ≤ d) (hw : 109 ≤ w) (hS : zT S) (h : if wh < 0 then (Q (.inr 2) (ma_bump S)) else (if wh ≤ (13 : Int32) then (if wh = 0 then (Q (.inl (some (.inl (mI S 64 1)))) S) else (if wh = (1 : Int32) then (Q (.inl (some (.inl (mI S 64 7)))) S) else (mR S 64 11 = some 84 ∧ (mR S 64 11 = some 84 ∧ (if wh = (2 : Int32) then (Q (.inl (some (.inl (mI S 69 7)))) S) else (if wh = (3 : Int32) then (Q (.inl (some (.inl (mI S 69 8)))) S) else (if wh = (4 : Int32) then (Q (.inl (some (.inl (mI S 69 6)))) S) else (if wh = (5 : Int32) then (Q (.inl (some (.inl (mI S 69 9)))) S) else (if wh = (6 : Int32) then (Q (.inl (some (.inl (mI S 69 10)))) S) else (if wh = (7 : Int32) then (Q (.inl (some (.inl (mI S 69 11)))) S) else (if wh = (8 : Int32) then (Q (.inl (some (.inl (mI S 69 12)))) S) else (if wh = (9 : Int32) then (Q (.inl (some (.inl (mI S 69 5)))) S) else (if wh = (10 : Int32) then (Q (.inl (some (.inl (0 : Int32)))) S) else (if wh = (11 : Int32) then (Q (.inl (some (.inl (0 : Int32)))) S) else (if wh = (12 : Int32) then (Q (.inl (some (.inl (0 : Int32)))) S) else (Q (.inl (some (.inl (0 : Int32)))) S)))))))))))))))) else (Q (.inr 2) (ma_bump S)))) : ma_wp X d w 163 0 [(0, .inr (.inr (some 64))), (1, .inl wh)] [] S Q := by
  refine zw_push hm_163 dX11_count_0 (v := .inl wh) rfl ?_
  refine zw_if0 hm_163 dX11_count_1 (t := 10) rfl zc0_lt ?_ ?_
  · intro hc
    rw [if_pos hc] at h
    exact zw_thr hm_163 dX11_count_10 dX11_count_13 dX11_count_14 dX11_count_17 x_11_79_81 n_11_79 (by omega) (by show 0 + 81 ≤ w; omega) h
  · intro hc
    rw [if_neg hc] at h
    refine zw_push hm_163 dX11_count_4 (v := .inl wh) rfl ?_
    refine zw_push hm_163 dX11_count_5 (v := .inl (13 : Int32)) rfl ?_
    refine zw_if2 hm_163 dX11_count_7 (t := 18) rfl zc2_le ?_ ?_
    · intro hc
      rw [if_pos hc] at h
      refine zw_push hm_163 dX11_count_18 (v := .inl wh) rfl ?_
      refine zw_if0 hm_163 dX11_count_19 (t := 27) rfl zc0_ne ?_ ?_
      · intro hc
        rw [if_neg hc] at h
        refine zw_push hm_163 dX11_count_27 (v := .inl wh) rfl ?_
        refine zw_push hm_163 dX11_count_28 (v := .inl (1 : Int32)) rfl ?_
        refine zw_if2 hm_163 dX11_count_29 (t := 37) rfl zc2_ne ?_ ?_
        · intro hc
          rw [if_neg hc] at h
          refine zw_push hm_163 dX11_count_37 (v := .inr (.inr (some 64))) rfl ?_
          refine zw_cv hm_163 dX11_count_38 v_11_119_11 hm_144 [] [] rfl (zT_rt hS s_64 rfl) ⟨by omega, by omega⟩ rfl ?_
          show ma_wp X (d - 1) (w - 20) 144 0 [(0, .inr (.inr (some 64)))] [] S _
          refine zw_push hm_144 dX11_needCollector_0 (v := .inr (.inr (some 64))) rfl ?_
          obtain ⟨hg, h⟩ := h
          refine zw_gf hm_144 dX11_needCollector_1 (v := .inr (.inr (some 84))) (zT_is hS s_64) (zT_t hS s_64) rfl f_11_98_11 (congrArg (fun z => Sum.inr (Sum.inr z)) hg) ?_
          refine zw_ifnonnull hm_144 dX11_needCollector_4 (t := 15) rfl (fun z => by cases z) (fun _ _ => ?_)
          refine zw_push hm_144 dX11_needCollector_15 (v := .inr (.inr (some 64))) rfl ?_
          obtain ⟨hg, h⟩ := h
          refine zw_gf hm_144 dX11_needCollector_16 (v := .inr (.inr (some 84))) (zT_is hS s_64) (zT_t hS s_64) rfl f_11_98_11 (congrArg (fun z => Sum.inr (Sum.inr z)) hg) ?_
          refine zw_aret hm_144 dX11_needCollector_19 ?_
          show ma_wp X d w 163 41 [(0, .inr (.inr (some 64))), (1, .inl wh)] [.inr (.inr (some 84))] S _
          refine zw_sto hm_163 dX11_count_41 [(2, .inr (.inr (some 84))), (0, .inr (.inr (some 64))), (1, .inl wh)] rfl rfl rfl ?_
          refine zw_push hm_163 dX11_count_42 (v := .inl wh) rfl ?_
          by_cases hc0 : wh = (2 : Int32)
          · rw [if_pos hc0] at h
            refine zw_jmp hm_163 dX11_count_43 (t := 100) (st₉ := []) rfl rfl rfl (ma_jmp_tab (by rw [hc0]; decide +kernel)) ?_
            refine zw_push hm_163 dX11_count_100 (v := .inr (.inr (some 64))) rfl ?_
            refine zw_gf hm_163 dX11_count_101 (v := .inr (.inr (some 69))) (zT_is hS s_64) (zT_t hS s_64) rfl f_11_26_11 (zT_f hS r_64_8) ?_
            refine zw_gf hm_163 dX11_count_104 (v := .inl (mI S 69 7)) (zT_is hS s_69) (zT_t hS s_69) rfl f_11_238_7 rfl ?_
            exact zw_iret hm_163 dX11_count_107 h
          rw [if_neg hc0] at h
          by_cases hc1 : wh = (3 : Int32)
          · rw [if_pos hc1] at h
            refine zw_jmp hm_163 dX11_count_43 (t := 108) (st₉ := []) rfl rfl rfl (ma_jmp_tab (by rw [hc1]; decide +kernel)) ?_
            refine zw_push hm_163 dX11_count_108 (v := .inr (.inr (some 64))) rfl ?_
            refine zw_gf hm_163 dX11_count_109 (v := .inr (.inr (some 69))) (zT_is hS s_64) (zT_t hS s_64) rfl f_11_26_11 (zT_f hS r_64_8) ?_
            refine zw_gf hm_163 dX11_count_112 (v := .inl (mI S 69 8)) (zT_is hS s_69) (zT_t hS s_69) rfl f_11_241_7 rfl ?_
            exact zw_iret hm_163 dX11_count_115 h
          rw [if_neg hc1] at h
          by_cases hc2 : wh = (4 : Int32)
          · rw [if_pos hc2] at h
            refine zw_jmp hm_163 dX11_count_43 (t := 116) (st₉ := []) rfl rfl rfl (ma_jmp_tab (by rw [hc2]; decide +kernel)) ?_
            refine zw_push hm_163 dX11_count_116 (v := .inr (.inr (some 64))) rfl ?_
            refine zw_gf hm_163 dX11_count_117 (v := .inr (.inr (some 69))) (zT_is hS s_64) (zT_t hS s_64) rfl f_11_26_11 (zT_f hS r_64_8) ?_
            refine zw_gf hm_163 dX11_count_120 (v := .inl (mI S 69 6)) (zT_is hS s_69) (zT_t hS s_69) rfl f_11_244_7 rfl ?_
            exact zw_iret hm_163 dX11_count_123 h
          rw [if_neg hc2] at h
          by_cases hc3 : wh = (5 : Int32)
          · rw [if_pos hc3] at h
            refine zw_jmp hm_163 dX11_count_43 (t := 124) (st₉ := []) rfl rfl rfl (ma_jmp_tab (by rw [hc3]; decide +kernel)) ?_
            refine zw_push hm_163 dX11_count_124 (v := .inr (.inr (some 64))) rfl ?_
            refine zw_gf hm_163 dX11_count_125 (v := .inr (.inr (some 69))) (zT_is hS s_64) (zT_t hS s_64) rfl f_11_26_11 (zT_f hS r_64_8) ?_
            refine zw_gf hm_163 dX11_count_128 (v := .inl (mI S 69 9)) (zT_is hS s_69) (zT_t hS s_69) rfl f_11_247_7 rfl ?_
            exact zw_iret hm_163 dX11_count_131 h
          rw [if_neg hc3] at h
          by_cases hc4 : wh = (6 : Int32)
          · rw [if_pos hc4] at h
            refine zw_jmp hm_163 dX11_count_43 (t := 132) (st₉ := []) rfl rfl rfl (ma_jmp_tab (by rw [hc4]; decide +kernel)) ?_
            refine zw_push hm_163 dX11_count_132 (v := .inr (.inr (some 64))) rfl ?_
            refine zw_gf hm_163 dX11_count_133 (v := .inr (.inr (some 69))) (zT_is hS s_64) (zT_t hS s_64) rfl f_11_26_11 (zT_f hS r_64_8) ?_
            refine zw_gf hm_163 dX11_count_136 (v := .inl (mI S 69 10)) (zT_is hS s_69) (zT_t hS s_69) rfl f_11_250_7 rfl ?_
            exact zw_iret hm_163 dX11_count_139 h
          rw [if_neg hc4] at h
          by_cases hc5 : wh = (7 : Int32)
          · rw [if_pos hc5] at h
            refine zw_jmp hm_163 dX11_count_43 (t := 140) (st₉ := []) rfl rfl rfl (ma_jmp_tab (by rw [hc5]; decide +kernel)) ?_
            refine zw_push hm_163 dX11_count_140 (v := .inr (.inr (some 64))) rfl ?_
            refine zw_gf hm_163 dX11_count_141 (v := .inr (.inr (some 69))) (zT_is hS s_64) (zT_t hS s_64) rfl f_11_26_11 (zT_f hS r_64_8) ?_
            refine zw_gf hm_163 dX11_count_144 (v := .inl (mI S 69 11)) (zT_is hS s_69) (zT_t hS s_69) rfl f_11_253_7 rfl ?_
            exact zw_iret hm_163 dX11_count_147 h
          rw [if_neg hc5] at h
          by_cases hc6 : wh = (8 : Int32)
          · rw [if_pos hc6] at h
            refine zw_jmp hm_163 dX11_count_43 (t := 148) (st₉ := []) rfl rfl rfl (ma_jmp_tab (by rw [hc6]; decide +kernel)) ?_
            refine zw_push hm_163 dX11_count_148 (v := .inr (.inr (some 64))) rfl ?_
            refine zw_gf hm_163 dX11_count_149 (v := .inr (.inr (some 69))) (zT_is hS s_64) (zT_t hS s_64) rfl f_11_26_11 (zT_f hS r_64_8) ?_
            refine zw_gf hm_163 dX11_count_152 (v := .inl (mI S 69 12)) (zT_is hS s_69) (zT_t hS s_69) rfl f_11_256_7 rfl ?_
            exact zw_iret hm_163 dX11_count_155 h
          rw [if_neg hc6] at h
          by_cases hc7 : wh = (9 : Int32)
          · rw [if_pos hc7] at h
            refine zw_jmp hm_163 dX11_count_43 (t := 156) (st₉ := []) rfl rfl rfl (ma_jmp_tab (by rw [hc7]; decide +kernel)) ?_
            refine zw_push hm_163 dX11_count_156 (v := .inr (.inr (some 64))) rfl ?_
            refine zw_gf hm_163 dX11_count_157 (v := .inr (.inr (some 69))) (zT_is hS s_64) (zT_t hS s_64) rfl f_11_26_11 (zT_f hS r_64_8) ?_
            refine zw_gf hm_163 dX11_count_160 (v := .inl (mI S 69 5)) (zT_is hS s_69) (zT_t hS s_69) rfl f_11_259_7 rfl ?_
            exact zw_iret hm_163 dX11_count_163 h
          rw [if_neg hc7] at h
          by_cases hc8 : wh = (10 : Int32)
          · rw [if_pos hc8] at h
            refine zw_jmp hm_163 dX11_count_43 (t := 164) (st₉ := []) rfl rfl rfl (ma_jmp_tab (by rw [hc8]; decide +kernel)) ?_
            refine zw_push hm_163 dX11_count_164 (v := .inr (.inr (some 84))) rfl ?_
            refine zw_cv hm_163 dX11_count_165 v_11_262_2 hm_272 [] [] rfl (zT_rt hS s_84 rfl) ⟨by omega, by omega⟩ rfl ?_
            show ma_wp X (d - 1) (w - 20) 272 0 [(0, .inr (.inr (some 84)))] [] S _
            refine zw_push hm_272 dX1_specials_0 (v := .inl (0 : Int32)) rfl ?_
            refine zw_iret hm_272 dX1_specials_1 ?_
            show ma_wp X d w 163 168 [(2, .inr (.inr (some 84))), (0, .inr (.inr (some 64))), (1, .inl wh)] [.inl (0 : Int32)] S _
            exact zw_iret hm_163 dX11_count_168 h
          rw [if_neg hc8] at h
          by_cases hc9 : wh = (11 : Int32)
          · rw [if_pos hc9] at h
            refine zw_jmp hm_163 dX11_count_43 (t := 169) (st₉ := []) rfl rfl rfl (ma_jmp_tab (by rw [hc9]; decide +kernel)) ?_
            refine zw_push hm_163 dX11_count_169 (v := .inr (.inr (some 84))) rfl ?_
            refine zw_cv hm_163 dX11_count_170 v_11_265_2 hm_273 [] [] rfl (zT_rt hS s_84 rfl) ⟨by omega, by omega⟩ rfl ?_
            show ma_wp X (d - 1) (w - 20) 273 0 [(0, .inr (.inr (some 84)))] [] S _
            refine zw_push hm_273 dX1_topPlace_0 (v := .inl (0 : Int32)) rfl ?_
            refine zw_iret hm_273 dX1_topPlace_1 ?_
            show ma_wp X d w 163 173 [(2, .inr (.inr (some 84))), (0, .inr (.inr (some 64))), (1, .inl wh)] [.inl (0 : Int32)] S _
            exact zw_iret hm_163 dX11_count_173 h
          rw [if_neg hc9] at h
          by_cases hc10 : wh = (12 : Int32)
          · rw [if_pos hc10] at h
            refine zw_jmp hm_163 dX11_count_43 (t := 174) (st₉ := []) rfl rfl rfl (ma_jmp_tab (by rw [hc10]; decide +kernel)) ?_
            refine zw_push hm_163 dX11_count_174 (v := .inr (.inr (some 84))) rfl ?_
            refine zw_cv hm_163 dX11_count_175 v_11_268_2 hm_274 [] [] rfl (zT_rt hS s_84 rfl) ⟨by omega, by omega⟩ rfl ?_
            show ma_wp X (d - 1) (w - 20) 274 0 [(0, .inr (.inr (some 84)))] [] S _
            refine zw_push hm_274 dX1_isMarking_0 (v := .inl (0 : Int32)) rfl ?_
            refine zw_bret hm_274 dX1_isMarking_1 (by decide) ?_
            show ma_wp X d w 163 178 [(2, .inr (.inr (some 84))), (0, .inr (.inr (some 64))), (1, .inl wh)] [.inl (0 : Int32)] S _
            refine zw_if0 hm_163 dX11_count_178 (t := 185) rfl zc0_eq (fun _ => ?_) (fun hc => absurd (by decide) hc)
            refine zw_push hm_163 dX11_count_185 (v := .inl (0 : Int32)) rfl ?_
            exact zw_iret hm_163 dX11_count_186 h
          rw [if_neg hc10] at h
          refine zw_jmp hm_163 dX11_count_43 (t := 187) (st₉ := []) rfl rfl rfl (ma_jmp_def (m := 11) (by decide) (fun j hj => by
              have hj2 : j = 0 ∨ j = 1 ∨ j = 2 ∨ j = 3 ∨ j = 4 ∨ j = 5 ∨ j = 6 ∨ j = 7 ∨ j = 8 ∨ j = 9 ∨ j = 10 := by omega
              rcases hj2 with rfl | rfl | rfl | rfl | rfl | rfl | rfl | rfl | rfl | rfl | rfl
              · exact hc0
              · exact hc1
              · exact hc2
              · exact hc3
              · exact hc4
              · exact hc5
              · exact hc6
              · exact hc7
              · exact hc8
              · exact hc9
              · exact hc10
              ) rfl) ?_
          refine zw_push hm_163 dX11_count_187 (v := .inr (.inr (some 84))) rfl ?_
          refine zw_cv hm_163 dX11_count_188 v_11_272_2 hm_275 [] [] rfl (zT_rt hS s_84 rfl) ⟨by omega, by omega⟩ rfl ?_
          show ma_wp X (d - 1) (w - 20) 275 0 [(0, .inr (.inr (some 84)))] [] S _
          refine zw_push hm_275 dX1_oldTopOrRegion_0 (v := .inl (0 : Int32)) rfl ?_
          refine zw_iret hm_275 dX1_oldTopOrRegion_1 ?_
          show ma_wp X d w 163 191 [(2, .inr (.inr (some 84))), (0, .inr (.inr (some 64))), (1, .inl wh)] [.inl (0 : Int32)] S _
          exact zw_iret hm_163 dX11_count_191 h
        · intro hc
          rw [if_pos (Classical.not_not.mp hc)] at h
          refine zw_push hm_163 dX11_count_32 (v := .inr (.inr (some 64))) rfl ?_
          refine zw_gf hm_163 dX11_count_33 (v := .inl (mI S 64 7)) (zT_is hS s_64) (zT_t hS s_64) rfl f_11_82_11 rfl ?_
          exact zw_iret hm_163 dX11_count_36 h
      · intro hc
        rw [if_pos (Classical.not_not.mp hc)] at h
        refine zw_push hm_163 dX11_count_22 (v := .inr (.inr (some 64))) rfl ?_
        refine zw_gf hm_163 dX11_count_23 (v := .inl (mI S 64 1)) (zT_is hS s_64) (zT_t hS s_64) rfl f_11_68_11 rfl ?_
        exact zw_iret hm_163 dX11_count_26 h
    · intro hc
      rw [if_neg hc] at h
      exact zw_thr hm_163 dX11_count_10 dX11_count_13 dX11_count_14 dX11_count_17 x_11_79_81 n_11_79 (by omega) (by show 0 + 81 ≤ w; omega) h
theorem sp_163_64_sk_p84 {X : Nat × (Nat → Int32)} {d w : Nat} {f : Nat → Nat → Int32} {r : Nat → Nat → Option Nat} {C Z N : Nat} {Q : Option ma_V ⊕ Nat → ma_S → Prop} {ab : Nat→Nat→Int32} {B : Int} {fq : Nat→Int32} {S : ma_S} (wh : Int32) (hd : 7 ≤ d) (hw : 109 ≤ w) (hI : zB f r C Z N S) (hr : r 64 11 = some 84) (hpre0 : xB S (mR S 70)) (hpre1 : aS 88 S = ab) (hpre2 : cC ab [] (kC S) B) (hpre3 : zfP 84 (mI S) = fq) (K : ∀ v S₉, zB f r C Z N S₉ → (True) → (xB S₉ (mR S₉ 70)) → (aS 88 S₉ = ab) → (cC ab [] (kC S₉) B) → (zfP 84 (mI S₉) = fq) → Q (.inl (some (.inl v))) S₉) (KX : ∀ x S₉, (x = 2) → zB f r C Z N S₉ → (xB S₉ (mR S₉ 70)) → (aS 88 S₉ = ab) → (cC ab [] (kC S₉) B) → (zfP 84 (mI S₉) = fq) → Q (.inr x) (ma_bump S₉)) : ma_wp X d w 163 0 [(0, .inr (.inr (some 64))), (1, .inl wh)] [] S Q := by
  refine g_163_64_sk_p84_0 wh (by omega) (by omega) (zG_T hI) ?_
  have b1 := i_bd wh
  have li2 : (0 : Int32).toInt = 0 := rfl
  refine zd (fun h3 => ?_) (fun h3 => ?_)
  · skip
    have g4 := i_lt h3
    exact KX 2 _ (by decide) hI (show xB S (mR S 70) from by first | (exact xB_x (xC_o (W := 75) hpre0).2)) (show aS 88 S = ab from by first | (exact (xC_o (W := 88) hpre0).1.trans hpre1)) (show cC ab [] (kC S) B from by first | (rw [(xK_o (W := 88) hpre0 rfl).2]; exact hpre2) | (exact hpre2)) (show zfP 84 (mI S) = fq from by first | (exact hpre3))
  · skip
    have g5 := i_nlt h3
    have li6 : (13 : Int32).toInt = 13 := rfl
    refine zd (fun h7 => ?_) (fun h7 => ?_)
    · skip
      have g8 := i_le h7
      refine zd (fun h9 => ?_) (fun h9 => ?_)
      · skip
        have g10 := i_eq h9
        have f11 := zG_s hI (0) (100) (c := 64) (k := 1) (by decide)
        exact K ((mI S 64 1)) _ hI trivial (show xB S (mR S 70) from by first | (exact xB_x (xC_o (W := 75) hpre0).2)) (show aS 88 S = ab from by first | (exact (xC_o (W := 88) hpre0).1.trans hpre1)) (show cC ab [] (kC S) B from by first | (exact hpre2)) (show zfP 84 (mI S) = fq from by first | (exact hpre3))
      · skip
        have g12 := i_ne h9
        have li13 : (1 : Int32).toInt = 1 := rfl
        refine zd (fun h14 => ?_) (fun h14 => ?_)
        · skip
          have g15 := i_eq h14
          have f16 := zG_s hI (0) (16) (c := 64) (k := 7) (by decide)
          exact K ((mI S 64 7)) _ hI trivial (show xB S (mR S 70) from by first | (exact xB_x (xC_o (W := 75) hpre0).2)) (show aS 88 S = ab from by first | (exact (xC_o (W := 88) hpre0).1.trans hpre1)) (show cC ab [] (kC S) B from by first | (exact hpre2)) (show zfP 84 (mI S) = fq from by first | (exact hpre3))
        · skip
          have g17 := i_ne h14
          refine ⟨((zG_r hI (by decide)).trans hr), ?_⟩
          refine ⟨((zG_r hI (by decide)).trans hr), ?_⟩
          have li18 : (2 : Int32).toInt = 2 := rfl
          refine zd (fun h19 => ?_) (fun h19 => ?_)
          · skip
            have g20 := i_eq h19
            have b21 := i_bd (mI S 69 7)
            exact K ((mI S 69 7)) _ hI trivial (show xB S (mR S 70) from by first | (exact xB_x (xC_o (W := 75) hpre0).2)) (show aS 88 S = ab from by first | (exact (xC_o (W := 88) hpre0).1.trans hpre1)) (show cC ab [] (kC S) B from by first | (exact hpre2)) (show zfP 84 (mI S) = fq from by first | (exact hpre3))
          · skip
            have g22 := i_ne h19
            have li23 : (3 : Int32).toInt = 3 := rfl
            refine zd (fun h24 => ?_) (fun h24 => ?_)
            · skip
              have g25 := i_eq h24
              have b26 := i_bd (mI S 69 8)
              exact K ((mI S 69 8)) _ hI trivial (show xB S (mR S 70) from by first | (exact xB_x (xC_o (W := 75) hpre0).2)) (show aS 88 S = ab from by first | (exact (xC_o (W := 88) hpre0).1.trans hpre1)) (show cC ab [] (kC S) B from by first | (exact hpre2)) (show zfP 84 (mI S) = fq from by first | (exact hpre3))
            · skip
              have g27 := i_ne h24
              have li28 : (4 : Int32).toInt = 4 := rfl
              refine zd (fun h29 => ?_) (fun h29 => ?_)
              · skip
                have g30 := i_eq h29
                have f31 := zG_s hI (0) (512) (c := 69) (k := 6) (by decide)
                exact K ((mI S 69 6)) _ hI trivial (show xB S (mR S 70) from by first | (exact xB_x (xC_o (W := 75) hpre0).2)) (show aS 88 S = ab from by first | (exact (xC_o (W := 88) hpre0).1.trans hpre1)) (show cC ab [] (kC S) B from by first | (exact hpre2)) (show zfP 84 (mI S) = fq from by first | (exact hpre3))
              · skip
                have g32 := i_ne h29
                have li33 : (5 : Int32).toInt = 5 := rfl
                refine zd (fun h34 => ?_) (fun h34 => ?_)
                · skip
                  have g35 := i_eq h34
                  have b36 := i_bd (mI S 69 9)
                  exact K ((mI S 69 9)) _ hI trivial (show xB S (mR S 70) from by first | (exact xB_x (xC_o (W := 75) hpre0).2)) (show aS 88 S = ab from by first | (exact (xC_o (W := 88) hpre0).1.trans hpre1)) (show cC ab [] (kC S) B from by first | (exact hpre2)) (show zfP 84 (mI S) = fq from by first | (exact hpre3))
                · skip
                  have g37 := i_ne h34
                  have li38 : (6 : Int32).toInt = 6 := rfl
                  refine zd (fun h39 => ?_) (fun h39 => ?_)
                  · skip
                    have g40 := i_eq h39
                    have b41 := i_bd (mI S 69 10)
                    exact K ((mI S 69 10)) _ hI trivial (show xB S (mR S 70) from by first | (exact xB_x (xC_o (W := 75) hpre0).2)) (show aS 88 S = ab from by first | (exact (xC_o (W := 88) hpre0).1.trans hpre1)) (show cC ab [] (kC S) B from by first | (exact hpre2)) (show zfP 84 (mI S) = fq from by first | (exact hpre3))
                  · skip
                    have g42 := i_ne h39
                    have li43 : (7 : Int32).toInt = 7 := rfl
                    refine zd (fun h44 => ?_) (fun h44 => ?_)
                    · skip
                      have g45 := i_eq h44
                      have b46 := i_bd (mI S 69 11)
                      exact K ((mI S 69 11)) _ hI trivial (show xB S (mR S 70) from by first | (exact xB_x (xC_o (W := 75) hpre0).2)) (show aS 88 S = ab from by first | (exact (xC_o (W := 88) hpre0).1.trans hpre1)) (show cC ab [] (kC S) B from by first | (exact hpre2)) (show zfP 84 (mI S) = fq from by first | (exact hpre3))
                    · skip
                      have g47 := i_ne h44
                      have li48 : (8 : Int32).toInt = 8 := rfl
                      refine zd (fun h49 => ?_) (fun h49 => ?_)
                      · skip
                        have g50 := i_eq h49
                        have b51 := i_bd (mI S 69 12)
                        exact K ((mI S 69 12)) _ hI trivial (show xB S (mR S 70) from by first | (exact xB_x (xC_o (W := 75) hpre0).2)) (show aS 88 S = ab from by first | (exact (xC_o (W := 88) hpre0).1.trans hpre1)) (show cC ab [] (kC S) B from by first | (exact hpre2)) (show zfP 84 (mI S) = fq from by first | (exact hpre3))
                      · skip
                        have g52 := i_ne h49
                        have li53 : (9 : Int32).toInt = 9 := rfl
                        refine zd (fun h54 => ?_) (fun h54 => ?_)
                        · skip
                          have g55 := i_eq h54
                          have f56 := zG_s hI (0) (512) (c := 69) (k := 5) (by decide)
                          exact K ((mI S 69 5)) _ hI trivial (show xB S (mR S 70) from by first | (exact xB_x (xC_o (W := 75) hpre0).2)) (show aS 88 S = ab from by first | (exact (xC_o (W := 88) hpre0).1.trans hpre1)) (show cC ab [] (kC S) B from by first | (exact hpre2)) (show zfP 84 (mI S) = fq from by first | (exact hpre3))
                        · skip
                          have g57 := i_ne h54
                          have li58 : (10 : Int32).toInt = 10 := rfl
                          refine zd (fun h59 => ?_) (fun h59 => ?_)
                          · skip
                            have g60 := i_eq h59
                            exact K ((0 : Int32)) _ hI trivial (show xB S (mR S 70) from by first | (exact xB_x (xC_o (W := 75) hpre0).2)) (show aS 88 S = ab from by first | (exact (xC_o (W := 88) hpre0).1.trans hpre1)) (show cC ab [] (kC S) B from by first | (exact hpre2)) (show zfP 84 (mI S) = fq from by first | (exact hpre3))
                          · skip
                            have g61 := i_ne h59
                            have li62 : (11 : Int32).toInt = 11 := rfl
                            refine zd (fun h63 => ?_) (fun h63 => ?_)
                            · skip
                              have g64 := i_eq h63
                              exact K ((0 : Int32)) _ hI trivial (show xB S (mR S 70) from by first | (exact xB_x (xC_o (W := 75) hpre0).2)) (show aS 88 S = ab from by first | (exact (xC_o (W := 88) hpre0).1.trans hpre1)) (show cC ab [] (kC S) B from by first | (exact hpre2)) (show zfP 84 (mI S) = fq from by first | (exact hpre3))
                            · skip
                              have g65 := i_ne h63
                              have li66 : (12 : Int32).toInt = 12 := rfl
                              refine zd (fun h67 => ?_) (fun h67 => ?_)
                              · skip
                                have g68 := i_eq h67
                                exact K ((0 : Int32)) _ hI trivial (show xB S (mR S 70) from by first | (exact xB_x (xC_o (W := 75) hpre0).2)) (show aS 88 S = ab from by first | (exact (xC_o (W := 88) hpre0).1.trans hpre1)) (show cC ab [] (kC S) B from by first | (exact hpre2)) (show zfP 84 (mI S) = fq from by first | (exact hpre3))
                              · skip
                                have g69 := i_ne h67
                                exact K ((0 : Int32)) _ hI trivial (show xB S (mR S 70) from by first | (exact xB_x (xC_o (W := 75) hpre0).2)) (show aS 88 S = ab from by first | (exact (xC_o (W := 88) hpre0).1.trans hpre1)) (show cC ab [] (kC S) B from by first | (exact hpre2)) (show zfP 84 (mI S) = fq from by first | (exact hpre3))
    · skip
      have g70 := i_nle h7
      exact KX 2 _ (by decide) hI (show xB S (mR S 70) from by first | (exact xB_x (xC_o (W := 75) hpre0).2)) (show aS 88 S = ab from by first | (exact (xC_o (W := 88) hpre0).1.trans hpre1)) (show cC ab [] (kC S) B from by first | (rw [(xK_o (W := 88) hpre0 rfl).2]; exact hpre2) | (exact hpre2)) (show zfP 84 (mI S) = fq from by first | (exact hpre3))

/-! from 95.m48 -/
/-! COUNTS, the class (written by wip/tools/gen20k.py) -/
/-! COUNTS: those that go come to an end; alike but for walk and collector -/
section C9A
variable {a b d : Nat → Nat → Int32} {x y r i : Int32} {n m k c j : Nat} {st t : List (List Int32)} {l : List Int32} {K K₉ : Nat → Int32} {B : Int}
theorem V_st : ∀ (st : List (List Int32)) (a : Nat → Nat → Int32), cV a st B → cV (cSt (a, st)).1 (cSt (a, st)).2 B := by
  intro st a h
  match st, h with
  | [], h => exact h
  | [] :: t, h =>
    obtain ⟨v1, v2, v3, v4, v5, v6⟩ := h
    refine ⟨v1, v2, fun l hl => v3 l (List.mem_cons_of_mem _ hl), v4, v5, ?_⟩
    have e : cLm ([] :: t) = 0 + 1 + cLm t := rfl
    show cLm t + cMs a ≤ 40000
    omega
  | (r :: l) :: t, h =>
    by_cases w : r.toInt < 0
    · rw [cSt_n w]
      exact V_tl h
    · have ok := h.2.2.1 (r :: l) List.mem_cons_self r List.mem_cons_self
      have al : xAl a r.toNatClampNeg := ok.elim (fun z => absurd z w) id
      rw [cSt_y (by omega)]
      exact (V_fa (V_tl h) (by omega) al).1
theorem E_ex : ∀ (m : Nat) (x : (Nat → Nat → Int32) × List (List Int32)), cMu x ≤ m → cV x.1 x.2 B → ∃ b, cE x b := by
  intro m
  induction m with
  | zero =>
    intro x hm hV
    by_cases h : x.2 = []
    · refine ⟨x.1, ?_⟩
      have e : x = (x.1, []) := by rw [← h]
      rw [e]
      exact cE_o
    · have q := Mu_st hV h
      omega
  | succ m ih =>
    intro x hm hV
    by_cases h : x.2 = []
    · refine ⟨x.1, ?_⟩
      have e : x = (x.1, []) := by rw [← h]
      rw [e]
      exact cE_o
    · have q := Mu_st hV h
      obtain ⟨b, hb⟩ := ih (cSt x) (by omega) (V_st x.2 x.1 hV)
      exact ⟨b, cE_s hb⟩
theorem O8_gr (o : zO8 a b) : zO8 (aGr a y) (aGr b y) := fun c k h1 h2 h3 h4 => by
  have e5 := o 69 5 (by decide) (by decide) (by decide) (by decide)
  have e73 := o 73 k (by decide) (by decide) (by decide) (by decide)
  have ec := o c k h1 h2 h3 h4
  rw [gr_at, gr_at (a := b), e5, ec]
  unfold zUw
  rw [e73]
theorem O8_rm (o : zO8 a b) : zO8 (aRm a y) (aRm b y) := fun c k h1 h2 h3 h4 => by
  have ec := o c k h1 h2 h3 h4
  have e128 := o 128 y.toNatClampNeg (by decide) (by decide) (by decide) (by decide)
  have e130 := o 130 y.toNatClampNeg (by decide) (by decide) (by decide) (by decide)
  by_cases h : 126 ≤ c
  · rw [rm_hi h, rm_hi h]
    unfold zNo
    rw [ec]
  · by_cases h71 : c = 71
    · rw [h71] at ec ⊢
      rw [rm_71, rm_71, e128, e130]
      unfold zFr
      rw [ec]
    · by_cases h73 : c = 73
      · rw [h73] at ec ⊢
        rw [rm_73, rm_73]
        unfold zUw
        rw [ec]
      · by_cases h69 : c = 69
        · rw [h69] at ec ⊢
          by_cases k8 : k = 8
          · rw [k8] at ec ⊢
            rw [rm_8, rm_8, ec, e128]
          · by_cases k11 : k = 11
            · rw [k11] at ec ⊢
              rw [rm_11, rm_11, ec, e128]
            · have q : ∀ (e : Nat → Nat → Int32) (z : Int32), aRm e z 69 k = e 69 k := fun e z => aRm_o (by decide) ⟨by decide, by decide, fun w => k8 w.2, fun w => k11 w.2⟩
              rw [q, q, ec]
        · rw [rm_co (by omega) h71 h73 h69, rm_co (by omega) h71 h73 h69, ec]
theorem Ls_o8 (o : zO8 a b) : cLs b m k = cLs a m k := by
  have o2 := O8_sy o
  exact cLs_cg (o2 128 m (by decide) (by decide) (by decide) (by decide)) (fun j _ _ => rf_cg (o8_r o2 (by omega) (by omega) (by omega) (by omega)) (o8_r o2 (by decide) (by decide) (by decide) (by decide)) (o8_r o2 (by decide) (by decide) (by decide) (by decide)))
theorem Fa_o8 (o : zO8 a b) : zO8 (cFa a st r).1 (cFa b st r).1 ∧ (cFa b st r).2 = (cFa a st r).2 := by
  have e1 : cRf a r.toNatClampNeg = cRf b r.toNatClampNeg := Rf_o8 o
  have e2 := o 134 r.toNatClampNeg (by decide) (by decide) (by decide) (by decide)
  by_cases h : 0 < cRf a r.toNatClampNeg + (cOc st r.toNatClampNeg : Int)
  · rw [Fa_p h, Fa_p (by rw [← e1]; exact h)]
    exact ⟨o, rfl⟩
  · by_cases w : a 134 r.toNatClampNeg = 0
    · rw [Fa_r h w, Fa_r (by rw [← e1]; exact h) (by rw [← e2]; exact w)]
      exact ⟨O8_rm o, congrArg (fun q => q :: st) (Ls_o8 o)⟩
    · rw [Fa_g h w, Fa_g (by rw [← e1]; exact h) (by rw [← e2]; exact w)]
      exact ⟨O8_gr o, rfl⟩
theorem St_o8 : ∀ (st : List (List Int32)), zO8 a b → zO8 (cSt (a, st)).1 (cSt (b, st)).1 ∧ (cSt (b, st)).2 = (cSt (a, st)).2 := by
  intro st o
  match st with
  | [] => exact ⟨o, rfl⟩
  | [] :: t => exact ⟨o, rfl⟩
  | (r :: l) :: t =>
    by_cases w : r.toInt < 0
    · rw [cSt_n w, cSt_n w]
      exact ⟨o, rfl⟩
    · rw [cSt_y (by omega), cSt_y (by omega)]
      exact Fa_o8 o
theorem It_o8 : ∀ (n : Nat) (a b : Nat → Nat → Int32) (st : List (List Int32)) (d : Nat → Nat → Int32), zO8 a b → cIt n (a, st) = (d, []) → ∃ d₉, cIt n (b, st) = (d₉, []) ∧ zO8 d d₉ := by
  intro n
  induction n with
  | zero =>
    intro a b st d o h
    have h₉ : (a, st) = (d, []) := h
    have e1 : a = d := congrArg Prod.fst h₉
    have e2 : st = [] := congrArg Prod.snd h₉
    refine ⟨b, ?_, by rw [← e1]; exact o⟩
    show (b, st) = (b, [])
    rw [e2]
  | succ n ih =>
    intro a b st d o h
    have s := St_o8 st o
    have h₉ : cIt n ((cSt (a, st)).1, (cSt (a, st)).2) = (d, []) := h
    obtain ⟨d₉, q1, q2⟩ := ih (cSt (a, st)).1 (cSt (b, st)).1 (cSt (a, st)).2 d s.1 h₉
    refine ⟨d₉, ?_, q2⟩
    show cIt n ((cSt (b, st)).1, (cSt (b, st)).2) = (d₉, [])
    rw [s.2]
    exact q1
theorem Le_o8 (o : zO8 a b) (hV : cV a [] B) : zO8 (cLe a y) (cLe b y) := by
  by_cases h : 0 ≤ y.toInt ∧ xAl a y.toNatClampNeg
  · have hb : xAl b y.toNatClampNeg := by rw [← o8_al o]; exact h.2
    obtain ⟨d, n, hn⟩ := E_ex _ (cFa a [] y) (Nat.le_refl _) (V_fa hV h.1 h.2).1
    have f := Fa_o8 (st := []) (r := y) o
    obtain ⟨d₉, hd₉, od⟩ := It_o8 n (cFa a [] y).1 (cFa b [] y).1 (cFa a [] y).2 d f.1 hn
    have hb2 : cE (cFa b [] y) d₉ := ⟨n, by
      have e : cIt n ((cFa b [] y).1, (cFa b [] y).2) = (d₉, []) := by
        rw [f.2]
        exact hd₉
      exact e⟩
    rw [cLe_y h.1 h.2 ⟨n, hn⟩, cLe_y h.1 hb hb2]
    exact od
  · rw [cLe_n h, cLe_n (fun w => h ⟨w.1, by rw [o8_al o]; exact w.2⟩)]
    exact o
/-- rows that are no matter of those that go -/
def cXr (c : Nat) : Prop := c = 75 ∨ c = 76 ∨ c = 77 ∨ c = 87
theorem Fa_x (hc : cXr c) : (cFa a st r).1 c k = a c k := by
  unfold cXr at hc
  unfold cFa
  split
  · rfl
  · split
    · show aRm a r c k = a c k
      exact rm_co (by omega) (by omega) (by omega) (by omega)
    · show aGr a r c k = a c k
      rw [gr_at, if_neg (by omega), if_neg (by omega), if_neg (by omega), if_neg (by omega)]
theorem Sx_x (hc : cXr c) : ∀ (st : List (List Int32)), (cSt (a, st)).1 c k = a c k := by
  intro st
  match st with
  | [] => rfl
  | [] :: t => rfl
  | (r :: l) :: t =>
    by_cases w : r.toInt < 0
    · rw [cSt_n w]
    · rw [cSt_y (by omega)]
      exact Fa_x hc
theorem It_x (hc : cXr c) : ∀ (n : Nat) (x : (Nat → Nat → Int32) × List (List Int32)), (cIt n x).1 c k = x.1 c k := by
  intro n
  induction n with
  | zero => intro x; rfl
  | succ n ih =>
    intro x
    show (cIt n (cSt x)).1 c k = x.1 c k
    rw [ih]
    exact Sx_x hc x.2
theorem Le_x (hc : cXr c) (hV : cV a [] B) : cLe a y c k = a c k := by
  by_cases h : 0 ≤ y.toInt ∧ xAl a y.toNatClampNeg
  · obtain ⟨d, n, hn⟩ := E_ex _ (cFa a [] y) (Nat.le_refl _) (V_fa hV h.1 h.2).1
    rw [cLe_y h.1 h.2 ⟨n, hn⟩]
    have e := It_x (k := k) hc n (cFa a [] y)
    rw [hn] at e
    exact e.trans (Fa_x hc)
  · rw [cLe_n h]
theorem V_0 (h : cC a [] K B) : cV a [] B := h.2.2.2.1
theorem C_o8 (o : zO8 a b) (h : cC a [] K B) : cC b [] K B := by
  obtain ⟨q1, q2, q3, q5, qk⟩ := C0_un h
  have j := J_o8 o (C_J h)
  refine C0_mk j.1 (Nd_o8 o q2) (fun n hn => ?_) j.2.1 j.2.2
  rw [← o8_al o] at hn
  rw [← o 133 n (by decide) (by decide) (by decide) (by decide)]
  exact q3 n hn
end C9A
/-! COUNTS: a new one -/
section C9B
variable {a b d : Nat → Nat → Int32} {x y w pl kk rt : Int32} {n m k u c : Nat} {L : Int64} {K K₉ : Nat → Int32} {B z : Int} {S S₉ : ma_S} {P : Nat}
theorem Th_ad (h : qNe b y w pl) (hA : qAd b d y kk w pl L) (hn : n < 512) : cTh d n = cTh b n := Th_cg (fun m hm => by
  by_cases z : m = y.toNatClampNeg
  · have na : ¬ xAl b m := by rw [z]; exact Ne_al h
    have b0 : b 126 m = 0 := Classical.byContradiction (fun z2 => na ⟨hm, z2⟩)
    have e1 : cTm b n m = 0 := if_pos b0
    have q := Ne_b h
    have hw := h.2.2.2.1
    have e2 : cOb d m n = 0 := by
      rw [z]
      unfold cOb
      rw [hA.1.2.1, q.2.2.2.2.2.1]
      exact cSu_z _ (fun k hk => by
        have e := ofN_s (s := k) (by omega)
        rw [rf_nw h hA (by omega) (by omega)]
        exact cIs_n (by decide) hn)
    rw [e1]
    unfold cTm
    rw [e2]
    split <;> rfl
  · exact Tm_cg (hA.2.1 126 m (by decide) (by decide) z) (hA.2.1 128 m (by decide) (by decide) z) (fun z0 i hi => rf_ad h hA (wp_N (cQ_I h.1) ⟨hm, z0⟩ hi)))
theorem Ok_ad (h : qNe b y w pl) (hA : qAd b d y kk w pl L) (o : cOk b x) : cOk d x := o.imp id (fun z => (Al_ad h hA).mpr (Or.inl z))
theorem Nd_ad (h : qNe b y w pl) (hA : qAd b d y kk w pl L) (hn : cNd b) : cNd d := by
  obtain ⟨n1, n2, n3⟩ := hn
  obtain ⟨e72, _, e74, e5⟩ := hA.2.2.2.2.1
  refine ⟨fun k hk => ?_, fun k hk => ?_, fun u j hw => ?_⟩
  · rw [e72]
    exact Ok_ad h hA (n1 k hk)
  · rw [e5] at hk
    rw [e74]
    exact Ok_ad h hA (n2 k hk)
  · rcases (Al_ad h hA).mp hw.1 with z | z
    · have o := ne_al h z
      have w2 : qWp b u j := ⟨z, hw.2.1, by have q := hw.2.2; rw [hA.2.1 128 u (by decide) (by decide) o] at q; exact q⟩
      rw [rf_ad h hA w2]
      exact Ok_ad h hA (n3 u j w2)
    · have q := hw.2.2
      rw [z, hA.1.2.1, (Ne_b h).2.2.2.2.2.1] at q
      rw [z, rf_nw h hA hw.2.1 (by omega)]
      exact Or.inl (by decide)
theorem Rf_ad (h : qNe b y w pl) (hA : qAd b d y kk w pl L) (hn : xAl b n) : cRf d n = cRf b n := Rf_cg (Ro_cg hA.2.2.2.2.1.1) (Wi_cg hA.2.2.2.2.1.2.2.2 hA.2.2.2.2.1.2.2.1) (hA.2.1 133 n (by decide) (by decide) (ne_al h hn)) (Th_ad h hA hn.1)
theorem is_ad (h : qNe b y w pl) (o : cOk b x) : cIs x y.toNatClampNeg = 0 := by
  have q := Ne_b h
  rcases o with o | o
  · exact cIs_n o q.2.1
  · refine cIs_0 (fun e => Ne_al h ?_)
    have e2 := ofN_i q.2.1
    have c := tn_cast (x := x) (by rw [e]; omega)
    have e3 : x.toNatClampNeg = y.toNatClampNeg := by
      rw [e] at c ⊢
      omega
    rw [← e3]
    exact o
theorem Rf_a0 (h : qNe b y w pl) (hA : qAd b d y kk w pl L) (hd : cNd b) : cRf d y.toNatClampNeg = 0 := by
  have q := Ne_b h
  obtain ⟨n1, n2, n3⟩ := hd
  have e1 : cRo d y.toNatClampNeg = 0 := by
    rw [Ro_cg hA.2.2.2.2.1.1]
    unfold cRo
    exact cSu_z 16 (fun k hk => is_ad h (n1 k hk))
  have e2 : cWi d y.toNatClampNeg = 0 := by
    rw [Wi_cg hA.2.2.2.2.1.2.2.2 hA.2.2.2.2.1.2.2.1]
    unfold cWi
    exact cSu_z _ (fun k hk => is_ad h (n2 k (by omega)))
  have e3 : cTh d y.toNatClampNeg = 0 := by
    rw [Th_ad h hA q.2.1]
    unfold cTh
    refine cSu_z (f := cTm b y.toNatClampNeg) 512 (fun m hm => ?_)
    unfold cTm
    by_cases z : b 126 m = 0
    · exact if_pos z
    · rw [if_neg z]
      unfold cOb
      exact cSu_z _ (fun k hk => is_ad h (n3 m _ (wp_N (cQ_I h.1) ⟨hm, z⟩ (by omega))))
  unfold cRf
  rw [e1, e2, e3, hA.1.2.2.2.1]
  rfl
theorem C_ad (h : qNe b y w pl) (hA : qAd b d y kk w pl L) (hC : cC b [] K B) (hB : 0 ≤ B) (hK : ∀ n, K₉ n = zKu K y.toNatClampNeg 0 n) : cC d [] K₉ B := by
  obtain ⟨hQ, hN, hH, h5, hk⟩ := C0_un hC
  refine C0_mk (cQ_I (I_ad h hA)) (Nd_ad h hA hN) (fun n hn => ?_) (by rw [hA.2.2.2.2.1.2.2.2]; exact h5) (fun n hn => ?_)
  · rcases (Al_ad h hA).mp hn with z | z
    · rw [hA.2.1 133 n (by decide) (by decide) (ne_al h z)]
      exact hH n z
    · rw [z, hA.1.2.2.2.1, show (0 : Int32).toInt = 0 from rfl]
      exact ⟨Int.le_refl _, hB⟩
  · rw [hK n]
    rcases (Al_ad h hA).mp hn with z | z
    · rw [Rf_ad h hA z, ← hk n z]
      exact if_neg (ne_al h z)
    · rw [z, Rf_a0 h hA hN]
      exact if_pos rfl
theorem I_swn (hI : qI a) (h : cNd a) : qI (aSw a) := by
  have o : zOf a (aRA a) := RA_zo
  have g := Gf_all ((aRA a 69 6).toInt - (0 : Int32).toInt).toNat 0 (aRA a) (qI_of hI o) (E0_ra hI) (Cl_ra hI) (Nd_o8 (Of_8 o) h)
  have hb : aGw (aRA a) 0 = aGf ((aRA a 69 6).toInt - (0 : Int32).toInt).toNat 0 (aRA a) := rfl
  rw [← hb] at g
  exact I_mv g.1 g.2.1.1.2.2.2.2.2.1
theorem I_rs (hI : qI a) (h : cNd a) : qI (zRs a z) := by
  unfold zRs
  split
  · exact I_swn hI h
  · exact hI
/-- a new one under COUNTS -/
noncomputable def kMk (a : Nat → Nat → Int32) (kd wd : Int32) (L : Int64) (rt : Int32) : Nat → Nat → Int32 := if (a 69 6).toInt < 512 then (if zRp a (wd + 1).toInt = -1 then zRs a (wd + 1).toInt else cLe (aR0 (aMd (aAd (zRs a (wd + 1).toInt) (zRs a (wd + 1).toInt 69 6) (zFn (zRs a (wd + 1).toInt 69 6) kd (wd + 1) (Int32.ofInt (zRp a (wd + 1).toInt))) L) (zRs a (wd + 1).toInt 69 6)) rt (zRs a (wd + 1).toInt 69 6)) (zRs a (wd + 1).toInt 72 rt.toNatClampNeg)) else a
theorem kMk_0 {kd wd rt : Int32} {L : Int64} (h : ¬ (a 69 6).toInt < 512) : kMk a kd wd L rt = a ∧ sMn a wd = -1 := ⟨if_neg h, if_neg h⟩
theorem kMk_1 {kd wd rt : Int32} {L : Int64} (h : (a 69 6).toInt < 512) (h1 : zRp a (wd + 1).toInt = -1) : kMk a kd wd L rt = zRs a (wd + 1).toInt ∧ sMn a wd = -1 := by
  unfold kMk sMn
  rw [if_pos h, if_pos h, if_pos h1, if_pos h1]
  exact ⟨rfl, rfl⟩
theorem kMk_2 {kd wd rt : Int32} {L : Int64} {b : Nat → Nat → Int32} (h : (a 69 6).toInt < 512) (e : b = zRs a (wd + 1).toInt) (h1 : pl.toInt = zRp a (wd + 1).toInt) (h2 : ¬ pl.toInt = -1) (hy : y = b 69 6) : kMk a kd wd L rt = cLe (aR0 (aMd (aAd b y (zFn y kd (wd + 1) pl) L) y) rt y) (b 72 rt.toNatClampNeg) ∧ sMn a wd = y := by
  unfold kMk sMn
  rw [if_pos h, if_pos h, ← h1, if_neg h2, if_neg h2, ← e, hy, Int32.ofInt_toInt]
  exact ⟨rfl, rfl⟩
theorem ad_72 {F : Nat → Int32} : aMd (aAd a y F L) y 72 k = a 72 k := by
  have e : aAd a y F L 72 k = a 72 k := by
    unfold aAd
    rw [xu_o (by omega), xu_o (by omega)]
    unfold zIw
    rw [if_neg (by omega), xu_o (by omega)]
    unfold zNw
    rw [if_neg (by omega), if_neg (by omega), if_neg (by omega)]
  unfold aMd
  split
  · rw [xu_o (by omega), e]
  · rw [xu_o (by omega), xu_o (by omega), e]
/-! the class: aT and counts behind what makes one -/
theorem aT_p4 {R : Nat → Option Nat} (hR : xB S R) : aT 84 (ma_put S 84 2 (.inl x)) = ma_u (aT 84 S) 87 2 x := by
  have e := (xC_n (W := 75) (c := 84) (k := 2) (x := x) (xC_o hR) ⟨by decide, Or.inl ⟨rfl, rfl⟩⟩).1
  funext c k
  show (if c = 87 then zfP 84 (mI (ma_put S 84 2 (.inl x))) k else aS 75 (ma_put S 84 2 (.inl x)) c k) = if c = 87 ∧ k = 2 then x else (if c = 87 then zfP 84 (mI S) k else aS 75 S c k)
  rw [e]
  by_cases w : c = 87
  · rw [if_pos w, if_pos w]
    by_cases w2 : k = 2
    · rw [if_pos ⟨w, w2⟩, w2]
      rfl
    · rw [if_neg (c := c = 87 ∧ k = 2) (fun q => w2 q.2)]
      show (if k < 3 then (if 84 = 84 ∧ k = 2 then x else mI S 84 k) else 0) = (if k < 3 then mI S 84 k else 0)
      rw [if_neg (c := 84 = 84 ∧ k = 2) (fun q => w2 q.2)]
  · rw [if_neg w, if_neg w, if_neg (c := c = 87 ∧ k = 2) (fun q => w q.1)]
theorem T_th4 {nu kd sz pl : Int32} {rr : Int64} (hN : 126 ≤ mN S) (hr : ∀ n c, mR S 70 n = some c → c < mN S) : aT 84 (zTh S nu kd sz rr pl) = aT 84 S := by
  refine T_of ?_ (fun k => ?_)
  · rw [mk_a (Or.inl rfl) hN hr]
    exact T_o7
  · rw [T_7]
    show (if k < 3 then mI S 84 k else 0) = (if k < 3 then mI (zTh S nu kd sz rr pl) 84 k else 0)
    rw [zTh_lo (by decide) hN]
theorem kC_th {nu kd sz pl : Int32} {rr : Int64} (hN : 126 ≤ mN S) (hr : ∀ n c, mR S 70 n = some c → c < mN S) : kC (zTh S nu kd sz rr pl) = kC S := by
  funext k
  unfold kC
  rw [zTh_R hN]
  unfold aTf
  by_cases h : k < 512
  · rw [if_pos h, if_pos h]
    cases e : mR S 70 k with
    | none => rfl
    | some t => exact zTh_ne (by have := hr k t e; omega)
  · rw [if_neg h, if_neg h]
theorem kC_s {q : Nat} (hn : n < 512) : kC (ma_put S 70 n (.inr (.inr (some q)))) = zKu (kC S) n (mI S q 6) := by
  funext m
  show (if m < 512 then (match (if 70 = 70 ∧ m = n then some q else mR S 70 m) with | some c => mI S c 6 | none => 0) else 0) = if m = n then mI S q 6 else aTf (mI S) (mR S 70) 6 m
  unfold aTf
  by_cases z : m = n
  · rw [if_pos z, if_pos (by omega), if_pos ⟨rfl, z⟩]
  · rw [if_neg z, if_neg (c := 70 = 70 ∧ m = n) (fun w => z w.2)]
    first | rfl | (cases mR S 70 m <;> rfl)
theorem xK_s {W : Nat} {R : Nat → Option Nat} {ab : Nat → Nat → Int32} {c : Nat} (h : xK W S ab R K) (hc : 126 ≤ c) (hn : n < 512) (hnum : mI S c 0 = Int32.ofNat n) : xK W (ma_put S 70 n (.inr (.inr (some c)))) (zNw ab n (mI S c) (mL S c 3)) (zRu R n (some c)) (zKu K n (mI S c 6)) := ⟨xC_s h.1 hc hn hnum, (kC_s hn).trans (by rw [h.2])⟩
theorem T_le {i : Int32} {j : Nat} (h : aS 75 S₉ = cLe (aR0 (aS 75 S) i y) (aS 75 S 72 j)) (h2 : ∀ k, zfP P (mI S₉) k = zfP P (mI S) k) (hC : cC (aS 75 S) [] K B) (hi : i.toNatClampNeg < 16) : aT P S₉ = cLe (aR0 (aT P S) i y) (aT P S 72 j) := by
  have v1 : cV (aR0 (aS 75 S) i y) [] B := V_0 (C_rt (y := y) (K₉ := fun n => K n + Int32.ofNat (cIs y n) - Int32.ofNat (cIs (aS 75 S 72 i.toNatClampNeg) n)) hC hi (fun _ _ => rfl))
  have v2 : cV (aR0 (aT P S) i y) [] B := V_0 (C_rt (y := y) (K₉ := fun n => K n + Int32.ofNat (cIs y n) - Int32.ofNat (cIs (aT P S 72 i.toNatClampNeg) n)) (C_o8 (O8_sy T_o8) hC) hi (fun _ _ => rfl))
  have e72 : aT P S 72 j = aS 75 S 72 j := aT_o (by decide)
  have en : aNm (aT P S) y = aNm (aS 75 S) y := by
    unfold aNm
    rw [aT_o (c := 126) (by decide)]
  have oo : ∀ c k, c ≠ 87 → aR0 (aS 75 S) i y c k = aR0 (aT P S) i y c k := fun c k hc => by
    unfold aR0
    rw [en]
    show (if c = 72 ∧ k = i.toNatClampNeg then _ else aS 75 S c k) = (if c = 72 ∧ k = i.toNatClampNeg then _ else aT P S c k)
    rw [aT_o hc]
  refine T_of (fun c k hc => ?_) (fun k => ?_)
  · rw [h, e72]
    by_cases hx : cXr c
    · rw [Le_x hx v1, Le_x hx v2]
      exact oo c k hc
    · unfold cXr at hx
      exact Le_o8 (fun c k _ _ _ h4 => oo c k h4) v1 c k (by omega) (by omega) (by omega) (by omega)
  · rw [Le_x (Or.inr (Or.inr (Or.inr rfl))) v2]
    unfold aR0
    rw [xu_o (by omega), T_7, h2]
end C9B

