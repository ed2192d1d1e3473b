/-! from 95.m38 -/
/-! COUNTS, the class (written by wip/tools/gen20k.py) -/
theorem g_156_64_sk_p84_0 {X : Nat × (Nat → Int32)} {d w : Nat} {S : ma_S} {Q : Option ma_V ⊕ Nat → ma_S → Prop} (o : Int32) (b : Int32) (hd : 7 ≤ d) (hw : 111 ≤ w) (hS : zT S) (h : mR S 64 11 = some 84 ∧ (mR S 64 11 = some 84 ∧ (ma_wp X (d - 1) (w - 22) 149 0 [(0, .inr (.inr (some 64))), (1, .inl o)] [] S (zo (fun v2 S1 => zT S1 ∧ ((∃ c3, v2 = some c3 ∧ (if b = 0 then ((126 ≤ c3 ∧ c3 < mN S1) ∧ (if (mI S1 c3 7) = 0 then (Q (.inr 6) (ma_bump S1)) else (if b = 0 then (ma_wp X (d - 1) (w - 22) 97 0 [(0, .inr (.inr (some 69))), (1, .inr (.inr (some c3))), (2, .inl (-1 : Int32))] [] S1 (zv (fun S12 => zT S12 ∧ (ma_wp X (d - 1) (w - 24) 24 0 [(0, .inr (.inr (some 84))), (1, .inr (.inr (some c3)))] [] S12 (zv (fun S14 => zT S14 ∧ ((126 ≤ c3 ∧ c3 < mN S14) ∧ (Q (.inl (some (.inl (mI S14 c3 7)))) S14))) (fun _ _ => False)))) (fun x S9 => Q (.inr x) S9))) else (ma_wp X (d - 1) (w - 22) 97 0 [(0, .inr (.inr (some 69))), (1, .inr (.inr (some c3))), (2, .inl (1 : Int32))] [] S1 (zv (fun S16 => zT S16 ∧ (ma_wp X (d - 1) (w - 24) 24 0 [(0, .inr (.inr (some 84))), (1, .inr (.inr (some c3)))] [] S16 (zv (fun S18 => zT S18 ∧ ((126 ≤ c3 ∧ c3 < mN S18) ∧ (Q (.inl (some (.inl (mI S18 c3 7)))) S18))) (fun _ _ => False)))) (fun x S9 => Q (.inr x) S9)))))) else (if b = 0 then (ma_wp X (d - 1) (w - 22) 97 0 [(0, .inr (.inr (some 69))), (1, .inr (.inr (some c3))), (2, .inl (-1 : Int32))] [] S1 (zv (fun S4 => zT S4 ∧ (ma_wp X (d - 1) (w - 24) 24 0 [(0, .inr (.inr (some 84))), (1, .inr (.inr (some c3)))] [] S4 (zv (fun S6 => zT S6 ∧ ((126 ≤ c3 ∧ c3 < mN S6) ∧ (Q (.inl (some (.inl (mI S6 c3 7)))) S6))) (fun _ _ => False)))) (fun x S9 => Q (.inr x) S9))) else (ma_wp X (d - 1) (w - 22) 97 0 [(0, .inr (.inr (some 69))), (1, .inr (.inr (some c3))), (2, .inl (1 : Int32))] [] S1 (zv (fun S8 => zT S8 ∧ (ma_wp X (d - 1) (w - 24) 24 0 [(0, .inr (.inr (some 84))), (1, .inr (.inr (some c3)))] [] S8 (zv (fun S10 => zT S10 ∧ ((126 ≤ c3 ∧ c3 < mN S10) ∧ (Q (.inl (some (.inl (mI S10 c3 7)))) S10))) (fun _ _ => False)))) (fun x S9 => Q (.inr x) S9)))))))) (fun x S9 => Q (.inr x) S9))))) : ma_wp X d w 156 0 [(0, .inr (.inr (some 64))), (1, .inl o), (2, .inl b)] [] S Q := by
  refine zw_push hm_156 dX11_hold_0 (v := .inr (.inr (some 64))) rfl ?_
  refine zw_cv hm_156 dX11_hold_1 v_11_119_11 hm_144 [] [] rfl (zT_rt hS s_64 rfl) ⟨by omega, by omega⟩ rfl ?_
  show ma_wp X (d - 1) (w - 20) 144 0 [(0, .inr (.inr (some 64)))] [] S _
  refine zw_push hm_144 dX11_needCollector_0 (v := .inr (.inr (some 64))) rfl ?_
  obtain ⟨hg, h⟩ := h
  refine zw_gf hm_144 dX11_needCollector_1 (v := .inr (.inr (some 84))) (zT_is hS s_64) (zT_t hS s_64) rfl f_11_98_11 (congrArg (fun z => Sum.inr (Sum.inr z)) hg) ?_
  refine zw_ifnonnull hm_144 dX11_needCollector_4 (t := 15) rfl (fun z => by cases z) (fun _ _ => ?_)
  refine zw_push hm_144 dX11_needCollector_15 (v := .inr (.inr (some 64))) rfl ?_
  obtain ⟨hg, h⟩ := h
  refine zw_gf hm_144 dX11_needCollector_16 (v := .inr (.inr (some 84))) (zT_is hS s_64) (zT_t hS s_64) rfl f_11_98_11 (congrArg (fun z => Sum.inr (Sum.inr z)) hg) ?_
  refine zw_aret hm_144 dX11_needCollector_19 ?_
  show ma_wp X d w 156 4 [(0, .inr (.inr (some 64))), (1, .inl o), (2, .inl b)] [.inr (.inr (some 84))] S _
  refine zw_sto hm_156 dX11_hold_4 [(3, .inr (.inr (some 84))), (0, .inr (.inr (some 64))), (1, .inl o), (2, .inl b)] rfl rfl rfl ?_
  refine zw_push hm_156 dX11_hold_5 (v := .inr (.inr (some 64))) rfl ?_
  refine zw_push hm_156 dX11_hold_6 (v := .inl o) rfl ?_
  refine zw_cv hm_156 dX11_hold_7 v_11_123_11 hm_149 [.inl o] [] rfl (zT_rt hS s_64 rfl) ⟨by omega, by omega⟩ rfl (zw_mono h (zo_go ?_ ?_))
  · intro v2 S1 hv
    obtain ⟨hS1, h⟩ := hv
    obtain ⟨c3, hc, h⟩ := h
    subst hc
    show ma_wp X d w 156 10 [(3, .inr (.inr (some 84))), (0, .inr (.inr (some 64))), (1, .inl o), (2, .inl b)] [.inr (.inr (some c3))] S1 _
    refine zw_sto hm_156 dX11_hold_10 [(4, .inr (.inr (some c3))), (3, .inr (.inr (some 84))), (0, .inr (.inr (some 64))), (1, .inl o), (2, .inl b)] rfl rfl rfl ?_
    refine zw_push hm_156 dX11_hold_12 (v := .inr (.inr (some 84))) rfl ?_
    refine zw_push hm_156 dX11_hold_13 (v := .inr (.inr (some c3))) rfl ?_
    refine zw_cv hm_156 dX11_hold_15 v_11_185_2 hm_269 [.inr (.inr (some c3))] [] rfl (zT_rt hS1 s_84 rfl) ⟨by omega, by omega⟩ rfl ?_
    show ma_wp X (d - 1) (w - 21) 269 0 [(0, .inr (.inr (some 84))), (1, .inr (.inr (some c3)))] [] S1 _
    refine zw_push hm_269 dX1_canHold_0 (v := .inl (1 : Int32)) rfl ?_
    refine zw_bret hm_269 dX1_canHold_1 (by decide) ?_
    show ma_wp X d w 156 18 [(4, .inr (.inr (some c3))), (3, .inr (.inr (some 84))), (0, .inr (.inr (some 64))), (1, .inl o), (2, .inl b)] [.inl (1 : Int32)] S1 _
    refine zw_if0 hm_156 dX11_hold_18 (t := 33) rfl zc0_eq (fun hc => absurd hc (by decide)) (fun _ => ?_)
    refine zw_push hm_156 dX11_hold_21 (v := .inl b) rfl ?_
    refine zw_if0 hm_156 dX11_hold_22 (t := 41) rfl zc0_ne ?_ ?_
    · intro hc
      rw [if_neg hc] at h
      refine zw_push hm_156 dX11_hold_41 (v := .inr (.inr (some 64))) rfl ?_
      refine zw_gf hm_156 dX11_hold_42 (v := .inr (.inr (some 69))) (zT_is hS1 s_64) (zT_t hS1 s_64) rfl f_11_26_11 (zT_f hS1 r_64_8) ?_
      refine zw_push hm_156 dX11_hold_45 (v := .inr (.inr (some c3))) rfl ?_
      refine zw_push hm_156 dX11_hold_47 (v := .inl b) rfl ?_
      refine zw_if0 hm_156 dX11_hold_48 (t := 55) rfl zc0_eq ?_ ?_
      · intro hc
        rw [if_pos hc] at h
        refine zw_push hm_156 dX11_hold_55 (v := .inl (-1 : Int32)) rfl ?_
        refine zw_cv hm_156 dX11_hold_56 v_11_195_7 hm_97 [.inl (-1 : Int32), .inr (.inr (some c3))] [] rfl (zT_rt hS1 s_69 rfl) ⟨by omega, by omega⟩ rfl (zw_mono h (zv_go ?_ ?_))
        · intro S4 hv
          obtain ⟨hS4, h⟩ := hv
          refine zw_push hm_156 dX11_hold_59 (v := .inr (.inr (some 84))) rfl ?_
          refine zw_push hm_156 dX11_hold_60 (v := .inr (.inr (some c3))) rfl ?_
          refine zw_cv hm_156 dX11_hold_62 v_11_157_2 hm_24 [.inr (.inr (some c3))] [] rfl (zT_rt hS4 s_84 rfl) ⟨by omega, by omega⟩ rfl (zw_mono h (zv_go ?_ ?_))
          · intro S6 hv
            obtain ⟨hS6, h⟩ := hv
            refine zw_push hm_156 dX11_hold_65 (v := .inr (.inr (some c3))) rfl ?_
            obtain ⟨hg, h⟩ := h
            refine zw_gf hm_156 dX11_hold_67 (v := .inl (mI S6 c3 7)) (zT_tis hS6 hg) (zT_tt hS6 hg) rfl f_11_189_9 rfl ?_
            exact zw_iret hm_156 dX11_hold_70 h
          · intro x S9 hx
            exact hx.elim
        · intro x S9 hx
          exact ⟨by decide, hx⟩
      · intro hc
        rw [if_neg hc] at h
        refine zw_push hm_156 dX11_hold_51 (v := .inl (1 : Int32)) rfl ?_
        refine zw_goto hm_156 dX11_hold_52 (t := 56) rfl ?_
        refine zw_cv hm_156 dX11_hold_56 v_11_195_7 hm_97 [.inl (1 : Int32), .inr (.inr (some c3))] [] rfl (zT_rt hS1 s_69 rfl) ⟨by omega, by omega⟩ rfl (zw_mono h (zv_go ?_ ?_))
        · intro S8 hv
          obtain ⟨hS8, h⟩ := hv
          refine zw_push hm_156 dX11_hold_59 (v := .inr (.inr (some 84))) rfl ?_
          refine zw_push hm_156 dX11_hold_60 (v := .inr (.inr (some c3))) rfl ?_
          refine zw_cv hm_156 dX11_hold_62 v_11_157_2 hm_24 [.inr (.inr (some c3))] [] rfl (zT_rt hS8 s_84 rfl) ⟨by omega, by omega⟩ rfl (zw_mono h (zv_go ?_ ?_))
          · intro S10 hv
            obtain ⟨hS10, h⟩ := hv
            refine zw_push hm_156 dX11_hold_65 (v := .inr (.inr (some c3))) rfl ?_
            obtain ⟨hg, h⟩ := h
            refine zw_gf hm_156 dX11_hold_67 (v := .inl (mI S10 c3 7)) (zT_tis hS10 hg) (zT_tt hS10 hg) rfl f_11_189_9 rfl ?_
            exact zw_iret hm_156 dX11_hold_70 h
          · intro x S9 hx
            exact hx.elim
        · intro x S9 hx
          exact ⟨by decide, hx⟩
    · intro hc
      rw [if_pos (Classical.not_not.mp hc)] at h
      refine zw_push hm_156 dX11_hold_25 (v := .inr (.inr (some c3))) rfl ?_
      obtain ⟨hg, h⟩ := h
      refine zw_gf hm_156 dX11_hold_27 (v := .inl (mI S1 c3 7)) (zT_tis hS1 hg) (zT_tt hS1 hg) rfl f_11_189_9 rfl ?_
      refine zw_if0 hm_156 dX11_hold_30 (t := 41) rfl zc0_ne ?_ ?_
      · intro hc
        rw [if_neg hc] at h
        refine zw_push hm_156 dX11_hold_41 (v := .inr (.inr (some 64))) rfl ?_
        refine zw_gf hm_156 dX11_hold_42 (v := .inr (.inr (some 69))) (zT_is hS1 s_64) (zT_t hS1 s_64) rfl f_11_26_11 (zT_f hS1 r_64_8) ?_
        refine zw_push hm_156 dX11_hold_45 (v := .inr (.inr (some c3))) rfl ?_
        refine zw_push hm_156 dX11_hold_47 (v := .inl b) rfl ?_
        refine zw_if0 hm_156 dX11_hold_48 (t := 55) rfl zc0_eq ?_ ?_
        · intro hc
          rw [if_pos hc] at h
          refine zw_push hm_156 dX11_hold_55 (v := .inl (-1 : Int32)) rfl ?_
          refine zw_cv hm_156 dX11_hold_56 v_11_195_7 hm_97 [.inl (-1 : Int32), .inr (.inr (some c3))] [] rfl (zT_rt hS1 s_69 rfl) ⟨by omega, by omega⟩ rfl (zw_mono h (zv_go ?_ ?_))
          · intro S12 hv
            obtain ⟨hS12, h⟩ := hv
            refine zw_push hm_156 dX11_hold_59 (v := .inr (.inr (some 84))) rfl ?_
            refine zw_push hm_156 dX11_hold_60 (v := .inr (.inr (some c3))) rfl ?_
            refine zw_cv hm_156 dX11_hold_62 v_11_157_2 hm_24 [.inr (.inr (some c3))] [] rfl (zT_rt hS12 s_84 rfl) ⟨by omega, by omega⟩ rfl (zw_mono h (zv_go ?_ ?_))
            · intro S14 hv
              obtain ⟨hS14, h⟩ := hv
              refine zw_push hm_156 dX11_hold_65 (v := .inr (.inr (some c3))) rfl ?_
              obtain ⟨hg, h⟩ := h
              refine zw_gf hm_156 dX11_hold_67 (v := .inl (mI S14 c3 7)) (zT_tis hS14 hg) (zT_tt hS14 hg) rfl f_11_189_9 rfl ?_
              exact zw_iret hm_156 dX11_hold_70 h
            · intro x S9 hx
              exact hx.elim
          · intro x S9 hx
            exact ⟨by decide, hx⟩
        · intro hc
          rw [if_neg hc] at h
          refine zw_push hm_156 dX11_hold_51 (v := .inl (1 : Int32)) rfl ?_
          refine zw_goto hm_156 dX11_hold_52 (t := 56) rfl ?_
          refine zw_cv hm_156 dX11_hold_56 v_11_195_7 hm_97 [.inl (1 : Int32), .inr (.inr (some c3))] [] rfl (zT_rt hS1 s_69 rfl) ⟨by omega, by omega⟩ rfl (zw_mono h (zv_go ?_ ?_))
          · intro S16 hv
            obtain ⟨hS16, h⟩ := hv
            refine zw_push hm_156 dX11_hold_59 (v := .inr (.inr (some 84))) rfl ?_
            refine zw_push hm_156 dX11_hold_60 (v := .inr (.inr (some c3))) rfl ?_
            refine zw_cv hm_156 dX11_hold_62 v_11_157_2 hm_24 [.inr (.inr (some c3))] [] rfl (zT_rt hS16 s_84 rfl) ⟨by omega, by omega⟩ rfl (zw_mono h (zv_go ?_ ?_))
            · intro S18 hv
              obtain ⟨hS18, h⟩ := hv
              refine zw_push hm_156 dX11_hold_65 (v := .inr (.inr (some c3))) rfl ?_
              obtain ⟨hg, h⟩ := h
              refine zw_gf hm_156 dX11_hold_67 (v := .inl (mI S18 c3 7)) (zT_tis hS18 hg) (zT_tt hS18 hg) rfl f_11_189_9 rfl ?_
              exact zw_iret hm_156 dX11_hold_70 h
            · intro x S9 hx
              exact hx.elim
          · intro x S9 hx
            exact ⟨by decide, hx⟩
      · intro hc
        rw [if_pos (Classical.not_not.mp hc)] at h
        exact zw_thr hm_156 dX11_hold_33 dX11_hold_36 dX11_hold_37 dX11_hold_40 x_11_192_194 n_11_192 (by omega) (by show 0 + 81 ≤ w; omega) h
  · intro x S9 hx
    exact ⟨by decide, hx⟩
theorem sp_156_64_sk_p84 {X : Nat × (Nat → Int32)} {d w : Nat} {f : Nat → Nat → Int32} {r : Nat → Nat → Option Nat} {C Z N : Nat} {Q : Option ma_V ⊕ Nat → ma_S → Prop} {ab : Nat→Nat→Int32} {B : Int} {fq : Nat→Int32} {S : ma_S} (o : Int32) (b : Int32) (hd : 7 ≤ d) (hw : 111 ≤ w) (hI : zB f r C Z N S) (hr : r 64 11 = some 84) (hpre0 : xB S (mR S 70)) (hpre1 : aS 88 S = ab) (hpre2 : cC ab [] (kC S) B) (hpre3 : B + 1 ≤ 1000000) (hpre4 : 0 ≤ b.toInt) (hpre5 : b.toInt ≤ 1) (hpre6 : zfP 84 (mI S) = fq) (K : ∀ v S₉, zB f r C Z N S₉ → (True) → (xB S₉ (mR S₉ 70)) → (cC (aS 88 S₉) [] (kC S₉) (B + 1)) → (zRq ab o ∧ (¬ b = 0 ∨ ¬ ab 133 o.toNatClampNeg = 0) ∧ aS 88 S₉ = cLe (ma_u ab 133 o.toNatClampNeg (ab 133 o.toNatClampNeg + (if b = 0 then -1 else 1))) o ∧ v = ab 133 o.toNatClampNeg + (if b = 0 then -1 else 1)) → (zfP 84 (mI S₉) = fq) → Q (.inl (some (.inl v))) S₉) (KX : ∀ x S₉, (x = 4 ∨ x = 6) → zB f r C Z N S₉ → (xB S₉ (mR S₉ 70)) → (aS 88 S₉ = ab) → (cC ab [] (kC S₉) B) → ((x = 4 ∧ ¬ zRq ab o) ∨ (x = 6 ∧ zRq ab o ∧ b = 0 ∧ ab 133 o.toNatClampNeg = 0)) → (zfP 84 (mI S₉) = fq) → Q (.inr x) (ma_bump S₉)) : ma_wp X d w 156 0 [(0, .inr (.inr (some 64))), (1, .inl o), (2, .inl b)] [] S Q := by
  refine g_156_64_sk_p84_0 o b (by omega) (by omega) (zG_T hI) ?_
  refine ⟨((zG_r hI (by decide)).trans hr), ?_⟩
  refine ⟨((zG_r hI (by decide)).trans hr), ?_⟩
  have b1 := i_bd o
  refine sp_149_64_sk (R := (mR S 70)) (a7 := (aS 75 S)) (a8 := (aS 88 S)) (kk := (kC S)) (o) (by omega) (by omega) (zB_dn_zI hI) (show xB S (mR S 70) from by first | (exact (xC_o (W := 75) hpre0).2)) (show aS 75 S = (aS 75 S) from by first | (exact rfl)) (show aS 88 S = (aS 88 S) from by first | (exact rfl)) (show kC S = (kC S) from by first | (exact rfl)) (fun v2 S1 hL_S1 hq_v2 rp0_S1 rp1_S1 rp2_S1 rp3_S1 rp4_S1 => zo_n ⟨zG_T hL_S1, ?_⟩) (fun x S9 hx h9 rx0 rx1 rx2 rx3 => by have h9u := (zB_up_zI hI h9); exact zo_x (KX x S9 (by omega) h9u (show xB S9 (mR S9 70) from by first | (exact xB_x (xC_o (W := 75) rx0).2)) (show aS 88 S9 = ab from by first | (exact rx1.trans hpre1)) (show cC ab [] (kC S9) B from by first | (rw [rx2]; exact hpre2)) (show (x = 4 ∧ ¬ zRq ab o) ∨ (x = 6 ∧ zRq ab o ∧ b = 0 ∧ ab 133 o.toNatClampNeg = 0) from by first | (exact Or.inl ⟨rx3.1, rq_no rx3.2 hpre1⟩)) (show zfP 84 (mI S9) = fq from by first | (exact ((zf_fr (P := 84) (fun _ => zG_z h9 rfl)).trans hpre6)))))
  have hI_S1 := zB_up_zI hI hL_S1
  have rp0_S1 : xB S1 (mR S 70) := by
    have z := rp0_S1
    (try rw [show mI S 65 = f 65 from funext (fun k => zG_z hI rfl)] at z)
    (try rw [show mI S 64 1 = f 64 1 from zG_z hI rfl] at z)
    exact z
  have rp1_S1 : aS 88 S1 = (aS 88 S) := by
    have z := rp1_S1
    (try rw [show mI S 65 = f 65 from funext (fun k => zG_z hI rfl)] at z)
    (try rw [show mI S 64 1 = f 64 1 from zG_z hI rfl] at z)
    exact z
  have rp2_S1 : v2 = zTa (mR S 70) o := by
    have z := rp2_S1
    (try rw [show mI S 65 = f 65 from funext (fun k => zG_z hI rfl)] at z)
    (try rw [show mI S 64 1 = f 64 1 from zG_z hI rfl] at z)
    exact z
  have rp3_S1 : zRq (aS 75 S) o := by
    have z := rp3_S1
    (try rw [show mI S 65 = f 65 from funext (fun k => zG_z hI rfl)] at z)
    (try rw [show mI S 64 1 = f 64 1 from zG_z hI rfl] at z)
    exact z
  have rp4_S1 : kC S1 = (kC S) := by
    have z := rp4_S1
    (try rw [show mI S 65 = f 65 from funext (fun k => zG_z hI rfl)] at z)
    (try rw [show mI S 64 1 = f 64 1 from zG_z hI rfl] at z)
    exact z
  obtain ⟨c3, hc, th_c3⟩ := hq_v2
  have rg_c3 : zTa (mR S 70) o = some c3 := rp2_S1.symm.trans hc
  refine ⟨c3, hc, ?_⟩
  have b2 := i_bd b
  have li3 : (0 : Int32).toInt = 0 := rfl
  refine zd (fun h4 => ?_) (fun h4 => ?_)
  · skip
    have g5 := i_eq h4
    refine ⟨zG_n hI_S1 th_c3, ?_⟩
    have b6 := i_bd (mI S1 c3 7)
    refine zd (fun h7 => ?_) (fun h7 => ?_)
    · skip
      have g8 := i_eq h7
      exact KX 6 _ (by decide) hI_S1 (show xB S1 (mR S1 70) from by first | (exact xB_x (xC_o (W := 75) rp0_S1).2)) (show aS 88 S1 = ab from by first | (exact (xC_o (W := 88) rp0_S1).1.trans (rp1_S1.trans hpre1))) (show cC ab [] (kC S1) B from by first | (rw [(xK_o (W := 88) rp0_S1 rfl).2, rp4_S1]; exact hpre2) | (exact hpre2)) (show (6 = 4 ∧ ¬ zRq ab o) ∨ (6 = 6 ∧ zRq ab o ∧ b = 0 ∧ ab 133 o.toNatClampNeg = 0) from by first | (have ty := xB_th (W := 88) rp0_S1 rg_c3; have e7 := ty.2.2.2.2.2.2.1; rw [(rp1_S1.trans hpre1)] at e7; exact Or.inr ⟨rfl, (rq_up rp3_S1 hpre1), by assumption, by rw [← e7]; assumption⟩)) (show zfP 84 (mI S1) = fq from by first | (exact ((zf_fr (P := 84) (S₉ := S1) (S := S) (fun _ => zG_z hL_S1 rfl)).trans hpre6)))
    · skip
      have g9 := i_ne h7
      refine zd (fun h10 => ?_) (fun h10 => ?_)
      · skip
        have g11 := i_eq h10
        have li12 : (-1 : Int32).toInt = -1 := rfl
        refine sp_97_69_sk (ab := (aS 88 S1)) (R := (mR S 70)) (W := 88) (y := (o)) (kk := (kC S1)) c3 ((-1 : Int32)) (by omega) (by omega) (zB_dn_zI hI_S1) th_c3 (show xB S1 (mR S 70) from by first | (exact (xC_o (W := 75) rp0_S1).2)) (show aS 88 S1 = (aS 88 S1) from by first | (exact rfl)) (show xW 88 from by first | (exact xW88) | (exact xW75)) (show zTa (mR S 70) (o) = some c3 from by first | (exact rg_c3)) (show kC S1 = (kC S1) from by first | (exact rfl)) (fun S12 hL_S12 rp0_S12 rp1_S12 rp2_S12 => zv_n ⟨zG_T hL_S12, ?_⟩)
        have hI_S12 := zB_up_zI hI_S1 hL_S12
        have rp0_S12 : xB S12 (mR S 70) := by
          have z := rp0_S12
          (try rw [show mI S1 65 = f 65 from funext (fun k => zG_z hI_S1 rfl)] at z)
          (try rw [show mI S1 64 1 = f 64 1 from zG_z hI_S1 rfl] at z)
          exact z
        have rp1_S12 : aS 88 S12 = ma_u (aS 88 S1) 133 (o).toNatClampNeg ((aS 88 S1) 133 (o).toNatClampNeg + (-1 : Int32)) := by
          have z := rp1_S12
          (try rw [show mI S1 65 = f 65 from funext (fun k => zG_z hI_S1 rfl)] at z)
          (try rw [show mI S1 64 1 = f 64 1 from zG_z hI_S1 rfl] at z)
          exact z
        have rp2_S12 : ∀ n, kC S12 n = (kC S1) n + (if n = (o).toNatClampNeg then (-1 : Int32) else 0) := by
          have z := rp2_S12
          (try rw [show mI S1 65 = f 65 from funext (fun k => zG_z hI_S1 rfl)] at z)
          (try rw [show mI S1 64 1 = f 64 1 from zG_z hI_S1 rfl] at z)
          exact z
        refine sp_24_84_sk (ab := (aS 88 S12)) (W := 88) (kk := (kC S12)) (y := (o)) (B := (B + 1)) (fq := (zfP 84 (mI S12))) (n0 := (zN0 S12)) ((some c3)) (by omega) (by omega) (zB_dn_zJ84 hI_S12) (fun _ z => by cases z; exact th_c3) (show xB S12 (mR S12 70) from by first | (exact xB_x (xC_o (W := 88) rp0_S12).2)) (show aS 88 S12 = (aS 88 S12) from by first | (exact rfl)) (show xW 88 from by first | (exact xW88) | (exact xW75)) (show (some c3) = zTa (mR S12 70) (o) from by first | (rw [rp0_S12.1]; exact rg_c3.symm) | (exact rg_c3.symm)) (show kC S12 = (kC S12) from by first | (exact rfl)) (show cC (aS 88 S12) [] (kC S12) (B + 1) from by first | (have hl := rp1_S12; rw [(rp1_S1.trans hpre1)] at hl; have e7 := (xB_th (W := 88) rp0_S1 rg_c3).2.2.2.2.2.2.1; rw [(rp1_S1.trans hpre1)] at e7; rw [hl]; refine C_hx hpre2 (by have q := (rq_up rp3_S1 hpre1); exact al_of q) hpre3 (Or.inr ⟨rfl, by rw [← e7]; assumption⟩) (fun n => ?_); have q := rp2_S12 n; rw [rp4_S1] at q; exact q) | (exact absurd (show b = 0 by assumption) (show ¬ b = 0 by assumption))) (show cOk (aS 88 S12) (o) from by first | (have hl := rp1_S12; rw [(rp1_S1.trans hpre1)] at hl; rw [hl]; exact (cOk_cg (u_al (by decide))).mpr (Or.inr (by have q := (rq_up rp3_S1 hpre1); exact al_of q)))) (show (B + 1) ≤ 1000000 from by first | (exact hpre3)) (show zfP 84 (mI S12) = (zfP 84 (mI S12)) from by first | (exact rfl)) (show zN0 S12 = (zN0 S12) from by first | (exact rfl)) (fun S14 hL_S14 rp0_S14 rp1_S14 rp2_S14 rp3_S14 => zv_n ⟨zG_T hL_S14, ?_⟩)
        have hI_S14 := zB_up_zJ84 hI_S12 hL_S14
        have rp0_S14 : xB S14 (mR S14 70) := by
          have z := rp0_S14
          (try rw [show mI S12 65 = f 65 from funext (fun k => zG_z hI_S12 rfl)] at z)
          (try rw [show mI S12 64 1 = f 64 1 from zG_z hI_S12 rfl] at z)
          exact z
        have rp1_S14 : aS 88 S14 = cLe (aS 88 S12) (o) ∧ cC (aS 88 S14) [] (kC S14) (B + 1) := by
          have z := rp1_S14
          (try rw [show mI S12 65 = f 65 from funext (fun k => zG_z hI_S12 rfl)] at z)
          (try rw [show mI S12 64 1 = f 64 1 from zG_z hI_S12 rfl] at z)
          exact z
        have rp2_S14 : zfP 84 (mI S14) = (zfP 84 (mI S12)) := by
          have z := rp2_S14
          (try rw [show mI S12 65 = f 65 from funext (fun k => zG_z hI_S12 rfl)] at z)
          (try rw [show mI S12 64 1 = f 64 1 from zG_z hI_S12 rfl] at z)
          exact z
        have rp3_S14 : zN0 S14 = (zN0 S12) := by
          have z := rp3_S14
          (try rw [show mI S12 65 = f 65 from funext (fun k => zG_z hI_S12 rfl)] at z)
          (try rw [show mI S12 64 1 = f 64 1 from zG_z hI_S12 rfl] at z)
          exact z
        refine ⟨zG_n hI_S14 th_c3, ?_⟩
        have b13 := i_bd (mI S14 c3 7)
        exact K ((mI S14 c3 7)) _ hI_S14 trivial (show xB S14 (mR S14 70) from by first | (exact xB_x (xC_o (W := 75) rp0_S14).2)) (show cC (aS 88 S14) [] (kC S14) (B + 1) from by first | (exfalso; omega) | (exact rp1_S14.2)) (show zRq ab o ∧ (¬ b = 0 ∨ ¬ ab 133 o.toNatClampNeg = 0) ∧ aS 88 S14 = cLe (ma_u ab 133 o.toNatClampNeg (ab 133 o.toNatClampNeg + (if b = 0 then -1 else 1))) o ∧ (mI S14 c3 7) = ab 133 o.toNatClampNeg + (if b = 0 then -1 else 1) from by first | (exfalso; omega) | (have ty := xB_th (W := 88) rp0_S1 rg_c3; have e7 := ty.2.2.2.2.2.2.1; rw [(rp1_S1.trans hpre1)] at e7; have t2 := xB_th (W := 88) rp0_S12 rg_c3; have f7 := t2.2.2.2.2.2.2.1; have hl := rp1_S12; rw [(rp1_S1.trans hpre1)] at hl; rw [hl, xu_s] at f7; have v7 := (n0_k rp3_S14 th_c3.1 (Or.inr rfl)).trans f7; have np := rp1_S14.1; rw [hl] at np; refine ⟨(rq_up rp3_S1 hpre1), Or.inl (by assumption), ?_, ?_⟩; (rw [np, if_neg (by assumption)]); (rw [if_neg (by assumption)]; exact v7)) | (have ty := xB_th (W := 88) rp0_S1 rg_c3; have e7 := ty.2.2.2.2.2.2.1; rw [(rp1_S1.trans hpre1)] at e7; have t2 := xB_th (W := 88) rp0_S12 rg_c3; have f7 := t2.2.2.2.2.2.2.1; have hl := rp1_S12; rw [(rp1_S1.trans hpre1)] at hl; rw [hl, xu_s] at f7; have v7 := (n0_k rp3_S14 th_c3.1 (Or.inr rfl)).trans f7; have np := rp1_S14.1; rw [hl] at np; refine ⟨(rq_up rp3_S1 hpre1), Or.inr (by rw [← e7]; assumption), ?_, ?_⟩; (rw [np, if_pos (by assumption)]); (rw [if_pos (by assumption)]; exact v7))) (show zfP 84 (mI S14) = fq from by first | (exact (rp2_S14.trans ((zf_fr (P := 84) (S₉ := S12) (S := S1) (fun _ => zG_z hL_S12 rfl)).trans ((zf_fr (P := 84) (S₉ := S1) (S := S) (fun _ => zG_z hL_S1 rfl)).trans hpre6)))))
      · skip
        have g14 := i_ne h10
        have li15 : (1 : Int32).toInt = 1 := rfl
        refine sp_97_69_sk (ab := (aS 88 S1)) (R := (mR S 70)) (W := 88) (y := (o)) (kk := (kC S1)) c3 ((1 : Int32)) (by omega) (by omega) (zB_dn_zI hI_S1) th_c3 (show xB S1 (mR S 70) from by first | (exact (xC_o (W := 75) rp0_S1).2)) (show aS 88 S1 = (aS 88 S1) from by first | (exact rfl)) (show xW 88 from by first | (exact xW88) | (exact xW75)) (show zTa (mR S 70) (o) = some c3 from by first | (exact rg_c3)) (show kC S1 = (kC S1) from by first | (exact rfl)) (fun S16 hL_S16 rp0_S16 rp1_S16 rp2_S16 => zv_n ⟨zG_T hL_S16, ?_⟩)
        have hI_S16 := zB_up_zI hI_S1 hL_S16
        have rp0_S16 : xB S16 (mR S 70) := by
          have z := rp0_S16
          (try rw [show mI S1 65 = f 65 from funext (fun k => zG_z hI_S1 rfl)] at z)
          (try rw [show mI S1 64 1 = f 64 1 from zG_z hI_S1 rfl] at z)
          exact z
        have rp1_S16 : aS 88 S16 = ma_u (aS 88 S1) 133 (o).toNatClampNeg ((aS 88 S1) 133 (o).toNatClampNeg + (1 : Int32)) := by
          have z := rp1_S16
          (try rw [show mI S1 65 = f 65 from funext (fun k => zG_z hI_S1 rfl)] at z)
          (try rw [show mI S1 64 1 = f 64 1 from zG_z hI_S1 rfl] at z)
          exact z
        have rp2_S16 : ∀ n, kC S16 n = (kC S1) n + (if n = (o).toNatClampNeg then (1 : Int32) else 0) := by
          have z := rp2_S16
          (try rw [show mI S1 65 = f 65 from funext (fun k => zG_z hI_S1 rfl)] at z)
          (try rw [show mI S1 64 1 = f 64 1 from zG_z hI_S1 rfl] at z)
          exact z
        refine sp_24_84_sk (ab := (aS 88 S16)) (W := 88) (kk := (kC S16)) (y := (o)) (B := (B + 1)) (fq := (zfP 84 (mI S16))) (n0 := (zN0 S16)) ((some c3)) (by omega) (by omega) (zB_dn_zJ84 hI_S16) (fun _ z => by cases z; exact th_c3) (show xB S16 (mR S16 70) from by first | (exact xB_x (xC_o (W := 88) rp0_S16).2)) (show aS 88 S16 = (aS 88 S16) from by first | (exact rfl)) (show xW 88 from by first | (exact xW88) | (exact xW75)) (show (some c3) = zTa (mR S16 70) (o) from by first | (rw [rp0_S16.1]; exact rg_c3.symm) | (exact rg_c3.symm)) (show kC S16 = (kC S16) from by first | (exact rfl)) (show cC (aS 88 S16) [] (kC S16) (B + 1) from by first | (have hl := rp1_S16; rw [(rp1_S1.trans hpre1)] at hl; have e7 := (xB_th (W := 88) rp0_S1 rg_c3).2.2.2.2.2.2.1; rw [(rp1_S1.trans hpre1)] at e7; rw [hl]; refine C_hx hpre2 (by have q := (rq_up rp3_S1 hpre1); exact al_of q) hpre3 (Or.inl rfl) (fun n => ?_); have q := rp2_S16 n; rw [rp4_S1] at q; exact q) | (exact absurd (show b = 0 by assumption) (show ¬ b = 0 by assumption))) (show cOk (aS 88 S16) (o) from by first | (have hl := rp1_S16; rw [(rp1_S1.trans hpre1)] at hl; rw [hl]; exact (cOk_cg (u_al (by decide))).mpr (Or.inr (by have q := (rq_up rp3_S1 hpre1); exact al_of q)))) (show (B + 1) ≤ 1000000 from by first | (exact hpre3)) (show zfP 84 (mI S16) = (zfP 84 (mI S16)) from by first | (exact rfl)) (show zN0 S16 = (zN0 S16) from by first | (exact rfl)) (fun S18 hL_S18 rp0_S18 rp1_S18 rp2_S18 rp3_S18 => zv_n ⟨zG_T hL_S18, ?_⟩)
        have hI_S18 := zB_up_zJ84 hI_S16 hL_S18
        have rp0_S18 : xB S18 (mR S18 70) := by
          have z := rp0_S18
          (try rw [show mI S16 65 = f 65 from funext (fun k => zG_z hI_S16 rfl)] at z)
          (try rw [show mI S16 64 1 = f 64 1 from zG_z hI_S16 rfl] at z)
          exact z
        have rp1_S18 : aS 88 S18 = cLe (aS 88 S16) (o) ∧ cC (aS 88 S18) [] (kC S18) (B + 1) := by
          have z := rp1_S18
          (try rw [show mI S16 65 = f 65 from funext (fun k => zG_z hI_S16 rfl)] at z)
          (try rw [show mI S16 64 1 = f 64 1 from zG_z hI_S16 rfl] at z)
          exact z
        have rp2_S18 : zfP 84 (mI S18) = (zfP 84 (mI S16)) := by
          have z := rp2_S18
          (try rw [show mI S16 65 = f 65 from funext (fun k => zG_z hI_S16 rfl)] at z)
          (try rw [show mI S16 64 1 = f 64 1 from zG_z hI_S16 rfl] at z)
          exact z
        have rp3_S18 : zN0 S18 = (zN0 S16) := by
          have z := rp3_S18
          (try rw [show mI S16 65 = f 65 from funext (fun k => zG_z hI_S16 rfl)] at z)
          (try rw [show mI S16 64 1 = f 64 1 from zG_z hI_S16 rfl] at z)
          exact z
        refine ⟨zG_n hI_S18 th_c3, ?_⟩
        have b16 := i_bd (mI S18 c3 7)
        exact K ((mI S18 c3 7)) _ hI_S18 trivial (show xB S18 (mR S18 70) from by first | (exact xB_x (xC_o (W := 75) rp0_S18).2)) (show cC (aS 88 S18) [] (kC S18) (B + 1) from by first | (exfalso; omega) | (exact rp1_S18.2)) (show zRq ab o ∧ (¬ b = 0 ∨ ¬ ab 133 o.toNatClampNeg = 0) ∧ aS 88 S18 = cLe (ma_u ab 133 o.toNatClampNeg (ab 133 o.toNatClampNeg + (if b = 0 then -1 else 1))) o ∧ (mI S18 c3 7) = ab 133 o.toNatClampNeg + (if b = 0 then -1 else 1) from by first | (exfalso; omega) | (have ty := xB_th (W := 88) rp0_S1 rg_c3; have e7 := ty.2.2.2.2.2.2.1; rw [(rp1_S1.trans hpre1)] at e7; have t2 := xB_th (W := 88) rp0_S16 rg_c3; have f7 := t2.2.2.2.2.2.2.1; have hl := rp1_S16; rw [(rp1_S1.trans hpre1)] at hl; rw [hl, xu_s] at f7; have v7 := (n0_k rp3_S18 th_c3.1 (Or.inr rfl)).trans f7; have np := rp1_S18.1; rw [hl] at np; refine ⟨(rq_up rp3_S1 hpre1), Or.inl (by assumption), ?_, ?_⟩; (rw [np, if_neg (by assumption)]); (rw [if_neg (by assumption)]; exact v7)) | (have ty := xB_th (W := 88) rp0_S1 rg_c3; have e7 := ty.2.2.2.2.2.2.1; rw [(rp1_S1.trans hpre1)] at e7; have t2 := xB_th (W := 88) rp0_S16 rg_c3; have f7 := t2.2.2.2.2.2.2.1; have hl := rp1_S16; rw [(rp1_S1.trans hpre1)] at hl; rw [hl, xu_s] at f7; have v7 := (n0_k rp3_S18 th_c3.1 (Or.inr rfl)).trans f7; have np := rp1_S18.1; rw [hl] at np; refine ⟨(rq_up rp3_S1 hpre1), Or.inr (by rw [← e7]; assumption), ?_, ?_⟩; (rw [np, if_pos (by assumption)]); (rw [if_pos (by assumption)]; exact v7))) (show zfP 84 (mI S18) = fq from by first | (exact (rp2_S18.trans ((zf_fr (P := 84) (S₉ := S16) (S := S1) (fun _ => zG_z hL_S16 rfl)).trans ((zf_fr (P := 84) (S₉ := S1) (S := S) (fun _ => zG_z hL_S1 rfl)).trans hpre6)))))
  · skip
    have g17 := i_ne h4
    refine zd (fun h18 => ?_) (fun h18 => ?_)
    · skip
      have g19 := i_eq h18
      have li20 : (-1 : Int32).toInt = -1 := rfl
      refine sp_97_69_sk (ab := (aS 88 S1)) (R := (mR S 70)) (W := 88) (y := (o)) (kk := (kC S1)) c3 ((-1 : Int32)) (by omega) (by omega) (zB_dn_zI hI_S1) th_c3 (show xB S1 (mR S 70) from by first | (exact (xC_o (W := 75) rp0_S1).2)) (show aS 88 S1 = (aS 88 S1) from by first | (exact rfl)) (show xW 88 from by first | (exact xW88) | (exact xW75)) (show zTa (mR S 70) (o) = some c3 from by first | (exact rg_c3)) (show kC S1 = (kC S1) from by first | (exact rfl)) (fun S4 hL_S4 rp0_S4 rp1_S4 rp2_S4 => zv_n ⟨zG_T hL_S4, ?_⟩)
      have hI_S4 := zB_up_zI hI_S1 hL_S4
      have rp0_S4 : xB S4 (mR S 70) := by
        have z := rp0_S4
        (try rw [show mI S1 65 = f 65 from funext (fun k => zG_z hI_S1 rfl)] at z)
        (try rw [show mI S1 64 1 = f 64 1 from zG_z hI_S1 rfl] at z)
        exact z
      have rp1_S4 : aS 88 S4 = ma_u (aS 88 S1) 133 (o).toNatClampNeg ((aS 88 S1) 133 (o).toNatClampNeg + (-1 : Int32)) := by
        have z := rp1_S4
        (try rw [show mI S1 65 = f 65 from funext (fun k => zG_z hI_S1 rfl)] at z)
        (try rw [show mI S1 64 1 = f 64 1 from zG_z hI_S1 rfl] at z)
        exact z
      have rp2_S4 : ∀ n, kC S4 n = (kC S1) n + (if n = (o).toNatClampNeg then (-1 : Int32) else 0) := by
        have z := rp2_S4
        (try rw [show mI S1 65 = f 65 from funext (fun k => zG_z hI_S1 rfl)] at z)
        (try rw [show mI S1 64 1 = f 64 1 from zG_z hI_S1 rfl] at z)
        exact z
      refine sp_24_84_sk (ab := (aS 88 S4)) (W := 88) (kk := (kC S4)) (y := (o)) (B := (B + 1)) (fq := (zfP 84 (mI S4))) (n0 := (zN0 S4)) ((some c3)) (by omega) (by omega) (zB_dn_zJ84 hI_S4) (fun _ z => by cases z; exact th_c3) (show xB S4 (mR S4 70) from by first | (exact xB_x (xC_o (W := 88) rp0_S4).2)) (show aS 88 S4 = (aS 88 S4) from by first | (exact rfl)) (show xW 88 from by first | (exact xW88) | (exact xW75)) (show (some c3) = zTa (mR S4 70) (o) from by first | (rw [rp0_S4.1]; exact rg_c3.symm) | (exact rg_c3.symm)) (show kC S4 = (kC S4) from by first | (exact rfl)) (show cC (aS 88 S4) [] (kC S4) (B + 1) from by first | (have hl := rp1_S4; rw [(rp1_S1.trans hpre1)] at hl; have e7 := (xB_th (W := 88) rp0_S1 rg_c3).2.2.2.2.2.2.1; rw [(rp1_S1.trans hpre1)] at e7; rw [hl]; refine C_hx hpre2 (by have q := (rq_up rp3_S1 hpre1); exact al_of q) hpre3 (Or.inr ⟨rfl, by rw [← e7]; assumption⟩) (fun n => ?_); have q := rp2_S4 n; rw [rp4_S1] at q; exact q) | (exact absurd (show b = 0 by assumption) (show ¬ b = 0 by assumption))) (show cOk (aS 88 S4) (o) from by first | (have hl := rp1_S4; rw [(rp1_S1.trans hpre1)] at hl; rw [hl]; exact (cOk_cg (u_al (by decide))).mpr (Or.inr (by have q := (rq_up rp3_S1 hpre1); exact al_of q)))) (show (B + 1) ≤ 1000000 from by first | (exact hpre3)) (show zfP 84 (mI S4) = (zfP 84 (mI S4)) from by first | (exact rfl)) (show zN0 S4 = (zN0 S4) from by first | (exact rfl)) (fun S6 hL_S6 rp0_S6 rp1_S6 rp2_S6 rp3_S6 => zv_n ⟨zG_T hL_S6, ?_⟩)
      have hI_S6 := zB_up_zJ84 hI_S4 hL_S6
      have rp0_S6 : xB S6 (mR S6 70) := by
        have z := rp0_S6
        (try rw [show mI S4 65 = f 65 from funext (fun k => zG_z hI_S4 rfl)] at z)
        (try rw [show mI S4 64 1 = f 64 1 from zG_z hI_S4 rfl] at z)
        exact z
      have rp1_S6 : aS 88 S6 = cLe (aS 88 S4) (o) ∧ cC (aS 88 S6) [] (kC S6) (B + 1) := by
        have z := rp1_S6
        (try rw [show mI S4 65 = f 65 from funext (fun k => zG_z hI_S4 rfl)] at z)
        (try rw [show mI S4 64 1 = f 64 1 from zG_z hI_S4 rfl] at z)
        exact z
      have rp2_S6 : zfP 84 (mI S6) = (zfP 84 (mI S4)) := by
        have z := rp2_S6
        (try rw [show mI S4 65 = f 65 from funext (fun k => zG_z hI_S4 rfl)] at z)
        (try rw [show mI S4 64 1 = f 64 1 from zG_z hI_S4 rfl] at z)
        exact z
      have rp3_S6 : zN0 S6 = (zN0 S4) := by
        have z := rp3_S6
        (try rw [show mI S4 65 = f 65 from funext (fun k => zG_z hI_S4 rfl)] at z)
        (try rw [show mI S4 64 1 = f 64 1 from zG_z hI_S4 rfl] at z)
        exact z
      refine ⟨zG_n hI_S6 th_c3, ?_⟩
      have b21 := i_bd (mI S6 c3 7)
      exact K ((mI S6 c3 7)) _ hI_S6 trivial (show xB S6 (mR S6 70) from by first | (exact xB_x (xC_o (W := 75) rp0_S6).2)) (show cC (aS 88 S6) [] (kC S6) (B + 1) from by first | (exfalso; omega) | (exact rp1_S6.2)) (show zRq ab o ∧ (¬ b = 0 ∨ ¬ ab 133 o.toNatClampNeg = 0) ∧ aS 88 S6 = cLe (ma_u ab 133 o.toNatClampNeg (ab 133 o.toNatClampNeg + (if b = 0 then -1 else 1))) o ∧ (mI S6 c3 7) = ab 133 o.toNatClampNeg + (if b = 0 then -1 else 1) from by first | (exfalso; omega) | (have ty := xB_th (W := 88) rp0_S1 rg_c3; have e7 := ty.2.2.2.2.2.2.1; rw [(rp1_S1.trans hpre1)] at e7; have t2 := xB_th (W := 88) rp0_S4 rg_c3; have f7 := t2.2.2.2.2.2.2.1; have hl := rp1_S4; rw [(rp1_S1.trans hpre1)] at hl; rw [hl, xu_s] at f7; have v7 := (n0_k rp3_S6 th_c3.1 (Or.inr rfl)).trans f7; have np := rp1_S6.1; rw [hl] at np; refine ⟨(rq_up rp3_S1 hpre1), Or.inl (by assumption), ?_, ?_⟩; (rw [np, if_neg (by assumption)]); (rw [if_neg (by assumption)]; exact v7)) | (have ty := xB_th (W := 88) rp0_S1 rg_c3; have e7 := ty.2.2.2.2.2.2.1; rw [(rp1_S1.trans hpre1)] at e7; have t2 := xB_th (W := 88) rp0_S4 rg_c3; have f7 := t2.2.2.2.2.2.2.1; have hl := rp1_S4; rw [(rp1_S1.trans hpre1)] at hl; rw [hl, xu_s] at f7; have v7 := (n0_k rp3_S6 th_c3.1 (Or.inr rfl)).trans f7; have np := rp1_S6.1; rw [hl] at np; refine ⟨(rq_up rp3_S1 hpre1), Or.inr (by rw [← e7]; assumption), ?_, ?_⟩; (rw [np, if_pos (by assumption)]); (rw [if_pos (by assumption)]; exact v7))) (show zfP 84 (mI S6) = fq from by first | (exact (rp2_S6.trans ((zf_fr (P := 84) (S₉ := S4) (S := S1) (fun _ => zG_z hL_S4 rfl)).trans ((zf_fr (P := 84) (S₉ := S1) (S := S) (fun _ => zG_z hL_S1 rfl)).trans hpre6)))))
    · skip
      have g22 := i_ne h18
      have li23 : (1 : Int32).toInt = 1 := rfl
      refine sp_97_69_sk (ab := (aS 88 S1)) (R := (mR S 70)) (W := 88) (y := (o)) (kk := (kC S1)) c3 ((1 : Int32)) (by omega) (by omega) (zB_dn_zI hI_S1) th_c3 (show xB S1 (mR S 70) from by first | (exact (xC_o (W := 75) rp0_S1).2)) (show aS 88 S1 = (aS 88 S1) from by first | (exact rfl)) (show xW 88 from by first | (exact xW88) | (exact xW75)) (show zTa (mR S 70) (o) = some c3 from by first | (exact rg_c3)) (show kC S1 = (kC S1) from by first | (exact rfl)) (fun S8 hL_S8 rp0_S8 rp1_S8 rp2_S8 => zv_n ⟨zG_T hL_S8, ?_⟩)
      have hI_S8 := zB_up_zI hI_S1 hL_S8
      have rp0_S8 : xB S8 (mR S 70) := by
        have z := rp0_S8
        (try rw [show mI S1 65 = f 65 from funext (fun k => zG_z hI_S1 rfl)] at z)
        (try rw [show mI S1 64 1 = f 64 1 from zG_z hI_S1 rfl] at z)
        exact z
      have rp1_S8 : aS 88 S8 = ma_u (aS 88 S1) 133 (o).toNatClampNeg ((aS 88 S1) 133 (o).toNatClampNeg + (1 : Int32)) := by
        have z := rp1_S8
        (try rw [show mI S1 65 = f 65 from funext (fun k => zG_z hI_S1 rfl)] at z)
        (try rw [show mI S1 64 1 = f 64 1 from zG_z hI_S1 rfl] at z)
        exact z
      have rp2_S8 : ∀ n, kC S8 n = (kC S1) n + (if n = (o).toNatClampNeg then (1 : Int32) else 0) := by
        have z := rp2_S8
        (try rw [show mI S1 65 = f 65 from funext (fun k => zG_z hI_S1 rfl)] at z)
        (try rw [show mI S1 64 1 = f 64 1 from zG_z hI_S1 rfl] at z)
        exact z
      refine sp_24_84_sk (ab := (aS 88 S8)) (W := 88) (kk := (kC S8)) (y := (o)) (B := (B + 1)) (fq := (zfP 84 (mI S8))) (n0 := (zN0 S8)) ((some c3)) (by omega) (by omega) (zB_dn_zJ84 hI_S8) (fun _ z => by cases z; exact th_c3) (show xB S8 (mR S8 70) from by first | (exact xB_x (xC_o (W := 88) rp0_S8).2)) (show aS 88 S8 = (aS 88 S8) from by first | (exact rfl)) (show xW 88 from by first | (exact xW88) | (exact xW75)) (show (some c3) = zTa (mR S8 70) (o) from by first | (rw [rp0_S8.1]; exact rg_c3.symm) | (exact rg_c3.symm)) (show kC S8 = (kC S8) from by first | (exact rfl)) (show cC (aS 88 S8) [] (kC S8) (B + 1) from by first | (have hl := rp1_S8; rw [(rp1_S1.trans hpre1)] at hl; have e7 := (xB_th (W := 88) rp0_S1 rg_c3).2.2.2.2.2.2.1; rw [(rp1_S1.trans hpre1)] at e7; rw [hl]; refine C_hx hpre2 (by have q := (rq_up rp3_S1 hpre1); exact al_of q) hpre3 (Or.inl rfl) (fun n => ?_); have q := rp2_S8 n; rw [rp4_S1] at q; exact q) | (exact absurd (show b = 0 by assumption) (show ¬ b = 0 by assumption))) (show cOk (aS 88 S8) (o) from by first | (have hl := rp1_S8; rw [(rp1_S1.trans hpre1)] at hl; rw [hl]; exact (cOk_cg (u_al (by decide))).mpr (Or.inr (by have q := (rq_up rp3_S1 hpre1); exact al_of q)))) (show (B + 1) ≤ 1000000 from by first | (exact hpre3)) (show zfP 84 (mI S8) = (zfP 84 (mI S8)) from by first | (exact rfl)) (show zN0 S8 = (zN0 S8) from by first | (exact rfl)) (fun S10 hL_S10 rp0_S10 rp1_S10 rp2_S10 rp3_S10 => zv_n ⟨zG_T hL_S10, ?_⟩)
      have hI_S10 := zB_up_zJ84 hI_S8 hL_S10
      have rp0_S10 : xB S10 (mR S10 70) := by
        have z := rp0_S10
        (try rw [show mI S8 65 = f 65 from funext (fun k => zG_z hI_S8 rfl)] at z)
        (try rw [show mI S8 64 1 = f 64 1 from zG_z hI_S8 rfl] at z)
        exact z
      have rp1_S10 : aS 88 S10 = cLe (aS 88 S8) (o) ∧ cC (aS 88 S10) [] (kC S10) (B + 1) := by
        have z := rp1_S10
        (try rw [show mI S8 65 = f 65 from funext (fun k => zG_z hI_S8 rfl)] at z)
        (try rw [show mI S8 64 1 = f 64 1 from zG_z hI_S8 rfl] at z)
        exact z
      have rp2_S10 : zfP 84 (mI S10) = (zfP 84 (mI S8)) := by
        have z := rp2_S10
        (try rw [show mI S8 65 = f 65 from funext (fun k => zG_z hI_S8 rfl)] at z)
        (try rw [show mI S8 64 1 = f 64 1 from zG_z hI_S8 rfl] at z)
        exact z
      have rp3_S10 : zN0 S10 = (zN0 S8) := by
        have z := rp3_S10
        (try rw [show mI S8 65 = f 65 from funext (fun k => zG_z hI_S8 rfl)] at z)
        (try rw [show mI S8 64 1 = f 64 1 from zG_z hI_S8 rfl] at z)
        exact z
      refine ⟨zG_n hI_S10 th_c3, ?_⟩
      have b24 := i_bd (mI S10 c3 7)
      exact K ((mI S10 c3 7)) _ hI_S10 trivial (show xB S10 (mR S10 70) from by first | (exact xB_x (xC_o (W := 75) rp0_S10).2)) (show cC (aS 88 S10) [] (kC S10) (B + 1) from by first | (exfalso; omega) | (exact rp1_S10.2)) (show zRq ab o ∧ (¬ b = 0 ∨ ¬ ab 133 o.toNatClampNeg = 0) ∧ aS 88 S10 = cLe (ma_u ab 133 o.toNatClampNeg (ab 133 o.toNatClampNeg + (if b = 0 then -1 else 1))) o ∧ (mI S10 c3 7) = ab 133 o.toNatClampNeg + (if b = 0 then -1 else 1) from by first | (exfalso; omega) | (have ty := xB_th (W := 88) rp0_S1 rg_c3; have e7 := ty.2.2.2.2.2.2.1; rw [(rp1_S1.trans hpre1)] at e7; have t2 := xB_th (W := 88) rp0_S8 rg_c3; have f7 := t2.2.2.2.2.2.2.1; have hl := rp1_S8; rw [(rp1_S1.trans hpre1)] at hl; rw [hl, xu_s] at f7; have v7 := (n0_k rp3_S10 th_c3.1 (Or.inr rfl)).trans f7; have np := rp1_S10.1; rw [hl] at np; refine ⟨(rq_up rp3_S1 hpre1), Or.inl (by assumption), ?_, ?_⟩; (rw [np, if_neg (by assumption)]); (rw [if_neg (by assumption)]; exact v7)) | (have ty := xB_th (W := 88) rp0_S1 rg_c3; have e7 := ty.2.2.2.2.2.2.1; rw [(rp1_S1.trans hpre1)] at e7; have t2 := xB_th (W := 88) rp0_S8 rg_c3; have f7 := t2.2.2.2.2.2.2.1; have hl := rp1_S8; rw [(rp1_S1.trans hpre1)] at hl; rw [hl, xu_s] at f7; have v7 := (n0_k rp3_S10 th_c3.1 (Or.inr rfl)).trans f7; have np := rp1_S10.1; rw [hl] at np; refine ⟨(rq_up rp3_S1 hpre1), Or.inr (by rw [← e7]; assumption), ?_, ?_⟩; (rw [np, if_pos (by assumption)]); (rw [if_pos (by assumption)]; exact v7))) (show zfP 84 (mI S10) = fq from by first | (exact (rp2_S10.trans ((zf_fr (P := 84) (S₉ := S8) (S := S1) (fun _ => zG_z hL_S8 rfl)).trans ((zf_fr (P := 84) (S₉ := S1) (S := S) (fun _ => zG_z hL_S1 rfl)).trans hpre6)))))

/-! from 95.m39 -/
/-! COUNTS, the class (written by wip/tools/gen20k.py) -/
/-! COUNTS: a cleaning keeps the counts right -/
section C8
variable {a b e : Nat → Nat → Int32} {K K₉ : Nat → Int32} {x y i d : Int32} {n m k c u : Nat} {B : Int}
theorem Of_8 (h : zOf a b) : zO8 a b := fun c k h1 h2 h3 _ => h c k h1 h2 h3
theorem sp_zo {f : Nat} : zOf a (aSp f a) := fun c k h1 h2 h3 => (aSp_o ⟨h1, h2, h3⟩ f a).symm
theorem O8_sy (h : zO8 a b) : zO8 b a := fun c k h1 h2 h3 h4 => (h c k h1 h2 h3 h4).symm
theorem T_o8 {P : Nat} {S : ma_S} : zO8 (aT P S) (aS 75 S) := fun c k _ _ _ h4 => if_neg h4
theorem o8_r (o : zO8 a b) (h1 : c ≠ 75) (h2 : c ≠ 76) (h3 : c ≠ 77) (h4 : c ≠ 87) : a c = b c := funext (fun k => o c k h1 h2 h3 h4)
theorem o8_al (o : zO8 a b) : xAl a = xAl b := by
  funext n
  unfold xAl
  rw [o8_r o (by decide) (by decide) (by decide) (by decide)]
theorem cQ_o8 (o : zO8 a b) (h : cQI a) : cQI b := by
  obtain ⟨h1, h2, h3⟩ := h
  refine ⟨?_, ?_, fun n hn k => ?_⟩
  · rw [← o8_al o, ← o8_r (c := 130) o (by decide) (by decide) (by decide) (by decide), ← o8_r (c := 128) o (by decide) (by decide) (by decide) (by decide)]
    exact h1
  · unfold qI2
    rw [← o8_al o, ← o8_r (c := 130) o (by decide) (by decide) (by decide) (by decide), ← o8_r (c := 128) o (by decide) (by decide) (by decide) (by decide)]
    exact h2
  · rw [← o8_al o] at hn
    rw [← o8_r (c := 1000 + n) o (by omega) (by omega) (by omega) (by omega)]
    exact h3 n hn k
theorem J_o8 (o : zO8 a b) (h : kJ a K) : kJ b K := by
  obtain ⟨q1, q5, qk⟩ := h
  refine ⟨cQ_o8 o q1, ?_, fun n hn => ?_⟩
  · rw [← o 69 5 (by decide) (by decide) (by decide) (by decide)]
    exact q5
  · rw [← o8_al o] at hn
    rw [← Rf_o8 o]
    exact qk n hn
theorem J_gr (h : kJ a K) (hK : ∀ n, xAl a n → K₉ n = K n + (if (a 69 5).toInt < 512 then Int32.ofNat (cIs y n) else 0)) : kJ (aGr a y) K₉ := by
  obtain ⟨q1, q5, qk⟩ := h
  refine ⟨cQ_gr q1, ?_, fun n hn => ?_⟩
  · by_cases w : (a 69 5).toInt < 512
    · obtain ⟨g1, _⟩ := gr_5 (y := y) w
      have e1 := i_p1 (i := a 69 5) (by omega)
      rw [g1]
      omega
    · rw [(gr_n5 (y := y) w).1]
      exact q5
  · rw [gr_al] at hn
    rw [hK n hn, qk n hn]
    by_cases w : (a 69 5).toInt < 512
    · rw [if_pos w, Rf_gr q5.1 w, Int32.ofInt_add, Int32.ofInt_eq_ofNat]
    · rw [if_neg w, Rf_gn w, Int32.add_zero]
theorem J_rm (h : kJ a K) (h0 : 0 ≤ y.toInt) (hy : xAl a y.toNatClampNeg) (hK : ∀ n, xAl a n → n ≠ y.toNatClampNeg → K₉ n = K n - Int32.ofNat (cOb a y.toNatClampNeg n)) : kJ (aRm a y) K₉ := by
  obtain ⟨q1, q5, qk⟩ := h
  refine ⟨cQ_rm h0 q1, ?_, fun n hn => ?_⟩
  · rw [aRm_o (by decide) ⟨by decide, by decide, by decide, by decide⟩]
    exact q5
  · have w := (rm_al h0).mp hn
    have r := Rf_rm q1 h0 hy w.2
    rw [hK n w.1 w.2, qk n w.1, ← Int32.ofInt_eq_ofNat (n := cOb a y.toNatClampNeg n), ← Int32.ofInt_sub]
    exact congrArg Int32.ofInt (by omega)
theorem C_J (h : cC a [] K B) : kJ a K := by
  obtain ⟨q1, _, _, q5, qk⟩ := C0_un h
  exact ⟨q1, q5, qk⟩
theorem Nd_o8 (o : zO8 a b) (h : cNd a) : cNd b := by
  obtain ⟨n1, n2, n3⟩ := h
  have al := o8_al o
  refine ⟨fun k hk => ?_, fun k hk => ?_, fun u j w => ?_⟩
  · rw [← o 72 k (by decide) (by decide) (by decide) (by decide), ← cOk_cg al]
    exact n1 k hk
  · rw [← o 69 5 (by decide) (by decide) (by decide) (by decide)] at hk
    rw [← o 74 k (by decide) (by decide) (by decide) (by decide), ← cOk_cg al]
    exact n2 k hk
  · have rf : aRef b u j = aRef a u j := (rf_cg (o8_r o (by omega) (by omega) (by omega) (by omega)) (o8_r o (by decide) (by decide) (by decide) (by decide)) (o8_r o (by decide) (by decide) (by decide) (by decide))).symm
    rw [rf, ← cOk_cg al]
    refine n3 u j ?_
    unfold qWp at w ⊢
    rw [al, o8_r (c := 128) o (by decide) (by decide) (by decide) (by decide)]
    exact w
theorem Nd_gr (h : cNd a) (h5 : 0 ≤ (a 69 5).toInt) (hy : xAl a y.toNatClampNeg) : cNd (aGr a y) := by
  obtain ⟨n1, n2, n3⟩ := h
  have al := gr_al (a := a) (y := y)
  refine ⟨fun k hk => ?_, fun k hk => ?_, fun u j h => ?_⟩
  · rw [gr_r (by decide) (by decide) (by decide) (by decide), cOk_cg al]
    exact n1 k hk
  · rw [cOk_cg al]
    by_cases w : (a 69 5).toInt < 512
    · obtain ⟨g1, g2, g3, _⟩ := gr_5 (y := y) w
      have e1 := i_p1 (i := a 69 5) (by omega)
      have c := tn_cast h5
      by_cases z : k = (a 69 5).toNatClampNeg
      · rw [z, g2]
        exact Or.inr hy
      · rw [g3 k z]
        rw [g1, e1] at hk
        exact n2 k (by omega)
    · have g := gr_n5 (y := y) w
      rw [g.2]
      rw [g.1] at hk
      exact n2 k hk
  · rw [gr_ref, cOk_cg al]
    exact n3 u j (Wp_gr.mp h)
theorem Cl_n2 (h : qCl b) (hE : qE0 b) (h5 : ¬ (b 69 5).toInt < 512) (hy : xAl b y.toNatClampNeg) (hy0 : 0 ≤ y.toInt) : qCl (aSp 512 (aCm (aGr b y) y)) := by
  have hc := E0_gr (y := y) hE
  have g := gr_cm (y := y) hc.1
  have al : xAl (aGr b y) = xAl b := gr_al
  have sp := E0_sp g.1
  have o : zOf (aGr b y) (aSp 512 (aCm (aGr b y) y)) := Of_tr g.2.1 sp.2
  have nn : ∀ x, zNn (aSp 512 (aCm (aGr b y) y)) x ↔ zM (fun u => zNn b u ∨ u = y.toNatClampNeg) (zNn b) (zEd b) x := fun x => by
    refine (sp_Nn g.1).trans (zM_cg (fun u => ?_) (fun u => (g.2.2.1 u).trans ((E0_bl hc).trans (by rw [Nn_gr]))) (fun u y2 => (Of_ed g.2.1).trans gr_ed))
    rw [g.2.2.2.1 u, Nn_gr, al]
    constructor
    · rintro (w | w)
      · exact Or.inl w
      · refine Or.inr ?_
        rw [w.2]
        exact (tn_of w.1.1).symm
    · rintro (w | w)
      · exact Or.inl w
      · refine Or.inr ⟨?_, ?_⟩
        · rw [w]
          exact hy
        · rw [w]
          exact (ofN_tn hy0).symm
  have q5 := gr_n5 (y := y) h5
  refine ⟨fun u hu hr => ?_, fun u v hu ha he => ?_⟩
  · rw [← Al_of o, al] at hu
    rw [nn]
    have e2 := Of_r (c := 72) o (by decide) (by decide) (by decide)
    have e4 := Of_r (c := 74) o (by decide) (by decide) (by decide)
    have e9 := Of_r (c := 69) o (by decide) (by decide) (by decide)
    unfold zRl zWl at hr
    rw [← e2, ← e4, ← e9, gr_r (n := 72) (by decide) (by decide) (by decide) (by decide), q5.1, q5.2] at hr
    exact zM_in (Or.inl (h.1 u hu hr))
  · rw [nn] at hu ⊢
    rw [← Al_of o, al] at ha
    have he2 := gr_ed.mp ((Of_ed o).mp he)
    by_cases z : zNn b u
    · exact zM_in (Or.inl (h.2 u v z ha he2))
    · exact zM_cl hu z he2
theorem Gf_all : ∀ (f : Nat) (x : Int32) (a : Nat → Nat → Int32), qI a → qE0 a → qCl a → cNd a → qI (aGf f x a) ∧ qE0 (aGf f x a) ∧ qCl (aGf f x a) ∧ cNd (aGf f x a) ∧ aGf f x a 133 = a 133 := by
  intro f
  induction f with
  | zero => intro x a h h2 h3 h4; exact ⟨h, h2, h3, h4, rfl⟩
  | succ f ih =>
    intro x a h h2 h3 h4
    by_cases w : aGc a x
    · rw [aGf_y w]
      have hx : xAl a x.toNatClampNeg := ⟨by have c := tn_cast w.1; have := w.2.1; omega, w.2.2.1⟩
      have h5 := h.2.2.2.1.2.1
      have s := E0_sp (WQ_cm (y := x) (E0_gr (y := x) h2).1)
      have o : zOf (aGr a x) (aSp 512 (aCm (aGr a x) x)) := Of_tr cm_of s.2
      have cl : qCl (aSp 512 (aCm (aGr a x) x)) := by
        by_cases z : (a 69 5).toInt < 512
        · exact Cl_nx h3 h2 z h5.1 hx w.1
        · exact Cl_n2 h3 h2 z hx w.1
      have r := ih (x + 1) _ (qI_of (I_gr2 h) o) s.1 cl (Nd_o8 (Of_8 o) (Nd_gr h4 h5.1 hx))
      refine ⟨r.1, r.2.1, r.2.2.1, r.2.2.2.1, r.2.2.2.2.trans ?_⟩
      rw [← Of_r (c := 133) o (by decide) (by decide) (by decide)]
      exact gr_r (by decide) (by decide) (by decide) (by decide)
    · rw [aGf_n w]
      exact ih _ _ h h2 h3 h4
theorem Gw_126 : ∀ (f : Nat) (x : Int32) (a : Nat → Nat → Int32), aGf f x a 126 = a 126 := by
  intro f
  induction f with
  | zero => intro x a; rfl
  | succ f ih =>
    intro x a
    by_cases w : aGc a x
    · rw [aGf_y w, ih]
      funext k
      rw [show aSp 512 (aCm (aGr a x) x) 126 k = aCm (aGr a x) x 126 k from aSp_o ⟨by decide, by decide, by decide⟩ 512 _, aCm_o ⟨by decide, by decide, by decide⟩]
      exact congrFun (gr_r (by decide) (by decide) (by decide) (by decide)) k
    · rw [aGf_n w]
      exact ih _ _
theorem Nd_sw (hI : qI a) (h : cNd a) : cNd (aSw a) ∧ ∀ n, xAl (aSw a) n → xAl a n ∧ aSw a 133 n = a 133 n := by
  have o : zOf a (aRA a) := RA_zo
  have g := Gf_all ((aRA a 69 6).toInt - (0 : Int32).toInt).toNat 0 (aRA a) (qI_of hI o) (E0_ra hI) (Cl_ra hI) (Nd_o8 (Of_8 o) h)
  have hb : aGw (aRA a) 0 = aGf ((aRA a 69 6).toInt - (0 : Int32).toInt).toNat 0 (aRA a) := rfl
  rw [← hb] at g
  unfold aSw
  generalize hB : aGw (aRA a) 0 = b at g ⊢
  obtain ⟨gI, gE, gC, ⟨n1, n2, n3⟩, g133⟩ := g
  have hw : (b 75 5).toInt ≤ 0 := gE.1.2.2.2.2.2.1
  have M := Md_mv gI hw
  have al : ∀ n, xAl (aMv b 0) n ↔ xAl b n ∧ b 77 n ≠ 0 := fun n => Md_al gI M
  have hIe := I_mv gI hw
  refine ⟨⟨fun k hk => ?_, fun k hk => ?_, fun u j w => ?_⟩, fun n hn => ?_⟩
  · rw [M.2.1.1 72 (by decide) (by decide) (by decide) (by decide)]
    by_cases z : (b 72 k).toInt < 0
    · exact Or.inl z
    · have q := (n1 k hk).elim (fun w => absurd w z) id
      exact Or.inr ((al _).mpr ⟨q, (gC.1 _ q (Or.inl ⟨k, hk, (ofN_tn (by omega)).symm⟩)).2⟩)
  · rw [M.2.1.2.1] at hk
    rw [M.2.1.1 74 (by decide) (by decide) (by decide) (by decide)]
    by_cases z : (b 74 k).toInt < 0
    · exact Or.inl z
    · have q := (n2 k hk).elim (fun w => absurd w z) id
      exact Or.inr ((al _).mpr ⟨q, (gC.1 _ q (Or.inr ⟨k, hk, (ofN_tn (by omega)).symm⟩)).2⟩)
  · have wa := (al u).mp w.1
    have f := Md_f M wa.1.1 wa.2
    have wb : qWp b u j := ⟨wa.1, w.2.1, by rw [← f.1 128 (by decide) (by decide)]; exact w.2.2⟩
    have q := cwp_i (cQ_I gI) wb
    have cq := tn_cast q.2.1
    have wj := wb.2
    have e : aRef (aMv b 0) u j = aRef b u j := by
      rw [wp_rf hIe w, wp_rf gI wb, f.2, f.1 130 (by decide) (by decide), Md_w gI M wa.1 wa.2 (p := (b 130 u + 1 + j).toNatClampNeg) (by omega) (by omega)]
    rw [e]
    by_cases z : (aRef b u j).toInt < 0
    · exact Or.inl z
    · have q := (n3 u j wb).elim (fun w => absurd w z) id
      exact Or.inr ((al _).mpr ⟨q, (gC.2 u _ ⟨wa.1.1, wa.2⟩ wa.1 ⟨q, j, wb.2.1, wb.2.2, (ofN_tn (by omega)).symm⟩).2⟩)
  · have wa := (al n).mp hn
    have f := Md_f M wa.1.1 wa.2
    refine ⟨?_, ?_⟩
    · have e126 : b 126 = a 126 := by
        rw [← hB]
        exact (Gw_126 ((aRA a 69 6).toInt - (0 : Int32).toInt).toNat 0 (aRA a)).trans (Of_r (c := 126) o (by decide) (by decide) (by decide)).symm
      exact ⟨wa.1.1, by rw [← e126]; exact wa.1.2⟩
    · rw [f.1 133 (by decide) (by decide), g133]
      exact congrFun (Of_r (c := 133) o (by decide) (by decide) (by decide)).symm n
theorem C_sw (hI : qI a) (h : cC a [] K B) (hJ : kJ (aSw a) K₉) : cC (aSw a) [] K₉ B := by
  obtain ⟨q1, q2, q3, q5, qk⟩ := C0_un h
  have s := Nd_sw hI q2
  refine C0_mk hJ.1 s.1 (fun n hn => ?_) hJ.2.1 hJ.2.2
  have w := s.2 n hn
  rw [w.2]
  exact q3 n w.1
end C8

