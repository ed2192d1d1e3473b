/-! from 95.u24 -/
/-! AGES, the class (written by wip/tools/gen15y.py) -/
/-! AGES: the class's cleanings, put together -/
section F28
variable {a b c ab : Nat → Nat → Int32} {S S0 S1 S2 S3 S4 S5 S6 S7 S8 T0 T1 T2 T3 T4 T5 T6 T7 T8 : ma_S} {x y v w lm : Int32} {n k : Nat} {z : Int}
theorem I_aM (h : qI (aG S)) : qI (aM (zfG (mI S)) S) := I_cg h (G_aM (by decide)).symm (G_aM (by decide)).symm (G_aM (by decide)).symm (G_aM (by decide)).symm (G_aM (by decide)).symm (G_aM (by decide)).symm (fun j => (G_aM (by omega)).symm)
theorem Ma_e (hv : qAv a) (g0 : aG S = a) (sw : aS 75 S3 = aSw (aS 75 S)) (e1 : mI S3 82 = mI S 82) (e2 : mI S3 83 = mI S 83) (sd : aM (zfG (mI S3)) S4 = (zSd (aM (zfG (mI S3)) S3) lm.toInt 0 0).1) (sv : v.toInt = (zSd (aM (zfG (mI S3)) S3) lm.toInt 0 0).2) (hl : lm = mI S 82 3) (f1 : mI S4 82 = mI S3 82) (f2 : mI S4 83 = mI S3 83) : ma_u (aG S4) 87 10 v = ma_u (gSd a).1 87 10 (Int32.ofInt (gSd a).2) := by
  have g3 := G_sw sw e1 e2
  rw [g0] at g3
  have g4 := G_sd (lim := lm.toInt) sd (by rw [g3]; exact S1_I (I_sw hv.1)) f1 f2
  have l9 : lm.toInt = (a 87 9).toInt := by
    rw [hl, ← g0]
    rfl
  rw [g3, l9] at g4
  rw [l9] at sv
  have e : zSd (aSw a) (a 87 9).toInt 0 0 = gSd a := rfl
  rw [e] at g4
  rw [g4.1, ← g4.2, ← sv, Int32.ofInt_toInt]
theorem Qsd (hv : qAv a) (g0 : aG S = a) (sw : aS 75 S3 = aSw (aS 75 S)) (e1 : mI S3 82 = mI S 82) (e2 : mI S3 83 = mI S 83) : qI (aM (zfG (mI S3)) S3) := by
  have g3 := G_sw sw e1 e2
  rw [g0] at g3
  exact I_aM (by rw [g3]; exact I_sw hv.1)
theorem Mk_e (g0 : aG T0 = c) (r1 : aS 75 T1 = aWh (aS 75 T0) x) (hx : x = mI T0 82 3) (r2 : aS 75 T2 = aRo (aS 75 T1) 0) (r3 : aG T3 = gDp (aG T2) (aG T2 87 10).toInt 0) (r4 : aS 75 T4 = aSp 512 (aS 75 T3)) (r5 : aS 75 T5 = aGw (aS 75 T4) 0) (r6 : aS 75 T6 = aMv (aS 75 T5) 0) (a1 : mI T1 82 = mI T0 82) (b1 : mI T1 83 = mI T0 83) (a2 : mI T2 82 = mI T1 82) (b2 : mI T2 83 = mI T1 83) (a4 : mI T4 82 = mI T3 82) (b4 : mI T4 83 = mI T3 83) (a5 : mI T5 82 = mI T4 82) (b5 : mI T5 83 = mI T4 83) (a6 : mI T6 82 = mI T5 82) (b6 : mI T6 83 = mI T5 83) : aG T2 = aRo (aWh c (c 87 9)) 0 ∧ aG T5 = gKp c ∧ aG T6 = gMk0 c := by
  have g1 := G_wh r1 a1 b1
  have g2 := G_ro r2 a2 b2
  have g4 := G_sp r4 a4 b4
  have g5 := G_gw r5 a5 b5
  have g6 := G_mv r6 a6 b6
  have hx9 : x = c 87 9 := by
    rw [hx, ← g0]
    rfl
  rw [g0, hx9] at g1
  rw [g1] at g2
  have e10 : aG T2 87 10 = c 87 10 := by
    rw [g2, aRo_o ⟨by decide, by decide, by decide⟩, wh_9 (by decide)]
  have k5 : aG T5 = gKp c := by
    rw [g5, g4, r3, e10, g2]
    rfl
  exact ⟨g2, k5, by rw [g6, k5]; rfl⟩
theorem S1_t2 (hv : qAv c) (h : aG T2 = aRo (aWh c (c 87 9)) 0) : zS1 (aG T2) := by
  rw [h]
  refine S1_I (qI_of hv.1 (Of_tr wh_of (fun c₉ k₉ q1 q2 q3 => (aRo_o ⟨q1, q2, q3⟩).symm)))
theorem T2_e (g0 : aG T0 = c) (r1 : aS 75 T1 = aWh (aS 75 T0) x) (hx : x = mI T0 82 3) (r2 : aS 75 T2 = aRo (aS 75 T1) 0) (a1 : mI T1 82 = mI T0 82) (b1 : mI T1 83 = mI T0 83) (a2 : mI T2 82 = mI T1 82) (b2 : mI T2 83 = mI T1 83) : aG T2 = aRo (aWh c (c 87 9)) 0 := by
  have g1 := G_wh r1 a1 b1
  have g2 := G_ro r2 a2 b2
  have hx9 : x = c 87 9 := by
    rw [hx, ← g0]
    rfl
  rw [g0, hx9] at g1
  rw [g1] at g2
  exact g2
theorem Mf_I (hv : qAv c) (hf : ¬ gFu c) : qI (gMf (gMk0 c 75 4).toInt.toNat 0 (gM9 (gMk0 c))) ∧ gFd (gMf (gMk0 c 75 4).toInt.toNat 0 (gM9 (gMk0 c))) = gMv c := by
  have j := Jg_0 hv hf
  have q4 := j.2.1.2.2.2
  have e := gMf_J (gMk1 c 75 4).toInt.toNat 0 (gMk1 c) j (by omega)
  have r75 : gMk1 c 75 = gMk0 c 75 := by
    unfold gMk1
    rw [ma_u_ne _ _ _ (by decide), ma_u_ne _ _ _ (by decide)]
  rw [← M9_e, ← r75]
  exact ⟨e.1, rfl⟩
theorem J9 (hv : qAv c) (hf : ¬ gFu c) (h : aG T6 = gMk0 c) : qJg (gM9 (aG T6)) (2 * (c 87 9).toInt + (c 87 5).toInt - (c 87 3).toInt) (c 87 3).toInt (c 87 10).toInt (gPf (gMk1 c)) (gNf (gMk1 c)) 0 := by
  rw [h, ← M9_e]
  exact Jg_0 hv hf
theorem M0_y (h : gFu a) : gM0 a = gMa a ∧ gV0 a = aSv a := ⟨if_pos h, if_pos h⟩
theorem M0_n (h : ¬ gFu a) : gM0 a = a ∧ gV0 a = 0 := ⟨if_neg h, if_neg h⟩
theorem Mi_y (h : gFu (gM0 a)) : gMi a = gM0 a ∧ gVi a = gV0 a := ⟨if_pos h, if_pos h⟩
theorem Mi_n (h : ¬ gFu (gM0 a)) : gMi a = gMv (gM0 a) ∧ gVi a = gV0 a + (gMk0 (gM0 a) 69 11 - gKp (gM0 a) 69 11) := ⟨if_neg h, if_neg h⟩
/-! room -/
theorem R1_gy (h : gHs a z) : gR1 a z = a := if_pos h
theorem R1_gn (h : ¬ gHs a z) : gR1 a z = gMi a := if_neg h
theorem R2_gy (h : gHs a z) : gR2 a z = a := if_pos h
theorem R2_gn (h : ¬ gHs a z) : gR2 a z = gMi (gMa a) := if_neg h
theorem gRo_y (h : (a 87 9).toInt < (a 87 10).toInt + z) : gRo a z = gMa a := if_pos h
theorem Ro_n (h : ¬ (a 87 9).toInt < (a 87 10).toInt + z) : gRo a z = a := if_neg h
theorem Rs_go (h : (a 87 5).toInt / 2 < z) (e : gRo a z = b) : gRs a z = b ∧ ((b 87 9).toInt < (b 87 10).toInt + z → gRp a z = -1) ∧ (¬ (b 87 9).toInt < (b 87 10).toInt + z → gRp a z = (b 87 10).toInt) := by
  have r : gRs a z = b := by
    unfold gRs
    rw [if_pos h, e]
  refine ⟨r, fun w => ?_, fun w => ?_⟩
  · unfold gRp
    rw [if_pos h, r, if_pos w]
  · unfold gRp
    rw [if_pos h, r, if_neg w]
theorem Rs_gy (h : ¬ (a 87 5).toInt / 2 < z) (e1 : gR1 a z = c) (e : gR2 c z = b) : gRs a z = b ∧ (gHs b z → gRp a z = (b 87 4).toInt) ∧ (¬ gHs b z → gRp a z = -1) := by
  have r : gRs a z = b := by
    unfold gRs
    rw [if_neg h, e1, e]
  refine ⟨r, fun w => ?_, fun w => ?_⟩
  · unfold gRp
    rw [if_neg h, r]
    exact if_pos w
  · unfold gRp
    rw [if_neg h, r]
    exact if_neg w
end F28
theorem g_5_82_sy_0 {X : Nat × (Nat → Int32)} {d w : Nat} {S : ma_S} {Q : Option ma_V ⊕ Nat → ma_S → Prop}  (hd : 3 ≤ d) (hw : 138 ≤ w) (hS : zT S) (h : ma_wp X (d - 1) (w - 20) 116 0 [(0, .inr (.inr (some 75)))] [] S (zv (fun S1 => zT S1 ∧ (ma_wp X (d - 1) (w - 23) 83 0 [(0, .inr (.inr (some 69))), (1, .inr (.inr (some 75)))] [] S1 (zv (fun S3 => zT S3 ∧ (ma_wp X (d - 1) (w - 24) 86 0 [(0, .inr (.inr (some 69))), (1, .inr (.inr (some 75)))] [] S3 (zi (fun v6 S5 => zT S5 ∧ (ma_wp X (d - 1) (w - 24) 263 0 [(0, .inr (.inr (some 82))), (1, .inl (mI S5 82 3))] [] S5 (zi (fun v8 S7 => zT S7 ∧ (ma_wp X (d - 1) (w - 23) 6 0 [(0, .inr (.inr (some 82)))] [] (ma_put S7 82 6 (.inl v8)) (zv (fun S9 => zT S9 ∧ (Q (.inl (some (.inl v6))) S9)) (fun x S9 => Q (.inr x) S9)))) (fun _ _ => False)))) (fun x S9 => Q (.inr x) S9)))) (fun x S9 => Q (.inr x) S9)))) (fun x S9 => Q (.inr x) S9))) : ma_wp X d w 5 0 [(0, .inr (.inr (some 82)))] [] S Q := by
  refine zw_push hm_5 dX0_cleanOld_0 (v := .inr (.inr (some 82))) rfl ?_
  refine zw_gf hm_5 dX0_cleanOld_1 (v := .inr (.inr (some 75))) (zT_is hS s_82) (zT_t hS s_82) rfl f_1_70_1 (zT_f hS r_82_1) ?_
  refine zw_cv hm_5 dX0_cleanOld_4 v_1_74_10 hm_116 [] [] rfl (zT_rt hS s_75 rfl) ⟨by omega, by omega⟩ rfl (zw_mono h (zv_go ?_ ?_))
  · intro S1 hv
    obtain ⟨hS1, h⟩ := hv
    refine zw_push hm_5 dX0_cleanOld_7 (v := .inr (.inr (some 82))) rfl ?_
    refine zw_gf hm_5 dX0_cleanOld_8 (v := .inr (.inr (some 69))) (zT_is hS1 s_82) (zT_t hS1 s_82) rfl f_1_80_1 (zT_f hS1 r_82_0) ?_
    refine zw_push hm_5 dX0_cleanOld_11 (v := .inr (.inr (some 82))) rfl ?_
    refine zw_gf hm_5 dX0_cleanOld_12 (v := .inr (.inr (some 75))) (zT_is hS1 s_82) (zT_t hS1 s_82) rfl f_1_70_1 (zT_f hS1 r_82_1) ?_
    refine zw_cv hm_5 dX0_cleanOld_15 v_1_84_7 hm_83 [.inr (.inr (some 75))] [] rfl (zT_rt hS1 s_69 rfl) ⟨by omega, by omega⟩ rfl (zw_mono h (zv_go ?_ ?_))
    · intro S3 hv
      obtain ⟨hS3, h⟩ := hv
      refine zw_push hm_5 dX0_cleanOld_18 (v := .inr (.inr (some 82))) rfl ?_
      refine zw_gf hm_5 dX0_cleanOld_19 (v := .inr (.inr (some 69))) (zT_is hS3 s_82) (zT_t hS3 s_82) rfl f_1_80_1 (zT_f hS3 r_82_0) ?_
      refine zw_push hm_5 dX0_cleanOld_22 (v := .inr (.inr (some 82))) rfl ?_
      refine zw_gf hm_5 dX0_cleanOld_23 (v := .inr (.inr (some 75))) (zT_is hS3 s_82) (zT_t hS3 s_82) rfl f_1_70_1 (zT_f hS3 r_82_1) ?_
      refine zw_cv hm_5 dX0_cleanOld_26 v_1_90_7 hm_86 [.inr (.inr (some 75))] [] rfl (zT_rt hS3 s_69 rfl) ⟨by omega, by omega⟩ rfl (zw_mono h (zi_go ?_ ?_))
      · intro v6 S5 hv
        obtain ⟨hS5, h⟩ := hv
        refine zw_sto hm_5 dX0_cleanOld_29 [(1, .inl v6), (0, .inr (.inr (some 82)))] rfl rfl rfl ?_
        refine zw_push hm_5 dX0_cleanOld_30 (v := .inr (.inr (some 82))) rfl ?_
        refine zw_push hm_5 dX0_cleanOld_31 (v := .inr (.inr (some 82))) rfl ?_
        refine zw_push hm_5 dX0_cleanOld_32 (v := .inr (.inr (some 82))) rfl ?_
        refine zw_gf hm_5 dX0_cleanOld_33 (v := .inl (mI S5 82 3)) (zT_is hS5 s_82) (zT_t hS5 s_82) rfl f_1_19_1 rfl ?_
        refine zw_cv hm_5 dX0_cleanOld_36 v_1_94_1 hm_263 [.inl (mI S5 82 3)] [.inr (.inr (some 82))] rfl (zT_rt hS5 s_82 rfl) ⟨by omega, by omega⟩ rfl (zw_mono h (zi_go ?_ ?_))
        · intro v8 S7 hv
          obtain ⟨hS7, h⟩ := hv
          refine zw_pf hm_5 dX0_cleanOld_39 (zT_is hS7 s_82) (zT_t hS7 s_82) p_1_28_1 zk_int ?_
          refine zw_push hm_5 dX0_cleanOld_42 (v := .inr (.inr (some 82))) rfl ?_
          refine zw_cv hm_5 dX0_cleanOld_43 v_1_97_1 hm_6 [] [] rfl (zT_rt (zT_pi hS7) s_82 rfl) ⟨by omega, by omega⟩ rfl (zw_mono h (zv_go ?_ ?_))
          · intro S9 hv
            obtain ⟨hS9, h⟩ := hv
            refine zw_push hm_5 dX0_cleanOld_46 (v := .inl v6) rfl ?_
            exact zw_iret hm_5 dX0_cleanOld_47 h
          · intro x S9 hx
            exact ⟨by decide, hx⟩
        · intro x S9 hx
          exact hx.elim
      · intro x S9 hx
        exact ⟨by decide, hx⟩
    · intro x S9 hx
      exact ⟨by decide, hx⟩
  · intro x S9 hx
    exact ⟨by decide, hx⟩
theorem sp_5_82_sy {X : Nat × (Nat → Int32)} {d w : Nat} {f : Nat → Nat → Int32} {r : Nat → Nat → Option Nat} {C Z N : Nat} {Q : Option ma_V ⊕ Nat → ma_S → Prop} {ab : Nat→Nat→Int32} {S : ma_S}  (hd : 3 ≤ d) (hw : 138 ≤ w) (hI : zJ82 f r C Z N S) (hpre0 : xB S (mR S 70)) (hpre1 : aG S = ab) (hpre2 : qAv ab) (K : ∀ v S₉, zJ82 f r C Z N S₉ → (True) → (xB S₉ (mR S₉ 70)) → (aG S₉ = gMa ab ∧ v = aSv ab) → Q (.inl (some (.inl v))) S₉) : ma_wp X d w 5 0 [(0, .inr (.inr (some 82)))] [] S Q := by
  refine g_5_82_sy_0  (by omega) (by omega) (zG_T hI) ?_
  refine sp_116_75_s (ab := (aS 75 S)) (R := (mR S 70)) (a8 := (aS 88 S)) (by omega) (by omega) (zJ82_dn hI) (show xB S (mR S 70) from by first | (exact xB_x (xC_o (W := 75) hpre0).2)) (show aS 75 S = (aS 75 S) from by first | (exact rfl)) (show aS 88 S = (aS 88 S) from by first | (exact rfl)) (fun S1 hL_S1 rp0_S1 rp1_S1 rp2_S1 => zv_n ⟨zG_T hL_S1, ?_⟩)
  have hI_S1 := zJ82_up hI hL_S1
  have rp0_S1 : xB S1 (mR S 70) := by
    have z := rp0_S1
    (try rw [show mI S 65 = f 65 from funext (fun k => zG_z hI rfl)] at z)
    (try rw [show mI S 64 1 = f 64 1 from zG_z hI rfl] at z)
    exact z
  have rp1_S1 : aS 75 S1 = aSp 512 (aRo (aWh (aS 75 S) 0) 0) := by
    have z := rp1_S1
    (try rw [show mI S 65 = f 65 from funext (fun k => zG_z hI rfl)] at z)
    (try rw [show mI S 64 1 = f 64 1 from zG_z hI rfl] at z)
    exact z
  have rp2_S1 : aS 88 S1 = (aS 88 S) := by
    have z := rp2_S1
    (try rw [show mI S 65 = f 65 from funext (fun k => zG_z hI rfl)] at z)
    (try rw [show mI S 64 1 = f 64 1 from zG_z hI rfl] at z)
    exact z
  refine sp_83_69_75_s (ab := (aS 75 S1)) (R := (mR S1 70)) (by omega) (by omega) (zJ82_dn hI_S1) (show xB S1 (mR S1 70) from by first | (exact xB_x (xC_o (W := 75) rp0_S1).2)) (show aS 75 S1 = (aS 75 S1) from by first | (exact rfl)) (fun S3 hL_S3 rp0_S3 rp1_S3 => zv_n ⟨zG_T hL_S3, ?_⟩)
  have hI_S3 := zJ82_up hI_S1 hL_S3
  have rp0_S3 : xB S3 (mR S1 70) := by
    have z := rp0_S3
    (try rw [show mI S1 65 = f 65 from funext (fun k => zG_z hI_S1 rfl)] at z)
    (try rw [show mI S1 64 1 = f 64 1 from zG_z hI_S1 rfl] at z)
    exact z
  have rp1_S3 : aS 75 S3 = aGw (aS 75 S1) 0 := by
    have z := rp1_S3
    (try rw [show mI S1 65 = f 65 from funext (fun k => zG_z hI_S1 rfl)] at z)
    (try rw [show mI S1 64 1 = f 64 1 from zG_z hI_S1 rfl] at z)
    exact z
  refine sp_86_69_75_s (ab := (aS 75 S3)) (by omega) (by omega) (zJ82_dn hI_S3) (show xB S3 (mR S3 70) from by first | (exact xB_x (xC_o (W := 75) rp0_S3).2)) (show aS 75 S3 = (aS 75 S3) from by first | (exact rfl)) (fun v6 S5 hL_S5 hp_v6 rp0_S5 rp1_S5 => zi_n ⟨zG_T hL_S5, ?_⟩)
  have hI_S5 := zJ82_up hI_S3 hL_S5
  have rp0_S5 : xB S5 (mR S5 70) := by
    have z := rp0_S5
    (try rw [show mI S3 65 = f 65 from funext (fun k => zG_z hI_S3 rfl)] at z)
    (try rw [show mI S3 64 1 = f 64 1 from zG_z hI_S3 rfl] at z)
    exact z
  have rp1_S5 : aS 75 S5 = aMv (aS 75 S3) 0 ∧ v6 = aMv (aS 75 S3) 0 69 11 - (aS 75 S3) 69 11 := by
    have z := rp1_S5
    (try rw [show mI S3 65 = f 65 from funext (fun k => zG_z hI_S3 rfl)] at z)
    (try rw [show mI S3 64 1 = f 64 1 from zG_z hI_S3 rfl] at z)
    exact z
  have x1 : (mI S 82 3).toInt ≤ (mI S 82 7).toInt ∧ (mI S 82 7).toInt ≤ (mI S 82 3).toInt + (mI S 82 2).toInt := zG_x hI
  have f2 := zG_s hI (0) (1500) (c := 82) (k := 3) (by decide)
  have q3 : (mI S1 82 3).toInt = (mI S 82 3).toInt := zG_zi hL_S1 rfl
  have x4 : (mI S1 82 3).toInt ≤ (mI S1 82 7).toInt ∧ (mI S1 82 7).toInt ≤ (mI S1 82 3).toInt + (mI S1 82 2).toInt := zG_x hI_S1
  have f5 := zG_s hI_S1 (0) (1500) (c := 82) (k := 3) (by decide)
  have q6 : (mI S3 82 3).toInt = (mI S1 82 3).toInt := zG_zi hL_S3 rfl
  have x7 : (mI S3 82 3).toInt ≤ (mI S3 82 7).toInt ∧ (mI S3 82 7).toInt ≤ (mI S3 82 3).toInt + (mI S3 82 2).toInt := zG_x hI_S3
  have f8 := zG_s hI_S3 (0) (1500) (c := 82) (k := 3) (by decide)
  have q9 : (mI S5 82 3).toInt = (mI S3 82 3).toInt := zG_zi hL_S5 rfl
  have x10 : (mI S5 82 3).toInt ≤ (mI S5 82 7).toInt ∧ (mI S5 82 7).toInt ≤ (mI S5 82 3).toInt + (mI S5 82 2).toInt := zG_x hI_S5
  have f11 := zG_s hI_S5 (0) (1500) (c := 82) (k := 3) (by decide)
  refine sp_263_82_s (ab := (aM (zfG (mI S5)) S5)) (q := (zfG (mI S5))) ((mI S5 82 3)) (by omega) (by omega) (zJ82_dn hI_S5) (by omega) (show xB S5 (mR S5 70) from by first | (exact xB_x (xC_o (W := 75) rp0_S5).2)) (show aM (zfG (mI S5)) S5 = (aM (zfG (mI S5)) S5) from by first | (exact rfl)) (show qI (aM (zfG (mI S5)) S5) from by first | (exact Qsd hpre2 hpre1 (show aS 75 S5 = aSw (aS 75 S) from by rw [rp1_S5.1, rp1_S3, rp1_S1]; rfl) ((show mI S5 82 = mI S3 82 from funext (fun _ => zG_z hL_S5 rfl)).trans ((show mI S3 82 = mI S1 82 from funext (fun _ => zG_z hL_S3 rfl)).trans (show mI S1 82 = mI S 82 from funext (fun _ => zG_z hL_S1 rfl)))) ((show mI S5 83 = mI S3 83 from funext (fun _ => zG_z hL_S5 rfl)).trans ((show mI S3 83 = mI S1 83 from funext (fun _ => zG_z hL_S3 rfl)).trans (show mI S1 83 = mI S 83 from funext (fun _ => zG_z hL_S1 rfl)))))) (show ((zfG (mI S5)) 2).toInt = 0 from by first | (exact rfl)) (fun v8 S7 hL_S7 hp_v8 rp0_S7 rp1_S7 => zi_n ⟨zG_T hL_S7, ?_⟩)
  have hI_S7 := zJ82_up hI_S5 hL_S7
  have rp0_S7 : xB S7 (mR S7 70) := by
    have z := rp0_S7
    (try rw [show mI S5 65 = f 65 from funext (fun k => zG_z hI_S5 rfl)] at z)
    (try rw [show mI S5 64 1 = f 64 1 from zG_z hI_S5 rfl] at z)
    exact z
  have rp1_S7 : aM (zfG (mI S5)) S7 = (zSd (aM (zfG (mI S5)) S5) (mI S5 82 3).toInt 0 0).1 ∧ v8.toInt = (zSd (aM (zfG (mI S5)) S5) (mI S5 82 3).toInt 0 0).2 ∧ ∃ p, (mI S5 82 3).toInt ≤ p ∧ qJs (aM (zfG (mI S5)) S7) p v8.toInt := by
    have z := rp1_S7
    (try rw [show mI S5 65 = f 65 from funext (fun k => zG_z hI_S5 rfl)] at z)
    (try rw [show mI S5 64 1 = f 64 1 from zG_z hI_S5 rfl] at z)
    exact z
  have b13 := i_bd v8
  have hI12 : zJ82 f r C Z N (ma_put S7 82 6 (.inl v8)) := zG_sp hI_S7 (0) (400000) rfl (by decide) (by decide) (by decide) (show zJ82_x (mI S7) from zG_x hI_S7) (by omega) (by omega)
  refine sp_6_82_sy (ab := (aG (ma_put S7 82 6 (.inl v8)))) (by omega) (by omega) hI12 (show xB (ma_put S7 82 6 (.inl v8)) (mR (ma_put S7 82 6 (.inl v8)) 70) from by first | (exact xB_x (xC_n (c := 82) (k := 6) (x := v8) (xC_o (W := 75) rp0_S7) ⟨by decide, Or.inl ⟨rfl, rfl⟩⟩).2)) (show aG (ma_put S7 82 6 (.inl v8)) = (aG (ma_put S7 82 6 (.inl v8))) from by first | (exact rfl)) (show qI (aG (ma_put S7 82 6 (.inl v8))) from by first | (rw [((G_pk (n := 6) (k := 10) (x := v8) (xC_o (W := 75) rp0_S7).2 (by decide)).trans (congrArg (fun q => ma_u q 87 10 v8) (show aG S7 = aG S7 from rfl))), (Ma_e hpre2 hpre1 (show aS 75 S5 = aSw (aS 75 S) from by rw [rp1_S5.1, rp1_S3, rp1_S1]; rfl) ((show mI S5 82 = mI S3 82 from funext (fun _ => zG_z hL_S5 rfl)).trans ((show mI S3 82 = mI S1 82 from funext (fun _ => zG_z hL_S3 rfl)).trans (show mI S1 82 = mI S 82 from funext (fun _ => zG_z hL_S1 rfl)))) ((show mI S5 83 = mI S3 83 from funext (fun _ => zG_z hL_S5 rfl)).trans ((show mI S3 83 = mI S1 83 from funext (fun _ => zG_z hL_S3 rfl)).trans (show mI S1 83 = mI S 83 from funext (fun _ => zG_z hL_S1 rfl)))) rp1_S7.1 rp1_S7.2.1 (show _ = mI S 82 3 from congrFun ((show mI S5 82 = mI S3 82 from funext (fun _ => zG_z hL_S5 rfl)).trans ((show mI S3 82 = mI S1 82 from funext (fun _ => zG_z hL_S3 rfl)).trans (show mI S1 82 = mI S 82 from funext (fun _ => zG_z hL_S1 rfl)))) 3) (show mI S7 82 = mI S5 82 from funext (fun _ => zG_z hL_S7 rfl)) (show mI S7 83 = mI S5 83 from funext (fun _ => zG_z hL_S7 rfl)))]; exact (A0_ma hpre2).1.1)) (fun S9 hI_S9 rp0_S9 rp1_S9 => zv_n ⟨zG_T hI_S9, ?_⟩)
  have rp0_S9 : xB S9 (mR S9 70) := rp0_S9
  have rp1_S9 : aG S9 = gFd (aG (ma_put S7 82 6 (.inl v8))) := rp1_S9
  have b14 := i_bd v6
  exact K (v6) _ hI_S9 trivial (show xB S9 (mR S9 70) from by first | (exact xB_x (xC_o (W := 75) rp0_S9).2)) (show aG S9 = gMa ab ∧ v6 = aSv ab from by first | (refine ⟨?_, ?_⟩; (rw [rp1_S9]; have z := ((G_pk (n := 6) (k := 10) (x := v8) (xC_o (W := 75) rp0_S7).2 (by decide)).trans (congrArg (fun q => ma_u q 87 10 v8) (show aG S7 = aG S7 from rfl))); rw [(Ma_e hpre2 hpre1 (show aS 75 S5 = aSw (aS 75 S) from by rw [rp1_S5.1, rp1_S3, rp1_S1]; rfl) ((show mI S5 82 = mI S3 82 from funext (fun _ => zG_z hL_S5 rfl)).trans ((show mI S3 82 = mI S1 82 from funext (fun _ => zG_z hL_S3 rfl)).trans (show mI S1 82 = mI S 82 from funext (fun _ => zG_z hL_S1 rfl)))) ((show mI S5 83 = mI S3 83 from funext (fun _ => zG_z hL_S5 rfl)).trans ((show mI S3 83 = mI S1 83 from funext (fun _ => zG_z hL_S3 rfl)).trans (show mI S1 83 = mI S 83 from funext (fun _ => zG_z hL_S1 rfl)))) rp1_S7.1 rp1_S7.2.1 (show _ = mI S 82 3 from congrFun ((show mI S5 82 = mI S3 82 from funext (fun _ => zG_z hL_S5 rfl)).trans ((show mI S3 82 = mI S1 82 from funext (fun _ => zG_z hL_S3 rfl)).trans (show mI S1 82 = mI S 82 from funext (fun _ => zG_z hL_S1 rfl)))) 3) (show mI S7 82 = mI S5 82 from funext (fun _ => zG_z hL_S7 rfl)) (show mI S7 83 = mI S5 83 from funext (fun _ => zG_z hL_S7 rfl)))] at z; rw [z]; rfl); (have u := rp1_S5.2; rw [rp1_S3, rp1_S1] at u; exact u.trans ((show _ = aSv (aS 75 S) from rfl).trans (G_sv.trans (congrArg aSv hpre1))))))

/-! from 95.u25 -/
/-! AGES, the class (written by wip/tools/gen15y.py) -/
theorem g_11_82_sy_0 {X : Nat × (Nat → Int32)} {d w : Nat} {S : ma_S} {Q : Option ma_V ⊕ Nat → ma_S → Prop}  (hd : 4 ≤ d) (hw : 159 ≤ w) (hS : zT S) (h : ma_wp X (d - 1) (w - 23) 12 0 [(0, .inr (.inr (some 82)))] [] S (zi (fun v2 S1 => zT S1 ∧ (if ((mI S 82 6) + v2) ≤ (mI S1 82 3) then (ma_wp X (d - 1) (w - 23) 12 0 [(0, .inr (.inr (some 82)))] [] S1 (zi (fun v4 S3 => zT S3 ∧ (if ((mI S1 82 6) + v4) ≤ (mI S3 82 3) then (ma_wp X (d - 1) (w - 21) 117 0 [(0, .inr (.inr (some 75))), (1, .inl (mI S3 82 3))] [] S3 (zv (fun S5 => zT S5 ∧ (ma_wp X (d - 1) (w - 22) 118 0 [(0, .inr (.inr (some 75)))] [] S5 (zv (fun S7 => zT S7 ∧ (ma_wp X (d - 1) (w - 22) 13 0 [(0, .inr (.inr (some 82)))] [] S7 (zv (fun S9 => zT S9 ∧ (ma_wp X (d - 1) (w - 24) 120 0 [(0, .inr (.inr (some 75))), (1, .inl (512 : Int32))] [] S9 (zi (fun v12 S11 => zT S11 ∧ (ma_wp X (d - 1) (w - 23) 83 0 [(0, .inr (.inr (some 69))), (1, .inr (.inr (some 75)))] [] S11 (zv (fun S13 => zT S13 ∧ (ma_wp X (d - 1) (w - 24) 86 0 [(0, .inr (.inr (some 69))), (1, .inr (.inr (some 75)))] [] S13 (zi (fun v16 S15 => zT S15 ∧ (ma_wp X (d - 1) (w - 22) 15 0 [(0, .inr (.inr (some 82)))] [] S15 (zv (fun S17 => zT S17 ∧ (ma_wp X (d - 1) (w - 23) 6 0 [(0, .inr (.inr (some 82)))] [] S17 (zv (fun S19 => zT S19 ∧ (Q (.inl (some (.inl ((0 : Int32) + v16)))) S19)) (fun x S9 => Q (.inr x) S9)))) (fun x S9 => Q (.inr x) S9)))) (fun x S9 => Q (.inr x) S9)))) (fun x S9 => Q (.inr x) S9)))) (fun x S9 => Q (.inr x) S9)))) (fun x S9 => Q (.inr x) S9)))) (fun x S9 => Q (.inr x) S9)))) (fun x S9 => Q (.inr x) S9))) else (Q (.inl (some (.inl (0 : Int32)))) S3))) (fun x S9 => Q (.inr x) S9))) else (ma_wp X (d - 1) (w - 21) 5 0 [(0, .inr (.inr (some 82)))] [] S1 (zi (fun v22 S21 => zT S21 ∧ (ma_wp X (d - 1) (w - 23) 12 0 [(0, .inr (.inr (some 82)))] [] S21 (zi (fun v24 S23 => zT S23 ∧ (if ((mI S21 82 6) + v24) ≤ (mI S23 82 3) then (ma_wp X (d - 1) (w - 21) 117 0 [(0, .inr (.inr (some 75))), (1, .inl (mI S23 82 3))] [] S23 (zv (fun S25 => zT S25 ∧ (ma_wp X (d - 1) (w - 22) 118 0 [(0, .inr (.inr (some 75)))] [] S25 (zv (fun S27 => zT S27 ∧ (ma_wp X (d - 1) (w - 22) 13 0 [(0, .inr (.inr (some 82)))] [] S27 (zv (fun S29 => zT S29 ∧ (ma_wp X (d - 1) (w - 24) 120 0 [(0, .inr (.inr (some 75))), (1, .inl (512 : Int32))] [] S29 (zi (fun v32 S31 => zT S31 ∧ (ma_wp X (d - 1) (w - 23) 83 0 [(0, .inr (.inr (some 69))), (1, .inr (.inr (some 75)))] [] S31 (zv (fun S33 => zT S33 ∧ (ma_wp X (d - 1) (w - 24) 86 0 [(0, .inr (.inr (some 69))), (1, .inr (.inr (some 75)))] [] S33 (zi (fun v36 S35 => zT S35 ∧ (ma_wp X (d - 1) (w - 22) 15 0 [(0, .inr (.inr (some 82)))] [] S35 (zv (fun S37 => zT S37 ∧ (ma_wp X (d - 1) (w - 23) 6 0 [(0, .inr (.inr (some 82)))] [] S37 (zv (fun S39 => zT S39 ∧ (Q (.inl (some (.inl (v22 + v36)))) S39)) (fun x S9 => Q (.inr x) S9)))) (fun x S9 => Q (.inr x) S9)))) (fun x S9 => Q (.inr x) S9)))) (fun x S9 => Q (.inr x) S9)))) (fun x S9 => Q (.inr x) S9)))) (fun x S9 => Q (.inr x) S9)))) (fun x S9 => Q (.inr x) S9)))) (fun x S9 => Q (.inr x) S9))) else (Q (.inl (some (.inl v22))) S23))) (fun x S9 => Q (.inr x) S9)))) (fun x S9 => Q (.inr x) S9))))) (fun x S9 => Q (.inr x) S9))) : ma_wp X d w 11 0 [(0, .inr (.inr (some 82)))] [] S Q := by
  refine zw_push hm_11 dX0_cleanYoung_0 (v := .inl (0 : Int32)) rfl ?_
  refine zw_sto hm_11 dX0_cleanYoung_1 [(1, .inl (0 : Int32)), (0, .inr (.inr (some 82)))] rfl rfl rfl ?_
  refine zw_push hm_11 dX0_cleanYoung_2 (v := .inr (.inr (some 82))) rfl ?_
  refine zw_gf hm_11 dX0_cleanYoung_3 (v := .inl (mI S 82 6)) (zT_is hS s_82) (zT_t hS s_82) rfl f_1_28_1 rfl ?_
  refine zw_push hm_11 dX0_cleanYoung_6 (v := .inr (.inr (some 82))) rfl ?_
  refine zw_cv hm_11 dX0_cleanYoung_7 v_1_100_1 hm_12 [] [.inl (mI S 82 6)] rfl (zT_rt hS s_82 rfl) ⟨by omega, by omega⟩ rfl (zw_mono h (zi_go ?_ ?_))
  · intro v2 S1 hv
    obtain ⟨hS1, h⟩ := hv
    refine zw_stk hm_11 dX0_cleanYoung_10 (st₉ := [.inl ((mI S 82 6) + v2)]) rfl rfl ?_
    refine zw_push hm_11 dX0_cleanYoung_11 (v := .inr (.inr (some 82))) rfl ?_
    refine zw_gf hm_11 dX0_cleanYoung_12 (v := .inl (mI S1 82 3)) (zT_is hS1 s_82) (zT_t hS1 s_82) rfl f_1_19_1 rfl ?_
    refine zw_if2 hm_11 dX0_cleanYoung_15 (t := 23) rfl zc2_le ?_ ?_
    · intro hc
      rw [if_pos hc] at h
      refine zw_push hm_11 dX0_cleanYoung_23 (v := .inr (.inr (some 82))) rfl ?_
      refine zw_gf hm_11 dX0_cleanYoung_24 (v := .inl (mI S1 82 6)) (zT_is hS1 s_82) (zT_t hS1 s_82) rfl f_1_28_1 rfl ?_
      refine zw_push hm_11 dX0_cleanYoung_27 (v := .inr (.inr (some 82))) rfl ?_
      refine zw_cv hm_11 dX0_cleanYoung_28 v_1_100_1 hm_12 [] [.inl (mI S1 82 6)] rfl (zT_rt hS1 s_82 rfl) ⟨by omega, by omega⟩ rfl (zw_mono h (zi_go ?_ ?_))
      · intro v4 S3 hv
        obtain ⟨hS3, h⟩ := hv
        refine zw_stk hm_11 dX0_cleanYoung_31 (st₉ := [.inl ((mI S1 82 6) + v4)]) rfl rfl ?_
        refine zw_push hm_11 dX0_cleanYoung_32 (v := .inr (.inr (some 82))) rfl ?_
        refine zw_gf hm_11 dX0_cleanYoung_33 (v := .inl (mI S3 82 3)) (zT_is hS3 s_82) (zT_t hS3 s_82) rfl f_1_19_1 rfl ?_
        refine zw_if2 hm_11 dX0_cleanYoung_36 (t := 41) rfl zc2_le ?_ ?_
        · intro hc
          rw [if_pos hc] at h
          refine zw_push hm_11 dX0_cleanYoung_41 (v := .inr (.inr (some 82))) rfl ?_
          refine zw_gf hm_11 dX0_cleanYoung_42 (v := .inr (.inr (some 75))) (zT_is hS3 s_82) (zT_t hS3 s_82) rfl f_1_70_1 (zT_f hS3 r_82_1) ?_
          refine zw_push hm_11 dX0_cleanYoung_45 (v := .inr (.inr (some 82))) rfl ?_
          refine zw_gf hm_11 dX0_cleanYoung_46 (v := .inl (mI S3 82 3)) (zT_is hS3 s_82) (zT_t hS3 s_82) rfl f_1_19_1 rfl ?_
          refine zw_cv hm_11 dX0_cleanYoung_49 v_1_103_10 hm_117 [.inl (mI S3 82 3)] [] rfl (zT_rt hS3 s_75 rfl) ⟨by omega, by omega⟩ rfl (zw_mono h (zv_go ?_ ?_))
          · intro S5 hv
            obtain ⟨hS5, h⟩ := hv
            refine zw_push hm_11 dX0_cleanYoung_52 (v := .inr (.inr (some 82))) rfl ?_
            refine zw_gf hm_11 dX0_cleanYoung_53 (v := .inr (.inr (some 75))) (zT_is hS5 s_82) (zT_t hS5 s_82) rfl f_1_70_1 (zT_f hS5 r_82_1) ?_
            refine zw_cv hm_11 dX0_cleanYoung_56 v_1_107_10 hm_118 [] [] rfl (zT_rt hS5 s_75 rfl) ⟨by omega, by omega⟩ rfl (zw_mono h (zv_go ?_ ?_))
            · intro S7 hv
              obtain ⟨hS7, h⟩ := hv
              refine zw_push hm_11 dX0_cleanYoung_59 (v := .inr (.inr (some 82))) rfl ?_
              refine zw_cv hm_11 dX0_cleanYoung_60 v_1_110_1 hm_13 [] [] rfl (zT_rt hS7 s_82 rfl) ⟨by omega, by omega⟩ rfl (zw_mono h (zv_go ?_ ?_))
              · intro S9 hv
                obtain ⟨hS9, h⟩ := hv
                refine zw_push hm_11 dX0_cleanYoung_63 (v := .inr (.inr (some 82))) rfl ?_
                refine zw_gf hm_11 dX0_cleanYoung_64 (v := .inr (.inr (some 75))) (zT_is hS9 s_82) (zT_t hS9 s_82) rfl f_1_70_1 (zT_f hS9 r_82_1) ?_
                refine zw_push hm_11 dX0_cleanYoung_67 (v := .inl (512 : Int32)) rfl ?_
                refine zw_cv hm_11 dX0_cleanYoung_70 v_1_113_10 hm_120 [.inl (512 : Int32)] [] rfl (zT_rt hS9 s_75 rfl) ⟨by omega, by omega⟩ rfl (zw_mono h (zi_go ?_ ?_))
                · intro v12 S11 hv
                  obtain ⟨hS11, h⟩ := hv
                  refine zw_stk hm_11 dX0_cleanYoung_73 (st₉ := []) rfl rfl ?_
                  refine zw_push hm_11 dX0_cleanYoung_74 (v := .inr (.inr (some 82))) rfl ?_
                  refine zw_gf hm_11 dX0_cleanYoung_75 (v := .inr (.inr (some 69))) (zT_is hS11 s_82) (zT_t hS11 s_82) rfl f_1_80_1 (zT_f hS11 r_82_0) ?_
                  refine zw_push hm_11 dX0_cleanYoung_78 (v := .inr (.inr (some 82))) rfl ?_
                  refine zw_gf hm_11 dX0_cleanYoung_79 (v := .inr (.inr (some 75))) (zT_is hS11 s_82) (zT_t hS11 s_82) rfl f_1_70_1 (zT_f hS11 r_82_1) ?_
                  refine zw_cv hm_11 dX0_cleanYoung_82 v_1_84_7 hm_83 [.inr (.inr (some 75))] [] rfl (zT_rt hS11 s_69 rfl) ⟨by omega, by omega⟩ rfl (zw_mono h (zv_go ?_ ?_))
                  · intro S13 hv
                    obtain ⟨hS13, h⟩ := hv
                    refine zw_push hm_11 dX0_cleanYoung_85 (v := .inl (0 : Int32)) rfl ?_
                    refine zw_push hm_11 dX0_cleanYoung_86 (v := .inr (.inr (some 82))) rfl ?_
                    refine zw_gf hm_11 dX0_cleanYoung_87 (v := .inr (.inr (some 69))) (zT_is hS13 s_82) (zT_t hS13 s_82) rfl f_1_80_1 (zT_f hS13 r_82_0) ?_
                    refine zw_push hm_11 dX0_cleanYoung_90 (v := .inr (.inr (some 82))) rfl ?_
                    refine zw_gf hm_11 dX0_cleanYoung_91 (v := .inr (.inr (some 75))) (zT_is hS13 s_82) (zT_t hS13 s_82) rfl f_1_70_1 (zT_f hS13 r_82_1) ?_
                    refine zw_cv hm_11 dX0_cleanYoung_94 v_1_90_7 hm_86 [.inr (.inr (some 75))] [.inl (0 : Int32)] rfl (zT_rt hS13 s_69 rfl) ⟨by omega, by omega⟩ rfl (zw_mono h (zi_go ?_ ?_))
                    · intro v16 S15 hv
                      obtain ⟨hS15, h⟩ := hv
                      refine zw_stk hm_11 dX0_cleanYoung_97 (st₉ := [.inl ((0 : Int32) + v16)]) rfl rfl ?_
                      refine zw_sto hm_11 dX0_cleanYoung_98 [(1, .inl ((0 : Int32) + v16)), (0, .inr (.inr (some 82)))] rfl rfl rfl ?_
                      refine zw_push hm_11 dX0_cleanYoung_99 (v := .inr (.inr (some 82))) rfl ?_
                      refine zw_cv hm_11 dX0_cleanYoung_100 v_1_116_1 hm_15 [] [] rfl (zT_rt hS15 s_82 rfl) ⟨by omega, by omega⟩ rfl (zw_mono h (zv_go ?_ ?_))
                      · intro S17 hv
                        obtain ⟨hS17, h⟩ := hv
                        refine zw_push hm_11 dX0_cleanYoung_103 (v := .inr (.inr (some 82))) rfl ?_
                        refine zw_cv hm_11 dX0_cleanYoung_104 v_1_97_1 hm_6 [] [] rfl (zT_rt hS17 s_82 rfl) ⟨by omega, by omega⟩ rfl (zw_mono h (zv_go ?_ ?_))
                        · intro S19 hv
                          obtain ⟨hS19, h⟩ := hv
                          refine zw_push hm_11 dX0_cleanYoung_107 (v := .inl ((0 : Int32) + v16)) rfl ?_
                          exact zw_iret hm_11 dX0_cleanYoung_108 h
                        · intro x S9 hx
                          exact ⟨by decide, hx⟩
                      · intro x S9 hx
                        exact ⟨by decide, hx⟩
                    · intro x S9 hx
                      exact ⟨by decide, hx⟩
                  · intro x S9 hx
                    exact ⟨by decide, hx⟩
                · intro x S9 hx
                  exact ⟨by decide, hx⟩
              · intro x S9 hx
                exact ⟨by decide, hx⟩
            · intro x S9 hx
              exact ⟨by decide, hx⟩
          · intro x S9 hx
            exact ⟨by decide, hx⟩
        · intro hc
          rw [if_neg hc] at h
          refine zw_push hm_11 dX0_cleanYoung_39 (v := .inl (0 : Int32)) rfl ?_
          exact zw_iret hm_11 dX0_cleanYoung_40 h
      · intro x S9 hx
        exact ⟨by decide, hx⟩
    · intro hc
      rw [if_neg hc] at h
      refine zw_push hm_11 dX0_cleanYoung_18 (v := .inr (.inr (some 82))) rfl ?_
      refine zw_cv hm_11 dX0_cleanYoung_19 v_1_55_1 hm_5 [] [] rfl (zT_rt hS1 s_82 rfl) ⟨by omega, by omega⟩ rfl (zw_mono h (zi_go ?_ ?_))
      · intro v22 S21 hv
        obtain ⟨hS21, h⟩ := hv
        refine zw_sto hm_11 dX0_cleanYoung_22 [(1, .inl v22), (0, .inr (.inr (some 82)))] rfl rfl rfl ?_
        refine zw_push hm_11 dX0_cleanYoung_23 (v := .inr (.inr (some 82))) rfl ?_
        refine zw_gf hm_11 dX0_cleanYoung_24 (v := .inl (mI S21 82 6)) (zT_is hS21 s_82) (zT_t hS21 s_82) rfl f_1_28_1 rfl ?_
        refine zw_push hm_11 dX0_cleanYoung_27 (v := .inr (.inr (some 82))) rfl ?_
        refine zw_cv hm_11 dX0_cleanYoung_28 v_1_100_1 hm_12 [] [.inl (mI S21 82 6)] rfl (zT_rt hS21 s_82 rfl) ⟨by omega, by omega⟩ rfl (zw_mono h (zi_go ?_ ?_))
        · intro v24 S23 hv
          obtain ⟨hS23, h⟩ := hv
          refine zw_stk hm_11 dX0_cleanYoung_31 (st₉ := [.inl ((mI S21 82 6) + v24)]) rfl rfl ?_
          refine zw_push hm_11 dX0_cleanYoung_32 (v := .inr (.inr (some 82))) rfl ?_
          refine zw_gf hm_11 dX0_cleanYoung_33 (v := .inl (mI S23 82 3)) (zT_is hS23 s_82) (zT_t hS23 s_82) rfl f_1_19_1 rfl ?_
          refine zw_if2 hm_11 dX0_cleanYoung_36 (t := 41) rfl zc2_le ?_ ?_
          · intro hc
            rw [if_pos hc] at h
            refine zw_push hm_11 dX0_cleanYoung_41 (v := .inr (.inr (some 82))) rfl ?_
            refine zw_gf hm_11 dX0_cleanYoung_42 (v := .inr (.inr (some 75))) (zT_is hS23 s_82) (zT_t hS23 s_82) rfl f_1_70_1 (zT_f hS23 r_82_1) ?_
            refine zw_push hm_11 dX0_cleanYoung_45 (v := .inr (.inr (some 82))) rfl ?_
            refine zw_gf hm_11 dX0_cleanYoung_46 (v := .inl (mI S23 82 3)) (zT_is hS23 s_82) (zT_t hS23 s_82) rfl f_1_19_1 rfl ?_
            refine zw_cv hm_11 dX0_cleanYoung_49 v_1_103_10 hm_117 [.inl (mI S23 82 3)] [] rfl (zT_rt hS23 s_75 rfl) ⟨by omega, by omega⟩ rfl (zw_mono h (zv_go ?_ ?_))
            · intro S25 hv
              obtain ⟨hS25, h⟩ := hv
              refine zw_push hm_11 dX0_cleanYoung_52 (v := .inr (.inr (some 82))) rfl ?_
              refine zw_gf hm_11 dX0_cleanYoung_53 (v := .inr (.inr (some 75))) (zT_is hS25 s_82) (zT_t hS25 s_82) rfl f_1_70_1 (zT_f hS25 r_82_1) ?_
              refine zw_cv hm_11 dX0_cleanYoung_56 v_1_107_10 hm_118 [] [] rfl (zT_rt hS25 s_75 rfl) ⟨by omega, by omega⟩ rfl (zw_mono h (zv_go ?_ ?_))
              · intro S27 hv
                obtain ⟨hS27, h⟩ := hv
                refine zw_push hm_11 dX0_cleanYoung_59 (v := .inr (.inr (some 82))) rfl ?_
                refine zw_cv hm_11 dX0_cleanYoung_60 v_1_110_1 hm_13 [] [] rfl (zT_rt hS27 s_82 rfl) ⟨by omega, by omega⟩ rfl (zw_mono h (zv_go ?_ ?_))
                · intro S29 hv
                  obtain ⟨hS29, h⟩ := hv
                  refine zw_push hm_11 dX0_cleanYoung_63 (v := .inr (.inr (some 82))) rfl ?_
                  refine zw_gf hm_11 dX0_cleanYoung_64 (v := .inr (.inr (some 75))) (zT_is hS29 s_82) (zT_t hS29 s_82) rfl f_1_70_1 (zT_f hS29 r_82_1) ?_
                  refine zw_push hm_11 dX0_cleanYoung_67 (v := .inl (512 : Int32)) rfl ?_
                  refine zw_cv hm_11 dX0_cleanYoung_70 v_1_113_10 hm_120 [.inl (512 : Int32)] [] rfl (zT_rt hS29 s_75 rfl) ⟨by omega, by omega⟩ rfl (zw_mono h (zi_go ?_ ?_))
                  · intro v32 S31 hv
                    obtain ⟨hS31, h⟩ := hv
                    refine zw_stk hm_11 dX0_cleanYoung_73 (st₉ := []) rfl rfl ?_
                    refine zw_push hm_11 dX0_cleanYoung_74 (v := .inr (.inr (some 82))) rfl ?_
                    refine zw_gf hm_11 dX0_cleanYoung_75 (v := .inr (.inr (some 69))) (zT_is hS31 s_82) (zT_t hS31 s_82) rfl f_1_80_1 (zT_f hS31 r_82_0) ?_
                    refine zw_push hm_11 dX0_cleanYoung_78 (v := .inr (.inr (some 82))) rfl ?_
                    refine zw_gf hm_11 dX0_cleanYoung_79 (v := .inr (.inr (some 75))) (zT_is hS31 s_82) (zT_t hS31 s_82) rfl f_1_70_1 (zT_f hS31 r_82_1) ?_
                    refine zw_cv hm_11 dX0_cleanYoung_82 v_1_84_7 hm_83 [.inr (.inr (some 75))] [] rfl (zT_rt hS31 s_69 rfl) ⟨by omega, by omega⟩ rfl (zw_mono h (zv_go ?_ ?_))
                    · intro S33 hv
                      obtain ⟨hS33, h⟩ := hv
                      refine zw_push hm_11 dX0_cleanYoung_85 (v := .inl v22) rfl ?_
                      refine zw_push hm_11 dX0_cleanYoung_86 (v := .inr (.inr (some 82))) rfl ?_
                      refine zw_gf hm_11 dX0_cleanYoung_87 (v := .inr (.inr (some 69))) (zT_is hS33 s_82) (zT_t hS33 s_82) rfl f_1_80_1 (zT_f hS33 r_82_0) ?_
                      refine zw_push hm_11 dX0_cleanYoung_90 (v := .inr (.inr (some 82))) rfl ?_
                      refine zw_gf hm_11 dX0_cleanYoung_91 (v := .inr (.inr (some 75))) (zT_is hS33 s_82) (zT_t hS33 s_82) rfl f_1_70_1 (zT_f hS33 r_82_1) ?_
                      refine zw_cv hm_11 dX0_cleanYoung_94 v_1_90_7 hm_86 [.inr (.inr (some 75))] [.inl v22] rfl (zT_rt hS33 s_69 rfl) ⟨by omega, by omega⟩ rfl (zw_mono h (zi_go ?_ ?_))
                      · intro v36 S35 hv
                        obtain ⟨hS35, h⟩ := hv
                        refine zw_stk hm_11 dX0_cleanYoung_97 (st₉ := [.inl (v22 + v36)]) rfl rfl ?_
                        refine zw_sto hm_11 dX0_cleanYoung_98 [(1, .inl (v22 + v36)), (0, .inr (.inr (some 82)))] rfl rfl rfl ?_
                        refine zw_push hm_11 dX0_cleanYoung_99 (v := .inr (.inr (some 82))) rfl ?_
                        refine zw_cv hm_11 dX0_cleanYoung_100 v_1_116_1 hm_15 [] [] rfl (zT_rt hS35 s_82 rfl) ⟨by omega, by omega⟩ rfl (zw_mono h (zv_go ?_ ?_))
                        · intro S37 hv
                          obtain ⟨hS37, h⟩ := hv
                          refine zw_push hm_11 dX0_cleanYoung_103 (v := .inr (.inr (some 82))) rfl ?_
                          refine zw_cv hm_11 dX0_cleanYoung_104 v_1_97_1 hm_6 [] [] rfl (zT_rt hS37 s_82 rfl) ⟨by omega, by omega⟩ rfl (zw_mono h (zv_go ?_ ?_))
                          · intro S39 hv
                            obtain ⟨hS39, h⟩ := hv
                            refine zw_push hm_11 dX0_cleanYoung_107 (v := .inl (v22 + v36)) rfl ?_
                            exact zw_iret hm_11 dX0_cleanYoung_108 h
                          · intro x S9 hx
                            exact ⟨by decide, hx⟩
                        · intro x S9 hx
                          exact ⟨by decide, hx⟩
                      · intro x S9 hx
                        exact ⟨by decide, hx⟩
                    · intro x S9 hx
                      exact ⟨by decide, hx⟩
                  · intro x S9 hx
                    exact ⟨by decide, hx⟩
                · intro x S9 hx
                  exact ⟨by decide, hx⟩
              · intro x S9 hx
                exact ⟨by decide, hx⟩
            · intro x S9 hx
              exact ⟨by decide, hx⟩
          · intro hc
            rw [if_neg hc] at h
            refine zw_push hm_11 dX0_cleanYoung_39 (v := .inl v22) rfl ?_
            exact zw_iret hm_11 dX0_cleanYoung_40 h
        · intro x S9 hx
          exact ⟨by decide, hx⟩
      · intro x S9 hx
        exact ⟨by decide, hx⟩
  · intro x S9 hx
    exact ⟨by decide, hx⟩
theorem sp_11_82_sy {X : Nat × (Nat → Int32)} {d w : Nat} {f : Nat → Nat → Int32} {r : Nat → Nat → Option Nat} {C Z N : Nat} {Q : Option ma_V ⊕ Nat → ma_S → Prop} {ab : Nat→Nat→Int32} {S : ma_S}  (hd : 4 ≤ d) (hw : 159 ≤ w) (hI : zJ82 f r C Z N S) (hpre0 : xB S (mR S 70)) (hpre1 : aG S = ab) (hpre2 : qAv ab) (K : ∀ v S₉, zJ82 f r C Z N S₉ → (True) → (xB S₉ (mR S₉ 70)) → (aG S₉ = gMi ab ∧ v = gVi ab) → Q (.inl (some (.inl v))) S₉) : ma_wp X d w 11 0 [(0, .inr (.inr (some 82)))] [] S Q := by
  refine g_11_82_sy_0  (by omega) (by omega) (zG_T hI) ?_
  refine sp_12_82_sy  (by omega) (by omega) hI (show xB S (mR S 70) from by first | (exact xB_x (xC_o (W := 75) hpre0).2)) (show qAv (aG S) from by first | (rw [hpre1]; exact hpre2)) (fun v2 S1 eS_S1 hp_v2 rp0_S1 => zi_n ⟨(by rw [eS_S1]; exact zG_T hI), ?_⟩)
  replace eS_S1 := eS_S1.symm; subst eS_S1
  have rp0_S1 : v2.toInt = gGr (aG S) 512 := rp0_S1
  have f1 := zG_s hI (0) (400000) (c := 82) (k := 6) (by decide)
  have b2 := i_bd v2
  first | have e3 : ((mI S 82 6) + v2).toInt = (mI S 82 6).toInt + v2.toInt := i_add (by omega) (by omega) | have b4 := i_bd ((mI S 82 6) + v2)
  have x5 : (mI S 82 3).toInt ≤ (mI S 82 7).toInt ∧ (mI S 82 7).toInt ≤ (mI S 82 3).toInt + (mI S 82 2).toInt := zG_x hI
  have f6 := zG_s hI (0) (1500) (c := 82) (k := 3) (by decide)
  refine zd (fun h7 => ?_) (fun h7 => ?_)
  · skip
    have g8 := i_le h7
    refine sp_12_82_sy  (by omega) (by omega) hI (show xB S (mR S 70) from by first | (exact xB_x (xC_o (W := 75) hpre0).2)) (show qAv (aG S) from by first | (have e9 : (ab 87 9).toInt = (mI S 82 3).toInt := (by rw [← hpre1]; rfl); have e10 : (ab 87 10).toInt = (mI S 82 6).toInt := (by rw [← hpre1]; rfl); have w1 := rp0_S1; rw [hpre1] at w1; have m0 := M0_n (a := ab) (show ¬ gFu ab from by unfold gFu; omega); have g0 : aG S = gM0 ab := hpre1.trans m0.1.symm; rw [g0]; exact Av_m0 hpre2)) (fun v4 S3 eS_S3 hp_v4 rp0_S3 => zi_n ⟨(by rw [eS_S3]; exact zG_T hI), ?_⟩)
    replace eS_S3 := eS_S3.symm; subst eS_S3
    have rp0_S3 : v4.toInt = gGr (aG S) 512 := rp0_S3
    have b9 := i_bd v4
    first | have e10 : ((mI S 82 6) + v4).toInt = (mI S 82 6).toInt + v4.toInt := i_add (by omega) (by omega) | have b11 := i_bd ((mI S 82 6) + v4)
    refine zd (fun h12 => ?_) (fun h12 => ?_)
    · skip
      have g13 := i_le h12
      refine sp_117_75_s (ab := (aS 75 S)) (R := (mR S 70)) (a8 := (aS 88 S)) ((mI S 82 3)) (by omega) (by omega) (zJ82_dn hI) (show xB S (mR S 70) from by first | (exact xB_x (xC_o (W := 75) hpre0).2)) (show aS 75 S = (aS 75 S) from by first | (exact rfl)) (show aS 88 S = (aS 88 S) from by first | (exact rfl)) (fun S5 hL_S5 rp0_S5 rp1_S5 rp2_S5 => zv_n ⟨zG_T hL_S5, ?_⟩)
      have hI_S5 := zJ82_up hI hL_S5
      have rp0_S5 : xB S5 (mR S 70) := by
        have z := rp0_S5
        (try rw [show mI S 65 = f 65 from funext (fun k => zG_z hI rfl)] at z)
        (try rw [show mI S 64 1 = f 64 1 from zG_z hI rfl] at z)
        exact z
      have rp1_S5 : aS 75 S5 = aWh (aS 75 S) (mI S 82 3) := by
        have z := rp1_S5
        (try rw [show mI S 65 = f 65 from funext (fun k => zG_z hI rfl)] at z)
        (try rw [show mI S 64 1 = f 64 1 from zG_z hI rfl] at z)
        exact z
      have rp2_S5 : aS 88 S5 = (aS 88 S) := by
        have z := rp2_S5
        (try rw [show mI S 65 = f 65 from funext (fun k => zG_z hI rfl)] at z)
        (try rw [show mI S 64 1 = f 64 1 from zG_z hI rfl] at z)
        exact z
      refine sp_118_75_s (ab := (aS 75 S5)) (R := (mR S5 70)) (a8 := (aS 88 S5)) (by omega) (by omega) (zJ82_dn hI_S5) (show xB S5 (mR S5 70) from by first | (exact xB_x (xC_o (W := 75) rp0_S5).2)) (show aS 75 S5 = (aS 75 S5) from by first | (exact rfl)) (show aS 88 S5 = (aS 88 S5) from by first | (exact rfl)) (fun S7 hL_S7 rp0_S7 rp1_S7 rp2_S7 => zv_n ⟨zG_T hL_S7, ?_⟩)
      have hI_S7 := zJ82_up hI_S5 hL_S7
      have rp0_S7 : xB S7 (mR S5 70) := by
        have z := rp0_S7
        (try rw [show mI S5 65 = f 65 from funext (fun k => zG_z hI_S5 rfl)] at z)
        (try rw [show mI S5 64 1 = f 64 1 from zG_z hI_S5 rfl] at z)
        exact z
      have rp1_S7 : aS 75 S7 = aRo (aS 75 S5) 0 := by
        have z := rp1_S7
        (try rw [show mI S5 65 = f 65 from funext (fun k => zG_z hI_S5 rfl)] at z)
        (try rw [show mI S5 64 1 = f 64 1 from zG_z hI_S5 rfl] at z)
        exact z
      have rp2_S7 : aS 88 S7 = (aS 88 S5) := by
        have z := rp2_S7
        (try rw [show mI S5 65 = f 65 from funext (fun k => zG_z hI_S5 rfl)] at z)
        (try rw [show mI S5 64 1 = f 64 1 from zG_z hI_S5 rfl] at z)
        exact z
      have q14 : (mI S5 82 6).toInt = (mI S 82 6).toInt := zG_zi hL_S5 rfl
      have f15 := zG_s hI_S5 (0) (400000) (c := 82) (k := 6) (by decide)
      have q16 : (mI S7 82 6).toInt = (mI S5 82 6).toInt := zG_zi hL_S7 rfl
      have f17 := zG_s hI_S7 (0) (400000) (c := 82) (k := 6) (by decide)
      refine sp_13_82_sy (ab := (aG S7)) (R := (mR S7 70)) (by omega) (by omega) (zJ82_dn hI_S7) (show xB S7 (mR S7 70) from by first | (exact xB_x (xC_o (W := 75) rp0_S7).2)) (show aG S7 = (aG S7) from by first | (exact rfl)) (show zS1 (aG S7) from by first | (have e9 : (ab 87 9).toInt = (mI S 82 3).toInt := (by rw [← hpre1]; rfl); have e10 : (ab 87 10).toInt = (mI S 82 6).toInt := (by rw [← hpre1]; rfl); have w1 := rp0_S1; rw [hpre1] at w1; have m0 := M0_n (a := ab) (show ¬ gFu ab from by unfold gFu; omega); have g0 : aG S = gM0 ab := hpre1.trans m0.1.symm; have w2 := rp0_S3; rw [g0] at w2; have f9 : (gM0 ab 87 9).toInt = (mI S 82 3).toInt := (by rw [← g0]; rfl); have f10 : (gM0 ab 87 10).toInt = (mI S 82 6).toInt := (by rw [← g0]; rfl); exact S1_t2 (Av_m0 hpre2) (T2_e g0 rp1_S5 rfl rp1_S7 (show mI S5 82 = mI S 82 from funext (fun _ => zG_z hL_S5 rfl)) (show mI S5 83 = mI S 83 from funext (fun _ => zG_z hL_S5 rfl)) (show mI S7 82 = mI S5 82 from funext (fun _ => zG_z hL_S7 rfl)) (show mI S7 83 = mI S5 83 from funext (fun _ => zG_z hL_S7 rfl))))) (show (mI S7 82 6).toInt ≤ 400000 from by omega) (fun S9 hL_S9 rp0_S9 rp1_S9 => zv_n ⟨zG_T hL_S9, ?_⟩)
      have hI_S9 := zJ82_up hI_S7 hL_S9
      have rp0_S9 : xB S9 (mR S7 70) := by
        have z := rp0_S9
        (try rw [show mI S7 65 = f 65 from funext (fun k => zG_z hI_S7 rfl)] at z)
        (try rw [show mI S7 64 1 = f 64 1 from zG_z hI_S7 rfl] at z)
        exact z
      have rp1_S9 : aG S9 = gDp (aG S7) ((aG S7) 87 10).toInt 0 := by
        have z := rp1_S9
        (try rw [show mI S7 65 = f 65 from funext (fun k => zG_z hI_S7 rfl)] at z)
        (try rw [show mI S7 64 1 = f 64 1 from zG_z hI_S7 rfl] at z)
        exact z
      have li18 : (512 : Int32).toInt = 512 := rfl
      refine sp_120_75_s (ab := (aS 75 S9)) (R := (mR S9 70)) (a8 := (aS 88 S9)) ((512 : Int32)) (by omega) (by omega) (zJ82_dn hI_S9) (show xB S9 (mR S9 70) from by first | (exact xB_x (xC_o (W := 75) rp0_S9).2)) (show aS 75 S9 = (aS 75 S9) from by first | (exact rfl)) (by omega) (show aS 88 S9 = (aS 88 S9) from by first | (exact rfl)) (fun v12 S11 hL_S11 hp_v12 rp0_S11 rp1_S11 rp2_S11 => zi_n ⟨zG_T hL_S11, ?_⟩)
      have hI_S11 := zJ82_up hI_S9 hL_S11
      have rp0_S11 : xB S11 (mR S9 70) := by
        have z := rp0_S11
        (try rw [show mI S9 65 = f 65 from funext (fun k => zG_z hI_S9 rfl)] at z)
        (try rw [show mI S9 64 1 = f 64 1 from zG_z hI_S9 rfl] at z)
        exact z
      have rp1_S11 : aS 75 S11 = aSp (512 : Int32).toInt.toNat (aS 75 S9) ∧ v12.toInt = (aSn (512 : Int32).toInt.toNat (aS 75 S9) : Int) := by
        have z := rp1_S11
        (try rw [show mI S9 65 = f 65 from funext (fun k => zG_z hI_S9 rfl)] at z)
        (try rw [show mI S9 64 1 = f 64 1 from zG_z hI_S9 rfl] at z)
        exact z
      have rp2_S11 : aS 88 S11 = (aS 88 S9) := by
        have z := rp2_S11
        (try rw [show mI S9 65 = f 65 from funext (fun k => zG_z hI_S9 rfl)] at z)
        (try rw [show mI S9 64 1 = f 64 1 from zG_z hI_S9 rfl] at z)
        exact z
      refine sp_83_69_75_s (ab := (aS 75 S11)) (R := (mR S11 70)) (by omega) (by omega) (zJ82_dn hI_S11) (show xB S11 (mR S11 70) from by first | (exact xB_x (xC_o (W := 75) rp0_S11).2)) (show aS 75 S11 = (aS 75 S11) from by first | (exact rfl)) (fun S13 hL_S13 rp0_S13 rp1_S13 => zv_n ⟨zG_T hL_S13, ?_⟩)
      have hI_S13 := zJ82_up hI_S11 hL_S13
      have rp0_S13 : xB S13 (mR S11 70) := by
        have z := rp0_S13
        (try rw [show mI S11 65 = f 65 from funext (fun k => zG_z hI_S11 rfl)] at z)
        (try rw [show mI S11 64 1 = f 64 1 from zG_z hI_S11 rfl] at z)
        exact z
      have rp1_S13 : aS 75 S13 = aGw (aS 75 S11) 0 := by
        have z := rp1_S13
        (try rw [show mI S11 65 = f 65 from funext (fun k => zG_z hI_S11 rfl)] at z)
        (try rw [show mI S11 64 1 = f 64 1 from zG_z hI_S11 rfl] at z)
        exact z
      refine sp_86_69_75_s (ab := (aS 75 S13)) (by omega) (by omega) (zJ82_dn hI_S13) (show xB S13 (mR S13 70) from by first | (exact xB_x (xC_o (W := 75) rp0_S13).2)) (show aS 75 S13 = (aS 75 S13) from by first | (exact rfl)) (fun v16 S15 hL_S15 hp_v16 rp0_S15 rp1_S15 => zi_n ⟨zG_T hL_S15, ?_⟩)
      have hI_S15 := zJ82_up hI_S13 hL_S15
      have rp0_S15 : xB S15 (mR S15 70) := by
        have z := rp0_S15
        (try rw [show mI S13 65 = f 65 from funext (fun k => zG_z hI_S13 rfl)] at z)
        (try rw [show mI S13 64 1 = f 64 1 from zG_z hI_S13 rfl] at z)
        exact z
      have rp1_S15 : aS 75 S15 = aMv (aS 75 S13) 0 ∧ v16 = aMv (aS 75 S13) 0 69 11 - (aS 75 S13) 69 11 := by
        have z := rp1_S15
        (try rw [show mI S13 65 = f 65 from funext (fun k => zG_z hI_S13 rfl)] at z)
        (try rw [show mI S13 64 1 = f 64 1 from zG_z hI_S13 rfl] at z)
        exact z
      have q19 : (mI S9 82 6).toInt = (mI S7 82 6).toInt := zG_zi hL_S9 rfl
      have f20 := zG_s hI_S9 (0) (400000) (c := 82) (k := 6) (by decide)
      have q21 : (mI S11 82 6).toInt = (mI S9 82 6).toInt := zG_zi hL_S11 rfl
      have f22 := zG_s hI_S11 (0) (400000) (c := 82) (k := 6) (by decide)
      have q23 : (mI S13 82 6).toInt = (mI S11 82 6).toInt := zG_zi hL_S13 rfl
      have f24 := zG_s hI_S13 (0) (400000) (c := 82) (k := 6) (by decide)
      have q25 : (mI S15 82 6).toInt = (mI S13 82 6).toInt := zG_zi hL_S15 rfl
      have f26 := zG_s hI_S15 (0) (400000) (c := 82) (k := 6) (by decide)
      refine sp_15_82_sy (ab := (aG S15)) (st := (2 * ((gM0 ab) 87 9).toInt + ((gM0 ab) 87 5).toInt - ((gM0 ab) 87 3).toInt)) (ot := ((gM0 ab) 87 3).toInt) (o0 := ((gM0 ab) 87 10).toInt) (PP := (gPf (gMk1 (gM0 ab)))) (NN := (gNf (gMk1 (gM0 ab)))) (by omega) (by omega) hI_S15 (show (mI S15 82 6).toInt ≤ 1500 from by omega) (show xB S15 (mR S15 70) from by first | (exact xB_x (xC_o (W := 75) rp0_S15).2)) (show aG S15 = (aG S15) from by first | (exact rfl)) (show qJg (gM9 (aG S15)) (2 * ((gM0 ab) 87 9).toInt + ((gM0 ab) 87 5).toInt - ((gM0 ab) 87 3).toInt) ((gM0 ab) 87 3).toInt ((gM0 ab) 87 10).toInt (gPf (gMk1 (gM0 ab))) (gNf (gMk1 (gM0 ab))) 0 from by first | (have e9 : (ab 87 9).toInt = (mI S 82 3).toInt := (by rw [← hpre1]; rfl); have e10 : (ab 87 10).toInt = (mI S 82 6).toInt := (by rw [← hpre1]; rfl); have w1 := rp0_S1; rw [hpre1] at w1; have m0 := M0_n (a := ab) (show ¬ gFu ab from by unfold gFu; omega); have g0 : aG S = gM0 ab := hpre1.trans m0.1.symm; have w2 := rp0_S3; rw [g0] at w2; have f9 : (gM0 ab 87 9).toInt = (mI S 82 3).toInt := (by rw [← g0]; rfl); have f10 : (gM0 ab 87 10).toInt = (mI S 82 6).toInt := (by rw [← g0]; rfl); exact J9 (Av_m0 hpre2) (show ¬ gFu (gM0 ab) from by unfold gFu; omega) (Mk_e g0 rp1_S5 rfl rp1_S7 rp1_S9 rp1_S11.1 rp1_S13 rp1_S15.1 (show mI S5 82 = mI S 82 from funext (fun _ => zG_z hL_S5 rfl)) (show mI S5 83 = mI S 83 from funext (fun _ => zG_z hL_S5 rfl)) (show mI S7 82 = mI S5 82 from funext (fun _ => zG_z hL_S7 rfl)) (show mI S7 83 = mI S5 83 from funext (fun _ => zG_z hL_S7 rfl)) (show mI S11 82 = mI S9 82 from funext (fun _ => zG_z hL_S11 rfl)) (show mI S11 83 = mI S9 83 from funext (fun _ => zG_z hL_S11 rfl)) (show mI S13 82 = mI S11 82 from funext (fun _ => zG_z hL_S13 rfl)) (show mI S13 83 = mI S11 83 from funext (fun _ => zG_z hL_S13 rfl)) (show mI S15 82 = mI S13 82 from funext (fun _ => zG_z hL_S15 rfl)) (show mI S15 83 = mI S13 83 from funext (fun _ => zG_z hL_S15 rfl))).2.2)) (fun S17 hI_S17 rp0_S17 rp1_S17 => zv_n ⟨zG_T hI_S17, ?_⟩)
      have rp0_S17 : xB S17 (mR S17 70) := rp0_S17
      have rp1_S17 : aG S17 = gMf ((aG S15) 75 4).toInt.toNat 0 (gM9 (aG S15)) := rp1_S17
      refine sp_6_82_sy (ab := (aG S17)) (by omega) (by omega) hI_S17 (show xB S17 (mR S17 70) from by first | (exact xB_x (xC_o (W := 75) rp0_S17).2)) (show aG S17 = (aG S17) from by first | (exact rfl)) (show qI (aG S17) from by first | (have e9 : (ab 87 9).toInt = (mI S 82 3).toInt := (by rw [← hpre1]; rfl); have e10 : (ab 87 10).toInt = (mI S 82 6).toInt := (by rw [← hpre1]; rfl); have w1 := rp0_S1; rw [hpre1] at w1; have m0 := M0_n (a := ab) (show ¬ gFu ab from by unfold gFu; omega); have g0 : aG S = gM0 ab := hpre1.trans m0.1.symm; have w2 := rp0_S3; rw [g0] at w2; have f9 : (gM0 ab 87 9).toInt = (mI S 82 3).toInt := (by rw [← g0]; rfl); have f10 : (gM0 ab 87 10).toInt = (mI S 82 6).toInt := (by rw [← g0]; rfl); have mf := Mf_I (Av_m0 hpre2) (show ¬ gFu (gM0 ab) from by unfold gFu; omega); rw [rp1_S17, (Mk_e g0 rp1_S5 rfl rp1_S7 rp1_S9 rp1_S11.1 rp1_S13 rp1_S15.1 (show mI S5 82 = mI S 82 from funext (fun _ => zG_z hL_S5 rfl)) (show mI S5 83 = mI S 83 from funext (fun _ => zG_z hL_S5 rfl)) (show mI S7 82 = mI S5 82 from funext (fun _ => zG_z hL_S7 rfl)) (show mI S7 83 = mI S5 83 from funext (fun _ => zG_z hL_S7 rfl)) (show mI S11 82 = mI S9 82 from funext (fun _ => zG_z hL_S11 rfl)) (show mI S11 83 = mI S9 83 from funext (fun _ => zG_z hL_S11 rfl)) (show mI S13 82 = mI S11 82 from funext (fun _ => zG_z hL_S13 rfl)) (show mI S13 83 = mI S11 83 from funext (fun _ => zG_z hL_S13 rfl)) (show mI S15 82 = mI S13 82 from funext (fun _ => zG_z hL_S15 rfl)) (show mI S15 83 = mI S13 83 from funext (fun _ => zG_z hL_S15 rfl))).2.2]; exact mf.1)) (fun S19 hI_S19 rp0_S19 rp1_S19 => zv_n ⟨zG_T hI_S19, ?_⟩)
      have rp0_S19 : xB S19 (mR S19 70) := rp0_S19
      have rp1_S19 : aG S19 = gFd (aG S17) := rp1_S19
      have li27 : (0 : Int32).toInt = 0 := rfl
      have b28 := i_bd v16
      first | have e29 : ((0 : Int32) + v16).toInt = (0 : Int32).toInt + v16.toInt := i_add (by omega) (by omega) | have b30 := i_bd ((0 : Int32) + v16)
      exact K (((0 : Int32) + v16)) _ hI_S19 trivial (show xB S19 (mR S19 70) from by first | (exact xB_x (xC_o (W := 75) rp0_S19).2)) (show aG S19 = gMi ab ∧ ((0 : Int32) + v16) = gVi ab from by first | (have e9 : (ab 87 9).toInt = (mI S 82 3).toInt := (by rw [← hpre1]; rfl); have e10 : (ab 87 10).toInt = (mI S 82 6).toInt := (by rw [← hpre1]; rfl); have w1 := rp0_S1; rw [hpre1] at w1; have m0 := M0_n (a := ab) (show ¬ gFu ab from by unfold gFu; omega); have g0 : aG S = gM0 ab := hpre1.trans m0.1.symm; have w2 := rp0_S3; rw [g0] at w2; have f9 : (gM0 ab 87 9).toInt = (mI S 82 3).toInt := (by rw [← g0]; rfl); have f10 : (gM0 ab 87 10).toInt = (mI S 82 6).toInt := (by rw [← g0]; rfl); have mi := Mi_n (a := ab) (show ¬ gFu (gM0 ab) from by unfold gFu; omega); have me := (Mk_e g0 rp1_S5 rfl rp1_S7 rp1_S9 rp1_S11.1 rp1_S13 rp1_S15.1 (show mI S5 82 = mI S 82 from funext (fun _ => zG_z hL_S5 rfl)) (show mI S5 83 = mI S 83 from funext (fun _ => zG_z hL_S5 rfl)) (show mI S7 82 = mI S5 82 from funext (fun _ => zG_z hL_S7 rfl)) (show mI S7 83 = mI S5 83 from funext (fun _ => zG_z hL_S7 rfl)) (show mI S11 82 = mI S9 82 from funext (fun _ => zG_z hL_S11 rfl)) (show mI S11 83 = mI S9 83 from funext (fun _ => zG_z hL_S11 rfl)) (show mI S13 82 = mI S11 82 from funext (fun _ => zG_z hL_S13 rfl)) (show mI S13 83 = mI S11 83 from funext (fun _ => zG_z hL_S13 rfl)) (show mI S15 82 = mI S13 82 from funext (fun _ => zG_z hL_S15 rfl)) (show mI S15 83 = mI S13 83 from funext (fun _ => zG_z hL_S15 rfl))); have mf := Mf_I (Av_m0 hpre2) (show ¬ gFu (gM0 ab) from by unfold gFu; omega); refine ⟨?_, ?_⟩; (rw [rp1_S19, rp1_S17, me.2.2, mf.2, mi.1]); (rw [mi.2, m0.2, rp1_S15.2]; have k6 : gMk0 (gM0 ab) 69 11 = aMv (aS 75 S13) 0 69 11 := (by rw [← me.2.2, aG_o (by decide) (by decide), rp1_S15.1]); have k5 : gKp (gM0 ab) 69 11 = aS 75 S13 69 11 := (by rw [← me.2.1, aG_o (by decide) (by decide)]); rw [k6, k5])))
    · skip
      have g31 := i_nle h12
      have li32 : (0 : Int32).toInt = 0 := rfl
      exact K ((0 : Int32)) _ hI trivial (show xB S (mR S 70) from by first | (exact xB_x (xC_o (W := 75) hpre0).2)) (show aG S = gMi ab ∧ (0 : Int32) = gVi ab from by first | (have e9 : (ab 87 9).toInt = (mI S 82 3).toInt := (by rw [← hpre1]; rfl); have e10 : (ab 87 10).toInt = (mI S 82 6).toInt := (by rw [← hpre1]; rfl); have w1 := rp0_S1; rw [hpre1] at w1; have m0 := M0_n (a := ab) (show ¬ gFu ab from by unfold gFu; omega); have g0 : aG S = gM0 ab := hpre1.trans m0.1.symm; have w2 := rp0_S3; rw [g0] at w2; have f9 : (gM0 ab 87 9).toInt = (mI S 82 3).toInt := (by rw [← g0]; rfl); have f10 : (gM0 ab 87 10).toInt = (mI S 82 6).toInt := (by rw [← g0]; rfl); have mi := Mi_y (a := ab) (show gFu (gM0 ab) from by unfold gFu; omega); exact ⟨g0.trans mi.1.symm, by rw [mi.2, m0.2]⟩))
  · skip
    have g33 := i_nle h7
    refine sp_5_82_sy (ab := (aG S)) (by omega) (by omega) hI (show xB S (mR S 70) from by first | (exact xB_x (xC_o (W := 75) hpre0).2)) (show aG S = (aG S) from by first | (exact rfl)) (show qAv (aG S) from by first | (exact hpre2) | (rw [hpre1]; exact hpre2) | (rw [hpre1]; exact hpre2)) (fun v22 S21 hI_S21 hp_v22 rp0_S21 rp1_S21 => zi_n ⟨zG_T hI_S21, ?_⟩)
    have rp0_S21 : xB S21 (mR S21 70) := rp0_S21
    have rp1_S21 : aG S21 = gMa (aG S) ∧ v22 = aSv (aG S) := rp1_S21
    refine sp_12_82_sy  (by omega) (by omega) hI_S21 (show xB S21 (mR S21 70) from by first | (exact xB_x (xC_o (W := 75) rp0_S21).2)) (show qAv (aG S21) from by first | (have e9 : (ab 87 9).toInt = (mI S 82 3).toInt := (by rw [← hpre1]; rfl); have e10 : (ab 87 10).toInt = (mI S 82 6).toInt := (by rw [← hpre1]; rfl); have w1 := rp0_S1; rw [hpre1] at w1; have m0 := M0_y (a := ab) (show gFu ab from by unfold gFu; omega); have g0 : aG S21 = gM0 ab := (rp1_S21.1.trans (congrArg gMa hpre1)).trans m0.1.symm; rw [g0]; exact Av_m0 hpre2)) (fun v24 S23 eS_S23 hp_v24 rp0_S23 => zi_n ⟨(by rw [eS_S23]; exact zG_T hI_S21), ?_⟩)
    replace eS_S23 := eS_S23.symm; subst eS_S23
    have rp0_S23 : v24.toInt = gGr (aG S21) 512 := rp0_S23
    have f34 := zG_s hI_S21 (0) (400000) (c := 82) (k := 6) (by decide)
    have b35 := i_bd v24
    first | have e36 : ((mI S21 82 6) + v24).toInt = (mI S21 82 6).toInt + v24.toInt := i_add (by omega) (by omega) | have b37 := i_bd ((mI S21 82 6) + v24)
    have x38 : (mI S21 82 3).toInt ≤ (mI S21 82 7).toInt ∧ (mI S21 82 7).toInt ≤ (mI S21 82 3).toInt + (mI S21 82 2).toInt := zG_x hI_S21
    have f39 := zG_s hI_S21 (0) (1500) (c := 82) (k := 3) (by decide)
    refine zd (fun h40 => ?_) (fun h40 => ?_)
    · skip
      have g41 := i_le h40
      refine sp_117_75_s (ab := (aS 75 S21)) (R := (mR S21 70)) (a8 := (aS 88 S21)) ((mI S21 82 3)) (by omega) (by omega) (zJ82_dn hI_S21) (show xB S21 (mR S21 70) from by first | (exact xB_x (xC_o (W := 75) rp0_S21).2)) (show aS 75 S21 = (aS 75 S21) from by first | (exact rfl)) (show aS 88 S21 = (aS 88 S21) from by first | (exact rfl)) (fun S25 hL_S25 rp0_S25 rp1_S25 rp2_S25 => zv_n ⟨zG_T hL_S25, ?_⟩)
      have hI_S25 := zJ82_up hI_S21 hL_S25
      have rp0_S25 : xB S25 (mR S21 70) := by
        have z := rp0_S25
        (try rw [show mI S21 65 = f 65 from funext (fun k => zG_z hI_S21 rfl)] at z)
        (try rw [show mI S21 64 1 = f 64 1 from zG_z hI_S21 rfl] at z)
        exact z
      have rp1_S25 : aS 75 S25 = aWh (aS 75 S21) (mI S21 82 3) := by
        have z := rp1_S25
        (try rw [show mI S21 65 = f 65 from funext (fun k => zG_z hI_S21 rfl)] at z)
        (try rw [show mI S21 64 1 = f 64 1 from zG_z hI_S21 rfl] at z)
        exact z
      have rp2_S25 : aS 88 S25 = (aS 88 S21) := by
        have z := rp2_S25
        (try rw [show mI S21 65 = f 65 from funext (fun k => zG_z hI_S21 rfl)] at z)
        (try rw [show mI S21 64 1 = f 64 1 from zG_z hI_S21 rfl] at z)
        exact z
      refine sp_118_75_s (ab := (aS 75 S25)) (R := (mR S25 70)) (a8 := (aS 88 S25)) (by omega) (by omega) (zJ82_dn hI_S25) (show xB S25 (mR S25 70) from by first | (exact xB_x (xC_o (W := 75) rp0_S25).2)) (show aS 75 S25 = (aS 75 S25) from by first | (exact rfl)) (show aS 88 S25 = (aS 88 S25) from by first | (exact rfl)) (fun S27 hL_S27 rp0_S27 rp1_S27 rp2_S27 => zv_n ⟨zG_T hL_S27, ?_⟩)
      have hI_S27 := zJ82_up hI_S25 hL_S27
      have rp0_S27 : xB S27 (mR S25 70) := by
        have z := rp0_S27
        (try rw [show mI S25 65 = f 65 from funext (fun k => zG_z hI_S25 rfl)] at z)
        (try rw [show mI S25 64 1 = f 64 1 from zG_z hI_S25 rfl] at z)
        exact z
      have rp1_S27 : aS 75 S27 = aRo (aS 75 S25) 0 := by
        have z := rp1_S27
        (try rw [show mI S25 65 = f 65 from funext (fun k => zG_z hI_S25 rfl)] at z)
        (try rw [show mI S25 64 1 = f 64 1 from zG_z hI_S25 rfl] at z)
        exact z
      have rp2_S27 : aS 88 S27 = (aS 88 S25) := by
        have z := rp2_S27
        (try rw [show mI S25 65 = f 65 from funext (fun k => zG_z hI_S25 rfl)] at z)
        (try rw [show mI S25 64 1 = f 64 1 from zG_z hI_S25 rfl] at z)
        exact z
      have q42 : (mI S25 82 6).toInt = (mI S21 82 6).toInt := zG_zi hL_S25 rfl
      have f43 := zG_s hI_S25 (0) (400000) (c := 82) (k := 6) (by decide)
      have q44 : (mI S27 82 6).toInt = (mI S25 82 6).toInt := zG_zi hL_S27 rfl
      have f45 := zG_s hI_S27 (0) (400000) (c := 82) (k := 6) (by decide)
      refine sp_13_82_sy (ab := (aG S27)) (R := (mR S27 70)) (by omega) (by omega) (zJ82_dn hI_S27) (show xB S27 (mR S27 70) from by first | (exact xB_x (xC_o (W := 75) rp0_S27).2)) (show aG S27 = (aG S27) from by first | (exact rfl)) (show zS1 (aG S27) from by first | (have e9 : (ab 87 9).toInt = (mI S 82 3).toInt := (by rw [← hpre1]; rfl); have e10 : (ab 87 10).toInt = (mI S 82 6).toInt := (by rw [← hpre1]; rfl); have w1 := rp0_S1; rw [hpre1] at w1; have m0 := M0_y (a := ab) (show gFu ab from by unfold gFu; omega); have g0 : aG S21 = gM0 ab := (rp1_S21.1.trans (congrArg gMa hpre1)).trans m0.1.symm; have w2 := rp0_S23; rw [g0] at w2; have f9 : (gM0 ab 87 9).toInt = (mI S21 82 3).toInt := (by rw [← g0]; rfl); have f10 : (gM0 ab 87 10).toInt = (mI S21 82 6).toInt := (by rw [← g0]; rfl); exact S1_t2 (Av_m0 hpre2) (T2_e g0 rp1_S25 rfl rp1_S27 (show mI S25 82 = mI S21 82 from funext (fun _ => zG_z hL_S25 rfl)) (show mI S25 83 = mI S21 83 from funext (fun _ => zG_z hL_S25 rfl)) (show mI S27 82 = mI S25 82 from funext (fun _ => zG_z hL_S27 rfl)) (show mI S27 83 = mI S25 83 from funext (fun _ => zG_z hL_S27 rfl))))) (show (mI S27 82 6).toInt ≤ 400000 from by omega) (fun S29 hL_S29 rp0_S29 rp1_S29 => zv_n ⟨zG_T hL_S29, ?_⟩)
      have hI_S29 := zJ82_up hI_S27 hL_S29
      have rp0_S29 : xB S29 (mR S27 70) := by
        have z := rp0_S29
        (try rw [show mI S27 65 = f 65 from funext (fun k => zG_z hI_S27 rfl)] at z)
        (try rw [show mI S27 64 1 = f 64 1 from zG_z hI_S27 rfl] at z)
        exact z
      have rp1_S29 : aG S29 = gDp (aG S27) ((aG S27) 87 10).toInt 0 := by
        have z := rp1_S29
        (try rw [show mI S27 65 = f 65 from funext (fun k => zG_z hI_S27 rfl)] at z)
        (try rw [show mI S27 64 1 = f 64 1 from zG_z hI_S27 rfl] at z)
        exact z
      have li46 : (512 : Int32).toInt = 512 := rfl
      refine sp_120_75_s (ab := (aS 75 S29)) (R := (mR S29 70)) (a8 := (aS 88 S29)) ((512 : Int32)) (by omega) (by omega) (zJ82_dn hI_S29) (show xB S29 (mR S29 70) from by first | (exact xB_x (xC_o (W := 75) rp0_S29).2)) (show aS 75 S29 = (aS 75 S29) from by first | (exact rfl)) (by omega) (show aS 88 S29 = (aS 88 S29) from by first | (exact rfl)) (fun v32 S31 hL_S31 hp_v32 rp0_S31 rp1_S31 rp2_S31 => zi_n ⟨zG_T hL_S31, ?_⟩)
      have hI_S31 := zJ82_up hI_S29 hL_S31
      have rp0_S31 : xB S31 (mR S29 70) := by
        have z := rp0_S31
        (try rw [show mI S29 65 = f 65 from funext (fun k => zG_z hI_S29 rfl)] at z)
        (try rw [show mI S29 64 1 = f 64 1 from zG_z hI_S29 rfl] at z)
        exact z
      have rp1_S31 : aS 75 S31 = aSp (512 : Int32).toInt.toNat (aS 75 S29) ∧ v32.toInt = (aSn (512 : Int32).toInt.toNat (aS 75 S29) : Int) := by
        have z := rp1_S31
        (try rw [show mI S29 65 = f 65 from funext (fun k => zG_z hI_S29 rfl)] at z)
        (try rw [show mI S29 64 1 = f 64 1 from zG_z hI_S29 rfl] at z)
        exact z
      have rp2_S31 : aS 88 S31 = (aS 88 S29) := by
        have z := rp2_S31
        (try rw [show mI S29 65 = f 65 from funext (fun k => zG_z hI_S29 rfl)] at z)
        (try rw [show mI S29 64 1 = f 64 1 from zG_z hI_S29 rfl] at z)
        exact z
      refine sp_83_69_75_s (ab := (aS 75 S31)) (R := (mR S31 70)) (by omega) (by omega) (zJ82_dn hI_S31) (show xB S31 (mR S31 70) from by first | (exact xB_x (xC_o (W := 75) rp0_S31).2)) (show aS 75 S31 = (aS 75 S31) from by first | (exact rfl)) (fun S33 hL_S33 rp0_S33 rp1_S33 => zv_n ⟨zG_T hL_S33, ?_⟩)
      have hI_S33 := zJ82_up hI_S31 hL_S33
      have rp0_S33 : xB S33 (mR S31 70) := by
        have z := rp0_S33
        (try rw [show mI S31 65 = f 65 from funext (fun k => zG_z hI_S31 rfl)] at z)
        (try rw [show mI S31 64 1 = f 64 1 from zG_z hI_S31 rfl] at z)
        exact z
      have rp1_S33 : aS 75 S33 = aGw (aS 75 S31) 0 := by
        have z := rp1_S33
        (try rw [show mI S31 65 = f 65 from funext (fun k => zG_z hI_S31 rfl)] at z)
        (try rw [show mI S31 64 1 = f 64 1 from zG_z hI_S31 rfl] at z)
        exact z
      refine sp_86_69_75_s (ab := (aS 75 S33)) (by omega) (by omega) (zJ82_dn hI_S33) (show xB S33 (mR S33 70) from by first | (exact xB_x (xC_o (W := 75) rp0_S33).2)) (show aS 75 S33 = (aS 75 S33) from by first | (exact rfl)) (fun v36 S35 hL_S35 hp_v36 rp0_S35 rp1_S35 => zi_n ⟨zG_T hL_S35, ?_⟩)
      have hI_S35 := zJ82_up hI_S33 hL_S35
      have rp0_S35 : xB S35 (mR S35 70) := by
        have z := rp0_S35
        (try rw [show mI S33 65 = f 65 from funext (fun k => zG_z hI_S33 rfl)] at z)
        (try rw [show mI S33 64 1 = f 64 1 from zG_z hI_S33 rfl] at z)
        exact z
      have rp1_S35 : aS 75 S35 = aMv (aS 75 S33) 0 ∧ v36 = aMv (aS 75 S33) 0 69 11 - (aS 75 S33) 69 11 := by
        have z := rp1_S35
        (try rw [show mI S33 65 = f 65 from funext (fun k => zG_z hI_S33 rfl)] at z)
        (try rw [show mI S33 64 1 = f 64 1 from zG_z hI_S33 rfl] at z)
        exact z
      have q47 : (mI S29 82 6).toInt = (mI S27 82 6).toInt := zG_zi hL_S29 rfl
      have f48 := zG_s hI_S29 (0) (400000) (c := 82) (k := 6) (by decide)
      have q49 : (mI S31 82 6).toInt = (mI S29 82 6).toInt := zG_zi hL_S31 rfl
      have f50 := zG_s hI_S31 (0) (400000) (c := 82) (k := 6) (by decide)
      have q51 : (mI S33 82 6).toInt = (mI S31 82 6).toInt := zG_zi hL_S33 rfl
      have f52 := zG_s hI_S33 (0) (400000) (c := 82) (k := 6) (by decide)
      have q53 : (mI S35 82 6).toInt = (mI S33 82 6).toInt := zG_zi hL_S35 rfl
      have f54 := zG_s hI_S35 (0) (400000) (c := 82) (k := 6) (by decide)
      refine sp_15_82_sy (ab := (aG S35)) (st := (2 * ((gM0 ab) 87 9).toInt + ((gM0 ab) 87 5).toInt - ((gM0 ab) 87 3).toInt)) (ot := ((gM0 ab) 87 3).toInt) (o0 := ((gM0 ab) 87 10).toInt) (PP := (gPf (gMk1 (gM0 ab)))) (NN := (gNf (gMk1 (gM0 ab)))) (by omega) (by omega) hI_S35 (show (mI S35 82 6).toInt ≤ 1500 from by omega) (show xB S35 (mR S35 70) from by first | (exact xB_x (xC_o (W := 75) rp0_S35).2)) (show aG S35 = (aG S35) from by first | (exact rfl)) (show qJg (gM9 (aG S35)) (2 * ((gM0 ab) 87 9).toInt + ((gM0 ab) 87 5).toInt - ((gM0 ab) 87 3).toInt) ((gM0 ab) 87 3).toInt ((gM0 ab) 87 10).toInt (gPf (gMk1 (gM0 ab))) (gNf (gMk1 (gM0 ab))) 0 from by first | (have e9 : (ab 87 9).toInt = (mI S 82 3).toInt := (by rw [← hpre1]; rfl); have e10 : (ab 87 10).toInt = (mI S 82 6).toInt := (by rw [← hpre1]; rfl); have w1 := rp0_S1; rw [hpre1] at w1; have m0 := M0_y (a := ab) (show gFu ab from by unfold gFu; omega); have g0 : aG S21 = gM0 ab := (rp1_S21.1.trans (congrArg gMa hpre1)).trans m0.1.symm; have w2 := rp0_S23; rw [g0] at w2; have f9 : (gM0 ab 87 9).toInt = (mI S21 82 3).toInt := (by rw [← g0]; rfl); have f10 : (gM0 ab 87 10).toInt = (mI S21 82 6).toInt := (by rw [← g0]; rfl); exact J9 (Av_m0 hpre2) (show ¬ gFu (gM0 ab) from by unfold gFu; omega) (Mk_e g0 rp1_S25 rfl rp1_S27 rp1_S29 rp1_S31.1 rp1_S33 rp1_S35.1 (show mI S25 82 = mI S21 82 from funext (fun _ => zG_z hL_S25 rfl)) (show mI S25 83 = mI S21 83 from funext (fun _ => zG_z hL_S25 rfl)) (show mI S27 82 = mI S25 82 from funext (fun _ => zG_z hL_S27 rfl)) (show mI S27 83 = mI S25 83 from funext (fun _ => zG_z hL_S27 rfl)) (show mI S31 82 = mI S29 82 from funext (fun _ => zG_z hL_S31 rfl)) (show mI S31 83 = mI S29 83 from funext (fun _ => zG_z hL_S31 rfl)) (show mI S33 82 = mI S31 82 from funext (fun _ => zG_z hL_S33 rfl)) (show mI S33 83 = mI S31 83 from funext (fun _ => zG_z hL_S33 rfl)) (show mI S35 82 = mI S33 82 from funext (fun _ => zG_z hL_S35 rfl)) (show mI S35 83 = mI S33 83 from funext (fun _ => zG_z hL_S35 rfl))).2.2)) (fun S37 hI_S37 rp0_S37 rp1_S37 => zv_n ⟨zG_T hI_S37, ?_⟩)
      have rp0_S37 : xB S37 (mR S37 70) := rp0_S37
      have rp1_S37 : aG S37 = gMf ((aG S35) 75 4).toInt.toNat 0 (gM9 (aG S35)) := rp1_S37
      refine sp_6_82_sy (ab := (aG S37)) (by omega) (by omega) hI_S37 (show xB S37 (mR S37 70) from by first | (exact xB_x (xC_o (W := 75) rp0_S37).2)) (show aG S37 = (aG S37) from by first | (exact rfl)) (show qI (aG S37) from by first | (have e9 : (ab 87 9).toInt = (mI S 82 3).toInt := (by rw [← hpre1]; rfl); have e10 : (ab 87 10).toInt = (mI S 82 6).toInt := (by rw [← hpre1]; rfl); have w1 := rp0_S1; rw [hpre1] at w1; have m0 := M0_y (a := ab) (show gFu ab from by unfold gFu; omega); have g0 : aG S21 = gM0 ab := (rp1_S21.1.trans (congrArg gMa hpre1)).trans m0.1.symm; have w2 := rp0_S23; rw [g0] at w2; have f9 : (gM0 ab 87 9).toInt = (mI S21 82 3).toInt := (by rw [← g0]; rfl); have f10 : (gM0 ab 87 10).toInt = (mI S21 82 6).toInt := (by rw [← g0]; rfl); have mf := Mf_I (Av_m0 hpre2) (show ¬ gFu (gM0 ab) from by unfold gFu; omega); rw [rp1_S37, (Mk_e g0 rp1_S25 rfl rp1_S27 rp1_S29 rp1_S31.1 rp1_S33 rp1_S35.1 (show mI S25 82 = mI S21 82 from funext (fun _ => zG_z hL_S25 rfl)) (show mI S25 83 = mI S21 83 from funext (fun _ => zG_z hL_S25 rfl)) (show mI S27 82 = mI S25 82 from funext (fun _ => zG_z hL_S27 rfl)) (show mI S27 83 = mI S25 83 from funext (fun _ => zG_z hL_S27 rfl)) (show mI S31 82 = mI S29 82 from funext (fun _ => zG_z hL_S31 rfl)) (show mI S31 83 = mI S29 83 from funext (fun _ => zG_z hL_S31 rfl)) (show mI S33 82 = mI S31 82 from funext (fun _ => zG_z hL_S33 rfl)) (show mI S33 83 = mI S31 83 from funext (fun _ => zG_z hL_S33 rfl)) (show mI S35 82 = mI S33 82 from funext (fun _ => zG_z hL_S35 rfl)) (show mI S35 83 = mI S33 83 from funext (fun _ => zG_z hL_S35 rfl))).2.2]; exact mf.1)) (fun S39 hI_S39 rp0_S39 rp1_S39 => zv_n ⟨zG_T hI_S39, ?_⟩)
      have rp0_S39 : xB S39 (mR S39 70) := rp0_S39
      have rp1_S39 : aG S39 = gFd (aG S37) := rp1_S39
      have b55 := i_bd v22
      have b56 := i_bd v36
      first | have e57 : (v22 + v36).toInt = v22.toInt + v36.toInt := i_add (by omega) (by omega) | have b58 := i_bd (v22 + v36)
      exact K ((v22 + v36)) _ hI_S39 trivial (show xB S39 (mR S39 70) from by first | (exact xB_x (xC_o (W := 75) rp0_S39).2)) (show aG S39 = gMi ab ∧ (v22 + v36) = gVi ab from by first | (have e9 : (ab 87 9).toInt = (mI S 82 3).toInt := (by rw [← hpre1]; rfl); have e10 : (ab 87 10).toInt = (mI S 82 6).toInt := (by rw [← hpre1]; rfl); have w1 := rp0_S1; rw [hpre1] at w1; have m0 := M0_y (a := ab) (show gFu ab from by unfold gFu; omega); have g0 : aG S21 = gM0 ab := (rp1_S21.1.trans (congrArg gMa hpre1)).trans m0.1.symm; have w2 := rp0_S23; rw [g0] at w2; have f9 : (gM0 ab 87 9).toInt = (mI S21 82 3).toInt := (by rw [← g0]; rfl); have f10 : (gM0 ab 87 10).toInt = (mI S21 82 6).toInt := (by rw [← g0]; rfl); have mi := Mi_n (a := ab) (show ¬ gFu (gM0 ab) from by unfold gFu; omega); have me := (Mk_e g0 rp1_S25 rfl rp1_S27 rp1_S29 rp1_S31.1 rp1_S33 rp1_S35.1 (show mI S25 82 = mI S21 82 from funext (fun _ => zG_z hL_S25 rfl)) (show mI S25 83 = mI S21 83 from funext (fun _ => zG_z hL_S25 rfl)) (show mI S27 82 = mI S25 82 from funext (fun _ => zG_z hL_S27 rfl)) (show mI S27 83 = mI S25 83 from funext (fun _ => zG_z hL_S27 rfl)) (show mI S31 82 = mI S29 82 from funext (fun _ => zG_z hL_S31 rfl)) (show mI S31 83 = mI S29 83 from funext (fun _ => zG_z hL_S31 rfl)) (show mI S33 82 = mI S31 82 from funext (fun _ => zG_z hL_S33 rfl)) (show mI S33 83 = mI S31 83 from funext (fun _ => zG_z hL_S33 rfl)) (show mI S35 82 = mI S33 82 from funext (fun _ => zG_z hL_S35 rfl)) (show mI S35 83 = mI S33 83 from funext (fun _ => zG_z hL_S35 rfl))); have mf := Mf_I (Av_m0 hpre2) (show ¬ gFu (gM0 ab) from by unfold gFu; omega); refine ⟨?_, ?_⟩; (rw [rp1_S39, rp1_S37, me.2.2, mf.2, mi.1]); (rw [mi.2, m0.2, rp1_S35.2]; have k6 : gMk0 (gM0 ab) 69 11 = aMv (aS 75 S33) 0 69 11 := (by rw [← me.2.2, aG_o (by decide) (by decide), rp1_S35.1]); have k5 : gKp (gM0 ab) 69 11 = aS 75 S33 69 11 := (by rw [← me.2.1, aG_o (by decide) (by decide)]); rw [k6, k5, rp1_S21.2.trans (congrArg aSv hpre1)])))
    · skip
      have g59 := i_nle h40
      have b60 := i_bd v22
      exact K (v22) _ hI_S21 trivial (show xB S21 (mR S21 70) from by first | (exact xB_x (xC_o (W := 75) rp0_S21).2)) (show aG S21 = gMi ab ∧ v22 = gVi ab from by first | (have e9 : (ab 87 9).toInt = (mI S 82 3).toInt := (by rw [← hpre1]; rfl); have e10 : (ab 87 10).toInt = (mI S 82 6).toInt := (by rw [← hpre1]; rfl); have w1 := rp0_S1; rw [hpre1] at w1; have m0 := M0_y (a := ab) (show gFu ab from by unfold gFu; omega); have g0 : aG S21 = gM0 ab := (rp1_S21.1.trans (congrArg gMa hpre1)).trans m0.1.symm; have w2 := rp0_S23; rw [g0] at w2; have f9 : (gM0 ab 87 9).toInt = (mI S21 82 3).toInt := (by rw [← g0]; rfl); have f10 : (gM0 ab 87 10).toInt = (mI S21 82 6).toInt := (by rw [← g0]; rfl); have mi := Mi_y (a := ab) (show gFu (gM0 ab) from by unfold gFu; omega); exact ⟨g0.trans mi.1.symm, by rw [mi.2, m0.2]; exact rp1_S21.2.trans (congrArg aSv hpre1)⟩))

/-! from 95.u26 -/
/-! AGES, the class (written by wip/tools/gen15y.py) -/
theorem g_19_82_sy_0 {X : Nat × (Nat → Int32)} {d w : Nat} {S : ma_S} {Q : Option ma_V ⊕ Nat → ma_S → Prop}  (hd : 5 ≤ d) (hw : 180 ≤ w) (hS : zT S) (h : ma_wp X (d - 1) (w - 21) 5 0 [(0, .inr (.inr (some 82)))] [] S (zi (fun v2 S1 => zT S1 ∧ (ma_wp X (d - 1) (w - 21) 11 0 [(0, .inr (.inr (some 82)))] [] S1 (zi (fun v4 S3 => zT S3 ∧ (Q (.inl (some (.inl (v2 + v4)))) S3)) (fun x S9 => Q (.inr x) S9)))) (fun x S9 => Q (.inr x) S9))) : ma_wp X d w 19 0 [(0, .inr (.inr (some 82)))] [] S Q := by
  refine zw_push hm_19 dX0_cleanAll_0 (v := .inr (.inr (some 82))) rfl ?_
  refine zw_cv hm_19 dX0_cleanAll_1 v_1_55_1 hm_5 [] [] rfl (zT_rt hS s_82 rfl) ⟨by omega, by omega⟩ rfl (zw_mono h (zi_go ?_ ?_))
  · intro v2 S1 hv
    obtain ⟨hS1, h⟩ := hv
    refine zw_sto hm_19 dX0_cleanAll_4 [(1, .inl v2), (0, .inr (.inr (some 82)))] rfl rfl rfl ?_
    refine zw_push hm_19 dX0_cleanAll_5 (v := .inl v2) rfl ?_
    refine zw_push hm_19 dX0_cleanAll_6 (v := .inr (.inr (some 82))) rfl ?_
    refine zw_cv hm_19 dX0_cleanAll_7 v_1_51_1 hm_11 [] [.inl v2] rfl (zT_rt hS1 s_82 rfl) ⟨by omega, by omega⟩ rfl (zw_mono h (zi_go ?_ ?_))
    · intro v4 S3 hv
      obtain ⟨hS3, h⟩ := hv
      refine zw_stk hm_19 dX0_cleanAll_10 (st₉ := [.inl (v2 + v4)]) rfl rfl ?_
      exact zw_iret hm_19 dX0_cleanAll_11 h
    · intro x S9 hx
      exact ⟨by decide, hx⟩
  · intro x S9 hx
    exact ⟨by decide, hx⟩
theorem sp_19_82_sy {X : Nat × (Nat → Int32)} {d w : Nat} {f : Nat → Nat → Int32} {r : Nat → Nat → Option Nat} {C Z N : Nat} {Q : Option ma_V ⊕ Nat → ma_S → Prop} {ab : Nat→Nat→Int32} {S : ma_S}  (hd : 5 ≤ d) (hw : 180 ≤ w) (hI : zJ82 f r C Z N S) (hpre0 : xB S (mR S 70)) (hpre1 : aG S = ab) (hpre2 : qAv ab) (K : ∀ v S₉, zJ82 f r C Z N S₉ → (True) → (xB S₉ (mR S₉ 70)) → (aG S₉ = gMi (gMa ab) ∧ v = aSv ab + gVi (gMa ab)) → Q (.inl (some (.inl v))) S₉) : ma_wp X d w 19 0 [(0, .inr (.inr (some 82)))] [] S Q := by
  refine g_19_82_sy_0  (by omega) (by omega) (zG_T hI) ?_
  refine sp_5_82_sy (ab := (aG S)) (by omega) (by omega) hI (show xB S (mR S 70) from by first | (exact xB_x (xC_o (W := 75) hpre0).2)) (show aG S = (aG S) from by first | (exact rfl)) (show qAv (aG S) from by first | (rw [hpre1]; exact hpre2)) (fun v2 S1 hI_S1 hp_v2 rp0_S1 rp1_S1 => zi_n ⟨zG_T hI_S1, ?_⟩)
  have rp0_S1 : xB S1 (mR S1 70) := rp0_S1
  have rp1_S1 : aG S1 = gMa (aG S) ∧ v2 = aSv (aG S) := rp1_S1
  refine sp_11_82_sy (ab := (aG S1)) (by omega) (by omega) hI_S1 (show xB S1 (mR S1 70) from by first | (exact xB_x (xC_o (W := 75) rp0_S1).2)) (show aG S1 = (aG S1) from by first | (exact rfl)) (show qAv (aG S1) from by first | (rw [(rp1_S1.1.trans (congrArg gMa hpre1))]; exact (Av_ma hpre2))) (fun v4 S3 hI_S3 hp_v4 rp0_S3 rp1_S3 => zi_n ⟨zG_T hI_S3, ?_⟩)
  have rp0_S3 : xB S3 (mR S3 70) := rp0_S3
  have rp1_S3 : aG S3 = gMi (aG S1) ∧ v4 = gVi (aG S1) := rp1_S3
  have b1 := i_bd v2
  have b2 := i_bd v4
  first | have e3 : (v2 + v4).toInt = v2.toInt + v4.toInt := i_add (by omega) (by omega) | have b4 := i_bd (v2 + v4)
  exact K ((v2 + v4)) _ hI_S3 trivial (show xB S3 (mR S3 70) from by first | (exact xB_x (xC_o (W := 75) rp0_S3).2)) (show aG S3 = gMi (gMa ab) ∧ (v2 + v4) = aSv ab + gVi (gMa ab) from by first | (have z1 := rp1_S1; have z2 := rp1_S3; rw [z1.1, hpre1] at z2; rw [hpre1] at z1; exact ⟨z2.1, by rw [z1.2, z2.2]⟩))
theorem g_4_82_sy_0 {X : Nat × (Nat → Int32)} {d w : Nat} {S : ma_S} {Q : Option ma_V ⊕ Nat → ma_S → Prop} (z : Int32) (hd : 4 ≤ d) (hw : 159 ≤ w) (hS : zT S) (h : if ((mI S 82 6) + z) ≤ (mI S 82 3) then (if ((mI S 82 6) + z) ≤ (mI S 82 3) then (Q (.inl (some (.inl (mI S 82 6)))) S) else (Q (.inl (some (.inl (-1 : Int32)))) S)) else (ma_wp X (d - 1) (w - 21) 5 0 [(0, .inr (.inr (some 82)))] [] S (zi (fun v2 S1 => zT S1 ∧ (if ((mI S1 82 6) + z) ≤ (mI S1 82 3) then (Q (.inl (some (.inl (mI S1 82 6)))) S1) else (Q (.inl (some (.inl (-1 : Int32)))) S1))) (fun x S9 => Q (.inr x) S9)))) : ma_wp X d w 4 0 [(0, .inr (.inr (some 82))), (1, .inl z)] [] S Q := by
  refine zw_push hm_4 dX0_findOldRoom_0 (v := .inr (.inr (some 82))) rfl ?_
  refine zw_gf hm_4 dX0_findOldRoom_1 (v := .inl (mI S 82 6)) (zT_is hS s_82) (zT_t hS s_82) rfl f_1_28_1 rfl ?_
  refine zw_push hm_4 dX0_findOldRoom_4 (v := .inl z) rfl ?_
  refine zw_stk hm_4 dX0_findOldRoom_5 (st₉ := [.inl ((mI S 82 6) + z)]) rfl rfl ?_
  refine zw_push hm_4 dX0_findOldRoom_6 (v := .inr (.inr (some 82))) rfl ?_
  refine zw_gf hm_4 dX0_findOldRoom_7 (v := .inl (mI S 82 3)) (zT_is hS s_82) (zT_t hS s_82) rfl f_1_19_1 rfl ?_
  refine zw_if2 hm_4 dX0_findOldRoom_10 (t := 18) rfl zc2_le ?_ ?_
  · intro hc
    rw [if_pos hc] at h
    refine zw_push hm_4 dX0_findOldRoom_18 (v := .inr (.inr (some 82))) rfl ?_
    refine zw_gf hm_4 dX0_findOldRoom_19 (v := .inl (mI S 82 6)) (zT_is hS s_82) (zT_t hS s_82) rfl f_1_28_1 rfl ?_
    refine zw_push hm_4 dX0_findOldRoom_22 (v := .inl z) rfl ?_
    refine zw_stk hm_4 dX0_findOldRoom_23 (st₉ := [.inl ((mI S 82 6) + z)]) rfl rfl ?_
    refine zw_push hm_4 dX0_findOldRoom_24 (v := .inr (.inr (some 82))) rfl ?_
    refine zw_gf hm_4 dX0_findOldRoom_25 (v := .inl (mI S 82 3)) (zT_is hS s_82) (zT_t hS s_82) rfl f_1_19_1 rfl ?_
    refine zw_if2 hm_4 dX0_findOldRoom_28 (t := 35) rfl zc2_le ?_ ?_
    · intro hc
      rw [if_pos hc] at h
      refine zw_push hm_4 dX0_findOldRoom_35 (v := .inr (.inr (some 82))) rfl ?_
      refine zw_gf hm_4 dX0_findOldRoom_36 (v := .inl (mI S 82 6)) (zT_is hS s_82) (zT_t hS s_82) rfl f_1_28_1 rfl ?_
      exact zw_iret hm_4 dX0_findOldRoom_39 h
    · intro hc
      rw [if_neg hc] at h
      refine zw_push hm_4 dX0_findOldRoom_31 (v := .inl (-1 : Int32)) rfl ?_
      refine zw_goto hm_4 dX0_findOldRoom_32 (t := 39) rfl ?_
      exact zw_iret hm_4 dX0_findOldRoom_39 h
  · intro hc
    rw [if_neg hc] at h
    refine zw_push hm_4 dX0_findOldRoom_13 (v := .inr (.inr (some 82))) rfl ?_
    refine zw_cv hm_4 dX0_findOldRoom_14 v_1_55_1 hm_5 [] [] rfl (zT_rt hS s_82 rfl) ⟨by omega, by omega⟩ rfl (zw_mono h (zi_go ?_ ?_))
    · intro v2 S1 hv
      obtain ⟨hS1, h⟩ := hv
      refine zw_stk hm_4 dX0_findOldRoom_17 (st₉ := []) rfl rfl ?_
      refine zw_push hm_4 dX0_findOldRoom_18 (v := .inr (.inr (some 82))) rfl ?_
      refine zw_gf hm_4 dX0_findOldRoom_19 (v := .inl (mI S1 82 6)) (zT_is hS1 s_82) (zT_t hS1 s_82) rfl f_1_28_1 rfl ?_
      refine zw_push hm_4 dX0_findOldRoom_22 (v := .inl z) rfl ?_
      refine zw_stk hm_4 dX0_findOldRoom_23 (st₉ := [.inl ((mI S1 82 6) + z)]) rfl rfl ?_
      refine zw_push hm_4 dX0_findOldRoom_24 (v := .inr (.inr (some 82))) rfl ?_
      refine zw_gf hm_4 dX0_findOldRoom_25 (v := .inl (mI S1 82 3)) (zT_is hS1 s_82) (zT_t hS1 s_82) rfl f_1_19_1 rfl ?_
      refine zw_if2 hm_4 dX0_findOldRoom_28 (t := 35) rfl zc2_le ?_ ?_
      · intro hc
        rw [if_pos hc] at h
        refine zw_push hm_4 dX0_findOldRoom_35 (v := .inr (.inr (some 82))) rfl ?_
        refine zw_gf hm_4 dX0_findOldRoom_36 (v := .inl (mI S1 82 6)) (zT_is hS1 s_82) (zT_t hS1 s_82) rfl f_1_28_1 rfl ?_
        exact zw_iret hm_4 dX0_findOldRoom_39 h
      · intro hc
        rw [if_neg hc] at h
        refine zw_push hm_4 dX0_findOldRoom_31 (v := .inl (-1 : Int32)) rfl ?_
        refine zw_goto hm_4 dX0_findOldRoom_32 (t := 39) rfl ?_
        exact zw_iret hm_4 dX0_findOldRoom_39 h
    · intro x S9 hx
      exact ⟨by decide, hx⟩
theorem sp_4_82_sy {X : Nat × (Nat → Int32)} {d w : Nat} {f : Nat → Nat → Int32} {r : Nat → Nat → Option Nat} {C Z N : Nat} {Q : Option ma_V ⊕ Nat → ma_S → Prop} {ab : Nat→Nat→Int32} {S : ma_S} (z : Int32) (hd : 4 ≤ d) (hw : 159 ≤ w) (hI : zJ82 f r C Z N S) (hpre0 : xB S (mR S 70)) (hpre1 : aG S = ab) (hpre2 : qAv ab) (hpre3 : (ab 87 5).toInt / 2 < z.toInt) (hpre4 : 1 ≤ z.toInt) (hpre5 : z.toInt ≤ 61) (K : ∀ v S₉, zJ82 f r C Z N S₉ → (-1 ≤ v.toInt ∧ v.toInt ≤ 1500) → (xB S₉ (mR S₉ 70)) → (aG S₉ = gRs ab z.toInt ∧ v.toInt = gRp ab z.toInt) → Q (.inl (some (.inl v))) S₉) : ma_wp X d w 4 0 [(0, .inr (.inr (some 82))), (1, .inl z)] [] S Q := by
  refine g_4_82_sy_0 z (by omega) (by omega) (zG_T hI) ?_
  have f1 := zG_s hI (0) (400000) (c := 82) (k := 6) (by decide)
  have b2 := i_bd z
  first | have e3 : ((mI S 82 6) + z).toInt = (mI S 82 6).toInt + z.toInt := i_add (by omega) (by omega) | have b4 := i_bd ((mI S 82 6) + z)
  have x5 : (mI S 82 3).toInt ≤ (mI S 82 7).toInt ∧ (mI S 82 7).toInt ≤ (mI S 82 3).toInt + (mI S 82 2).toInt := zG_x hI
  have f6 := zG_s hI (0) (1500) (c := 82) (k := 3) (by decide)
  refine zd (fun h7 => ?_) (fun h7 => ?_)
  · skip
    have g8 := i_le h7
    refine zd (fun h9 => ?_) (fun h9 => ?_)
    · skip
      have g10 := i_le h9
      exact K ((mI S 82 6)) _ hI (by omega) (show xB S (mR S 70) from by first | (exact xB_x (xC_o (W := 75) hpre0).2)) (show aG S = gRs ab z.toInt ∧ (mI S 82 6).toInt = gRp ab z.toInt from by first | (have h0 : aG S = ab := hpre1; have n0_9 : (ab 87 9).toInt = (mI S 82 3).toInt := (by rw [← h0]; rfl); have n0_10 : (ab 87 10).toInt = (mI S 82 6).toInt := (by rw [← h0]; rfl); have n0_4 : (ab 87 4).toInt = (mI S 82 8).toInt := (by rw [← h0]; rfl); have n0_3 : (ab 87 3).toInt = (mI S 82 7).toInt := (by rw [← h0]; rfl); have n0_5 : (ab 87 5).toInt = (mI S 82 2).toInt := (by rw [← h0]; rfl); have E := Rs_go (a := ab) (z := z.toInt) hpre3 (Ro_n (by omega)); refine ⟨h0.trans E.1.symm, ?_⟩; rw [E.2.1 (by omega)]; rfl) | (have h0 : aG S = ab := hpre1; have n0_9 : (ab 87 9).toInt = (mI S 82 3).toInt := (by rw [← h0]; rfl); have n0_10 : (ab 87 10).toInt = (mI S 82 6).toInt := (by rw [← h0]; rfl); have n0_4 : (ab 87 4).toInt = (mI S 82 8).toInt := (by rw [← h0]; rfl); have n0_3 : (ab 87 3).toInt = (mI S 82 7).toInt := (by rw [← h0]; rfl); have n0_5 : (ab 87 5).toInt = (mI S 82 2).toInt := (by rw [← h0]; rfl); have E := Rs_go (a := ab) (z := z.toInt) hpre3 (Ro_n (by omega)); refine ⟨h0.trans E.1.symm, ?_⟩; rw [E.2.2 (by omega)]; omega))
    · skip
      have g11 := i_nle h9
      have li12 : (-1 : Int32).toInt = -1 := rfl
      exact K ((-1 : Int32)) _ hI (by omega) (show xB S (mR S 70) from by first | (exact xB_x (xC_o (W := 75) hpre0).2)) (show aG S = gRs ab z.toInt ∧ (-1 : Int32).toInt = gRp ab z.toInt from by first | (have h0 : aG S = ab := hpre1; have n0_9 : (ab 87 9).toInt = (mI S 82 3).toInt := (by rw [← h0]; rfl); have n0_10 : (ab 87 10).toInt = (mI S 82 6).toInt := (by rw [← h0]; rfl); have n0_4 : (ab 87 4).toInt = (mI S 82 8).toInt := (by rw [← h0]; rfl); have n0_3 : (ab 87 3).toInt = (mI S 82 7).toInt := (by rw [← h0]; rfl); have n0_5 : (ab 87 5).toInt = (mI S 82 2).toInt := (by rw [← h0]; rfl); have E := Rs_go (a := ab) (z := z.toInt) hpre3 (Ro_n (by omega)); refine ⟨h0.trans E.1.symm, ?_⟩; rw [E.2.1 (by omega)]; rfl) | (have h0 : aG S = ab := hpre1; have n0_9 : (ab 87 9).toInt = (mI S 82 3).toInt := (by rw [← h0]; rfl); have n0_10 : (ab 87 10).toInt = (mI S 82 6).toInt := (by rw [← h0]; rfl); have n0_4 : (ab 87 4).toInt = (mI S 82 8).toInt := (by rw [← h0]; rfl); have n0_3 : (ab 87 3).toInt = (mI S 82 7).toInt := (by rw [← h0]; rfl); have n0_5 : (ab 87 5).toInt = (mI S 82 2).toInt := (by rw [← h0]; rfl); have E := Rs_go (a := ab) (z := z.toInt) hpre3 (Ro_n (by omega)); refine ⟨h0.trans E.1.symm, ?_⟩; rw [E.2.2 (by omega)]; omega))
  · skip
    have g13 := i_nle h7
    refine sp_5_82_sy (ab := (aG S)) (by omega) (by omega) hI (show xB S (mR S 70) from by first | (exact xB_x (xC_o (W := 75) hpre0).2)) (show aG S = (aG S) from by first | (exact rfl)) (show qAv (aG S) from by first | (rw [hpre1]; exact hpre2)) (fun v2 S1 hI_S1 hp_v2 rp0_S1 rp1_S1 => zi_n ⟨zG_T hI_S1, ?_⟩)
    have rp0_S1 : xB S1 (mR S1 70) := rp0_S1
    have rp1_S1 : aG S1 = gMa (aG S) ∧ v2 = aSv (aG S) := rp1_S1
    have f14 := zG_s hI_S1 (0) (400000) (c := 82) (k := 6) (by decide)
    first | have e15 : ((mI S1 82 6) + z).toInt = (mI S1 82 6).toInt + z.toInt := i_add (by omega) (by omega) | have b16 := i_bd ((mI S1 82 6) + z)
    have x17 : (mI S1 82 3).toInt ≤ (mI S1 82 7).toInt ∧ (mI S1 82 7).toInt ≤ (mI S1 82 3).toInt + (mI S1 82 2).toInt := zG_x hI_S1
    have f18 := zG_s hI_S1 (0) (1500) (c := 82) (k := 3) (by decide)
    refine zd (fun h19 => ?_) (fun h19 => ?_)
    · skip
      have g20 := i_le h19
      exact K ((mI S1 82 6)) _ hI_S1 (by omega) (show xB S1 (mR S1 70) from by first | (exact xB_x (xC_o (W := 75) rp0_S1).2)) (show aG S1 = gRs ab z.toInt ∧ (mI S1 82 6).toInt = gRp ab z.toInt from by first | (have h0 : aG S = ab := hpre1; have n0_9 : (ab 87 9).toInt = (mI S 82 3).toInt := (by rw [← h0]; rfl); have n0_10 : (ab 87 10).toInt = (mI S 82 6).toInt := (by rw [← h0]; rfl); have n0_4 : (ab 87 4).toInt = (mI S 82 8).toInt := (by rw [← h0]; rfl); have n0_3 : (ab 87 3).toInt = (mI S 82 7).toInt := (by rw [← h0]; rfl); have n0_5 : (ab 87 5).toInt = (mI S 82 2).toInt := (by rw [← h0]; rfl); have h1 : aG S1 = gMa ab := rp1_S1.1.trans (congrArg gMa h0); have n1_9 : ((gMa ab) 87 9).toInt = (mI S1 82 3).toInt := (by rw [← h1]; rfl); have n1_10 : ((gMa ab) 87 10).toInt = (mI S1 82 6).toInt := (by rw [← h1]; rfl); have n1_4 : ((gMa ab) 87 4).toInt = (mI S1 82 8).toInt := (by rw [← h1]; rfl); have n1_3 : ((gMa ab) 87 3).toInt = (mI S1 82 7).toInt := (by rw [← h1]; rfl); have n1_5 : ((gMa ab) 87 5).toInt = (mI S1 82 2).toInt := (by rw [← h1]; rfl); have E := Rs_go (a := ab) (z := z.toInt) hpre3 (gRo_y (by omega)); refine ⟨h1.trans E.1.symm, ?_⟩; rw [E.2.1 (by omega)]; rfl) | (have h0 : aG S = ab := hpre1; have n0_9 : (ab 87 9).toInt = (mI S 82 3).toInt := (by rw [← h0]; rfl); have n0_10 : (ab 87 10).toInt = (mI S 82 6).toInt := (by rw [← h0]; rfl); have n0_4 : (ab 87 4).toInt = (mI S 82 8).toInt := (by rw [← h0]; rfl); have n0_3 : (ab 87 3).toInt = (mI S 82 7).toInt := (by rw [← h0]; rfl); have n0_5 : (ab 87 5).toInt = (mI S 82 2).toInt := (by rw [← h0]; rfl); have h1 : aG S1 = gMa ab := rp1_S1.1.trans (congrArg gMa h0); have n1_9 : ((gMa ab) 87 9).toInt = (mI S1 82 3).toInt := (by rw [← h1]; rfl); have n1_10 : ((gMa ab) 87 10).toInt = (mI S1 82 6).toInt := (by rw [← h1]; rfl); have n1_4 : ((gMa ab) 87 4).toInt = (mI S1 82 8).toInt := (by rw [← h1]; rfl); have n1_3 : ((gMa ab) 87 3).toInt = (mI S1 82 7).toInt := (by rw [← h1]; rfl); have n1_5 : ((gMa ab) 87 5).toInt = (mI S1 82 2).toInt := (by rw [← h1]; rfl); have E := Rs_go (a := ab) (z := z.toInt) hpre3 (gRo_y (by omega)); refine ⟨h1.trans E.1.symm, ?_⟩; rw [E.2.2 (by omega)]; omega))
    · skip
      have g21 := i_nle h19
      have li22 : (-1 : Int32).toInt = -1 := rfl
      exact K ((-1 : Int32)) _ hI_S1 (by omega) (show xB S1 (mR S1 70) from by first | (exact xB_x (xC_o (W := 75) rp0_S1).2)) (show aG S1 = gRs ab z.toInt ∧ (-1 : Int32).toInt = gRp ab z.toInt from by first | (have h0 : aG S = ab := hpre1; have n0_9 : (ab 87 9).toInt = (mI S 82 3).toInt := (by rw [← h0]; rfl); have n0_10 : (ab 87 10).toInt = (mI S 82 6).toInt := (by rw [← h0]; rfl); have n0_4 : (ab 87 4).toInt = (mI S 82 8).toInt := (by rw [← h0]; rfl); have n0_3 : (ab 87 3).toInt = (mI S 82 7).toInt := (by rw [← h0]; rfl); have n0_5 : (ab 87 5).toInt = (mI S 82 2).toInt := (by rw [← h0]; rfl); have h1 : aG S1 = gMa ab := rp1_S1.1.trans (congrArg gMa h0); have n1_9 : ((gMa ab) 87 9).toInt = (mI S1 82 3).toInt := (by rw [← h1]; rfl); have n1_10 : ((gMa ab) 87 10).toInt = (mI S1 82 6).toInt := (by rw [← h1]; rfl); have n1_4 : ((gMa ab) 87 4).toInt = (mI S1 82 8).toInt := (by rw [← h1]; rfl); have n1_3 : ((gMa ab) 87 3).toInt = (mI S1 82 7).toInt := (by rw [← h1]; rfl); have n1_5 : ((gMa ab) 87 5).toInt = (mI S1 82 2).toInt := (by rw [← h1]; rfl); have E := Rs_go (a := ab) (z := z.toInt) hpre3 (gRo_y (by omega)); refine ⟨h1.trans E.1.symm, ?_⟩; rw [E.2.1 (by omega)]; rfl) | (have h0 : aG S = ab := hpre1; have n0_9 : (ab 87 9).toInt = (mI S 82 3).toInt := (by rw [← h0]; rfl); have n0_10 : (ab 87 10).toInt = (mI S 82 6).toInt := (by rw [← h0]; rfl); have n0_4 : (ab 87 4).toInt = (mI S 82 8).toInt := (by rw [← h0]; rfl); have n0_3 : (ab 87 3).toInt = (mI S 82 7).toInt := (by rw [← h0]; rfl); have n0_5 : (ab 87 5).toInt = (mI S 82 2).toInt := (by rw [← h0]; rfl); have h1 : aG S1 = gMa ab := rp1_S1.1.trans (congrArg gMa h0); have n1_9 : ((gMa ab) 87 9).toInt = (mI S1 82 3).toInt := (by rw [← h1]; rfl); have n1_10 : ((gMa ab) 87 10).toInt = (mI S1 82 6).toInt := (by rw [← h1]; rfl); have n1_4 : ((gMa ab) 87 4).toInt = (mI S1 82 8).toInt := (by rw [← h1]; rfl); have n1_3 : ((gMa ab) 87 3).toInt = (mI S1 82 7).toInt := (by rw [← h1]; rfl); have n1_5 : ((gMa ab) 87 5).toInt = (mI S1 82 2).toInt := (by rw [← h1]; rfl); have E := Rs_go (a := ab) (z := z.toInt) hpre3 (gRo_y (by omega)); refine ⟨h1.trans E.1.symm, ?_⟩; rw [E.2.2 (by omega)]; omega))

/-! from 95.u27 -/
/-! AGES, the class (written by wip/tools/gen15y.py) -/
theorem g_3_82_sy_0 {X : Nat × (Nat → Int32)} {d w : Nat} {S : ma_S} {Q : Option ma_V ⊕ Nat → ma_S → Prop} (z : Int32) (hd : 5 ≤ d) (hw : 180 ≤ w) (hS : zT S) (h : if z ≤ ((mI S 82 2) / (2 : Int32)) then (if ((mI S 82 7) + (mI S 82 2)) < ((mI S 82 8) + z) then (ma_wp X (d - 1) (w - 21) 11 0 [(0, .inr (.inr (some 82)))] [] S (zi (fun v2 S1 => zT S1 ∧ (if ((mI S1 82 7) + (mI S1 82 2)) < ((mI S1 82 8) + z) then (ma_wp X (d - 1) (w - 21) 5 0 [(0, .inr (.inr (some 82)))] [] S1 (zi (fun v4 S3 => zT S3 ∧ (ma_wp X (d - 1) (w - 21) 11 0 [(0, .inr (.inr (some 82)))] [] S3 (zi (fun v6 S5 => zT S5 ∧ (if ((mI S5 82 7) + (mI S5 82 2)) < ((mI S5 82 8) + z) then (Q (.inl (some (.inl (-1 : Int32)))) S5) else (Q (.inl (some (.inl (mI S5 82 8)))) S5))) (fun x S9 => Q (.inr x) S9)))) (fun x S9 => Q (.inr x) S9))) else (if ((mI S1 82 7) + (mI S1 82 2)) < ((mI S1 82 8) + z) then (Q (.inl (some (.inl (-1 : Int32)))) S1) else (Q (.inl (some (.inl (mI S1 82 8)))) S1)))) (fun x S9 => Q (.inr x) S9))) else (if ((mI S 82 7) + (mI S 82 2)) < ((mI S 82 8) + z) then (ma_wp X (d - 1) (w - 21) 5 0 [(0, .inr (.inr (some 82)))] [] S (zi (fun v8 S7 => zT S7 ∧ (ma_wp X (d - 1) (w - 21) 11 0 [(0, .inr (.inr (some 82)))] [] S7 (zi (fun v10 S9 => zT S9 ∧ (if ((mI S9 82 7) + (mI S9 82 2)) < ((mI S9 82 8) + z) then (Q (.inl (some (.inl (-1 : Int32)))) S9) else (Q (.inl (some (.inl (mI S9 82 8)))) S9))) (fun x S9 => Q (.inr x) S9)))) (fun x S9 => Q (.inr x) S9))) else (if ((mI S 82 7) + (mI S 82 2)) < ((mI S 82 8) + z) then (Q (.inl (some (.inl (-1 : Int32)))) S) else (Q (.inl (some (.inl (mI S 82 8)))) S)))) else (ma_wp X (d - 1) (w - 21) 4 0 [(0, .inr (.inr (some 82))), (1, .inl z)] [] S (zi (fun v12 S11 => zT S11 ∧ (Q (.inl (some (.inl v12))) S11)) (fun x S9 => Q (.inr x) S9)))) : ma_wp X d w 3 0 [(0, .inr (.inr (some 82))), (1, .inl z)] [] S Q := by
  refine zw_push hm_3 dX0_findRoom_0 (v := .inl z) rfl ?_
  refine zw_push hm_3 dX0_findRoom_1 (v := .inr (.inr (some 82))) rfl ?_
  refine zw_gf hm_3 dX0_findRoom_2 (v := .inl (mI S 82 2)) (zT_is hS s_82) (zT_t hS s_82) rfl f_1_15_1 rfl ?_
  refine zw_push hm_3 dX0_findRoom_5 (v := .inl (2 : Int32)) rfl ?_
  refine zw_stk hm_3 dX0_findRoom_6 (st₉ := [.inl ((mI S 82 2) / (2 : Int32)), .inl z]) rfl rfl ?_
  refine zw_if2 hm_3 dX0_findRoom_7 (t := 16) rfl zc2_le ?_ ?_
  · intro hc
    rw [if_pos hc] at h
    refine zw_push hm_3 dX0_findRoom_16 (v := .inr (.inr (some 82))) rfl ?_
    refine zw_push hm_3 dX0_findRoom_17 (v := .inl z) rfl ?_
    refine zw_cv hm_3 dX0_findRoom_18 v_1_47_1 hm_10 [.inl z] [] rfl (zT_rt hS s_82 rfl) ⟨by omega, by omega⟩ rfl ?_
    show ma_wp X (d - 1) (w - 21) 10 0 [(0, .inr (.inr (some 82))), (1, .inl z)] [] S _
    refine zw_push hm_10 dX0_hasYoungRoom_0 (v := .inr (.inr (some 82))) rfl ?_
    refine zw_gf hm_10 dX0_hasYoungRoom_1 (v := .inl (mI S 82 8)) (zT_is hS s_82) (zT_t hS s_82) rfl f_1_34_1 rfl ?_
    refine zw_push hm_10 dX0_hasYoungRoom_4 (v := .inl z) rfl ?_
    refine zw_stk hm_10 dX0_hasYoungRoom_5 (st₉ := [.inl ((mI S 82 8) + z)]) rfl rfl ?_
    refine zw_push hm_10 dX0_hasYoungRoom_6 (v := .inr (.inr (some 82))) rfl ?_
    refine zw_gf hm_10 dX0_hasYoungRoom_7 (v := .inl (mI S 82 7)) (zT_is hS s_82) (zT_t hS s_82) rfl f_1_31_1 rfl ?_
    refine zw_push hm_10 dX0_hasYoungRoom_10 (v := .inr (.inr (some 82))) rfl ?_
    refine zw_gf hm_10 dX0_hasYoungRoom_11 (v := .inl (mI S 82 2)) (zT_is hS s_82) (zT_t hS s_82) rfl f_1_15_1 rfl ?_
    refine zw_stk hm_10 dX0_hasYoungRoom_14 (st₉ := [.inl ((mI S 82 7) + (mI S 82 2)), .inl ((mI S 82 8) + z)]) rfl rfl ?_
    refine zw_if2 hm_10 dX0_hasYoungRoom_15 (t := 22) rfl zc2_gt ?_ ?_
    · intro hc
      rw [if_pos hc] at h
      refine zw_push hm_10 dX0_hasYoungRoom_22 (v := .inl (0 : Int32)) rfl ?_
      refine zw_bret hm_10 dX0_hasYoungRoom_23 (by decide) ?_
      show ma_wp X d w 3 21 [(0, .inr (.inr (some 82))), (1, .inl z)] [.inl (0 : Int32)] S _
      refine zw_if0 hm_3 dX0_findRoom_21 (t := 29) rfl zc0_ne (fun hc => absurd hc (by decide)) (fun _ => ?_)
      refine zw_push hm_3 dX0_findRoom_24 (v := .inr (.inr (some 82))) rfl ?_
      refine zw_cv hm_3 dX0_findRoom_25 v_1_51_1 hm_11 [] [] rfl (zT_rt hS s_82 rfl) ⟨by omega, by omega⟩ rfl (zw_mono h (zi_go ?_ ?_))
      · intro v2 S1 hv
        obtain ⟨hS1, h⟩ := hv
        refine zw_stk hm_3 dX0_findRoom_28 (st₉ := []) rfl rfl ?_
        refine zw_push hm_3 dX0_findRoom_29 (v := .inr (.inr (some 82))) rfl ?_
        refine zw_push hm_3 dX0_findRoom_30 (v := .inl z) rfl ?_
        refine zw_cv hm_3 dX0_findRoom_31 v_1_47_1 hm_10 [.inl z] [] rfl (zT_rt hS1 s_82 rfl) ⟨by omega, by omega⟩ rfl ?_
        show ma_wp X (d - 1) (w - 21) 10 0 [(0, .inr (.inr (some 82))), (1, .inl z)] [] S1 _
        refine zw_push hm_10 dX0_hasYoungRoom_0 (v := .inr (.inr (some 82))) rfl ?_
        refine zw_gf hm_10 dX0_hasYoungRoom_1 (v := .inl (mI S1 82 8)) (zT_is hS1 s_82) (zT_t hS1 s_82) rfl f_1_34_1 rfl ?_
        refine zw_push hm_10 dX0_hasYoungRoom_4 (v := .inl z) rfl ?_
        refine zw_stk hm_10 dX0_hasYoungRoom_5 (st₉ := [.inl ((mI S1 82 8) + z)]) rfl rfl ?_
        refine zw_push hm_10 dX0_hasYoungRoom_6 (v := .inr (.inr (some 82))) rfl ?_
        refine zw_gf hm_10 dX0_hasYoungRoom_7 (v := .inl (mI S1 82 7)) (zT_is hS1 s_82) (zT_t hS1 s_82) rfl f_1_31_1 rfl ?_
        refine zw_push hm_10 dX0_hasYoungRoom_10 (v := .inr (.inr (some 82))) rfl ?_
        refine zw_gf hm_10 dX0_hasYoungRoom_11 (v := .inl (mI S1 82 2)) (zT_is hS1 s_82) (zT_t hS1 s_82) rfl f_1_15_1 rfl ?_
        refine zw_stk hm_10 dX0_hasYoungRoom_14 (st₉ := [.inl ((mI S1 82 7) + (mI S1 82 2)), .inl ((mI S1 82 8) + z)]) rfl rfl ?_
        refine zw_if2 hm_10 dX0_hasYoungRoom_15 (t := 22) rfl zc2_gt ?_ ?_
        · intro hc
          rw [if_pos hc] at h
          refine zw_push hm_10 dX0_hasYoungRoom_22 (v := .inl (0 : Int32)) rfl ?_
          refine zw_bret hm_10 dX0_hasYoungRoom_23 (by decide) ?_
          show ma_wp X d w 3 34 [(0, .inr (.inr (some 82))), (1, .inl z)] [.inl (0 : Int32)] S1 _
          refine zw_if0 hm_3 dX0_findRoom_34 (t := 47) rfl zc0_ne (fun hc => absurd hc (by decide)) (fun _ => ?_)
          refine zw_push hm_3 dX0_findRoom_37 (v := .inr (.inr (some 82))) rfl ?_
          refine zw_cv hm_3 dX0_findRoom_38 v_1_55_1 hm_5 [] [] rfl (zT_rt hS1 s_82 rfl) ⟨by omega, by omega⟩ rfl (zw_mono h (zi_go ?_ ?_))
          · intro v4 S3 hv
            obtain ⟨hS3, h⟩ := hv
            refine zw_stk hm_3 dX0_findRoom_41 (st₉ := []) rfl rfl ?_
            refine zw_push hm_3 dX0_findRoom_42 (v := .inr (.inr (some 82))) rfl ?_
            refine zw_cv hm_3 dX0_findRoom_43 v_1_51_1 hm_11 [] [] rfl (zT_rt hS3 s_82 rfl) ⟨by omega, by omega⟩ rfl (zw_mono h (zi_go ?_ ?_))
            · intro v6 S5 hv
              obtain ⟨hS5, h⟩ := hv
              refine zw_stk hm_3 dX0_findRoom_46 (st₉ := []) rfl rfl ?_
              refine zw_push hm_3 dX0_findRoom_47 (v := .inr (.inr (some 82))) rfl ?_
              refine zw_push hm_3 dX0_findRoom_48 (v := .inl z) rfl ?_
              refine zw_cv hm_3 dX0_findRoom_49 v_1_47_1 hm_10 [.inl z] [] rfl (zT_rt hS5 s_82 rfl) ⟨by omega, by omega⟩ rfl ?_
              show ma_wp X (d - 1) (w - 21) 10 0 [(0, .inr (.inr (some 82))), (1, .inl z)] [] S5 _
              refine zw_push hm_10 dX0_hasYoungRoom_0 (v := .inr (.inr (some 82))) rfl ?_
              refine zw_gf hm_10 dX0_hasYoungRoom_1 (v := .inl (mI S5 82 8)) (zT_is hS5 s_82) (zT_t hS5 s_82) rfl f_1_34_1 rfl ?_
              refine zw_push hm_10 dX0_hasYoungRoom_4 (v := .inl z) rfl ?_
              refine zw_stk hm_10 dX0_hasYoungRoom_5 (st₉ := [.inl ((mI S5 82 8) + z)]) rfl rfl ?_
              refine zw_push hm_10 dX0_hasYoungRoom_6 (v := .inr (.inr (some 82))) rfl ?_
              refine zw_gf hm_10 dX0_hasYoungRoom_7 (v := .inl (mI S5 82 7)) (zT_is hS5 s_82) (zT_t hS5 s_82) rfl f_1_31_1 rfl ?_
              refine zw_push hm_10 dX0_hasYoungRoom_10 (v := .inr (.inr (some 82))) rfl ?_
              refine zw_gf hm_10 dX0_hasYoungRoom_11 (v := .inl (mI S5 82 2)) (zT_is hS5 s_82) (zT_t hS5 s_82) rfl f_1_15_1 rfl ?_
              refine zw_stk hm_10 dX0_hasYoungRoom_14 (st₉ := [.inl ((mI S5 82 7) + (mI S5 82 2)), .inl ((mI S5 82 8) + z)]) rfl rfl ?_
              refine zw_if2 hm_10 dX0_hasYoungRoom_15 (t := 22) rfl zc2_gt ?_ ?_
              · intro hc
                rw [if_pos hc] at h
                refine zw_push hm_10 dX0_hasYoungRoom_22 (v := .inl (0 : Int32)) rfl ?_
                refine zw_bret hm_10 dX0_hasYoungRoom_23 (by decide) ?_
                show ma_wp X d w 3 52 [(0, .inr (.inr (some 82))), (1, .inl z)] [.inl (0 : Int32)] S5 _
                refine zw_if0 hm_3 dX0_findRoom_52 (t := 62) rfl zc0_eq (fun _ => ?_) (fun hc => absurd (by decide) hc)
                refine zw_push hm_3 dX0_findRoom_62 (v := .inl (-1 : Int32)) rfl ?_
                exact zw_iret hm_3 dX0_findRoom_63 h
              · intro hc
                rw [if_neg hc] at h
                refine zw_push hm_10 dX0_hasYoungRoom_18 (v := .inl (1 : Int32)) rfl ?_
                refine zw_goto hm_10 dX0_hasYoungRoom_19 (t := 23) rfl ?_
                refine zw_bret hm_10 dX0_hasYoungRoom_23 (by decide) ?_
                show ma_wp X d w 3 52 [(0, .inr (.inr (some 82))), (1, .inl z)] [.inl (1 : Int32)] S5 _
                refine zw_if0 hm_3 dX0_findRoom_52 (t := 62) rfl zc0_eq (fun hc => absurd hc (by decide)) (fun _ => ?_)
                refine zw_push hm_3 dX0_findRoom_55 (v := .inr (.inr (some 82))) rfl ?_
                refine zw_gf hm_3 dX0_findRoom_56 (v := .inl (mI S5 82 8)) (zT_is hS5 s_82) (zT_t hS5 s_82) rfl f_1_34_1 rfl ?_
                refine zw_goto hm_3 dX0_findRoom_59 (t := 63) rfl ?_
                exact zw_iret hm_3 dX0_findRoom_63 h
            · intro x S9 hx
              exact ⟨by decide, hx⟩
          · intro x S9 hx
            exact ⟨by decide, hx⟩
        · intro hc
          rw [if_neg hc] at h
          refine zw_push hm_10 dX0_hasYoungRoom_18 (v := .inl (1 : Int32)) rfl ?_
          refine zw_goto hm_10 dX0_hasYoungRoom_19 (t := 23) rfl ?_
          refine zw_bret hm_10 dX0_hasYoungRoom_23 (by decide) ?_
          show ma_wp X d w 3 34 [(0, .inr (.inr (some 82))), (1, .inl z)] [.inl (1 : Int32)] S1 _
          refine zw_if0 hm_3 dX0_findRoom_34 (t := 47) rfl zc0_ne (fun _ => ?_) (fun hc => absurd (by decide) hc)
          refine zw_push hm_3 dX0_findRoom_47 (v := .inr (.inr (some 82))) rfl ?_
          refine zw_push hm_3 dX0_findRoom_48 (v := .inl z) rfl ?_
          refine zw_cv hm_3 dX0_findRoom_49 v_1_47_1 hm_10 [.inl z] [] rfl (zT_rt hS1 s_82 rfl) ⟨by omega, by omega⟩ rfl ?_
          show ma_wp X (d - 1) (w - 21) 10 0 [(0, .inr (.inr (some 82))), (1, .inl z)] [] S1 _
          refine zw_push hm_10 dX0_hasYoungRoom_0 (v := .inr (.inr (some 82))) rfl ?_
          refine zw_gf hm_10 dX0_hasYoungRoom_1 (v := .inl (mI S1 82 8)) (zT_is hS1 s_82) (zT_t hS1 s_82) rfl f_1_34_1 rfl ?_
          refine zw_push hm_10 dX0_hasYoungRoom_4 (v := .inl z) rfl ?_
          refine zw_stk hm_10 dX0_hasYoungRoom_5 (st₉ := [.inl ((mI S1 82 8) + z)]) rfl rfl ?_
          refine zw_push hm_10 dX0_hasYoungRoom_6 (v := .inr (.inr (some 82))) rfl ?_
          refine zw_gf hm_10 dX0_hasYoungRoom_7 (v := .inl (mI S1 82 7)) (zT_is hS1 s_82) (zT_t hS1 s_82) rfl f_1_31_1 rfl ?_
          refine zw_push hm_10 dX0_hasYoungRoom_10 (v := .inr (.inr (some 82))) rfl ?_
          refine zw_gf hm_10 dX0_hasYoungRoom_11 (v := .inl (mI S1 82 2)) (zT_is hS1 s_82) (zT_t hS1 s_82) rfl f_1_15_1 rfl ?_
          refine zw_stk hm_10 dX0_hasYoungRoom_14 (st₉ := [.inl ((mI S1 82 7) + (mI S1 82 2)), .inl ((mI S1 82 8) + z)]) rfl rfl ?_
          refine zw_if2 hm_10 dX0_hasYoungRoom_15 (t := 22) rfl zc2_gt ?_ ?_
          · intro hc
            rw [if_pos hc] at h
            refine zw_push hm_10 dX0_hasYoungRoom_22 (v := .inl (0 : Int32)) rfl ?_
            refine zw_bret hm_10 dX0_hasYoungRoom_23 (by decide) ?_
            show ma_wp X d w 3 52 [(0, .inr (.inr (some 82))), (1, .inl z)] [.inl (0 : Int32)] S1 _
            refine zw_if0 hm_3 dX0_findRoom_52 (t := 62) rfl zc0_eq (fun _ => ?_) (fun hc => absurd (by decide) hc)
            refine zw_push hm_3 dX0_findRoom_62 (v := .inl (-1 : Int32)) rfl ?_
            exact zw_iret hm_3 dX0_findRoom_63 h
          · intro hc
            rw [if_neg hc] at h
            refine zw_push hm_10 dX0_hasYoungRoom_18 (v := .inl (1 : Int32)) rfl ?_
            refine zw_goto hm_10 dX0_hasYoungRoom_19 (t := 23) rfl ?_
            refine zw_bret hm_10 dX0_hasYoungRoom_23 (by decide) ?_
            show ma_wp X d w 3 52 [(0, .inr (.inr (some 82))), (1, .inl z)] [.inl (1 : Int32)] S1 _
            refine zw_if0 hm_3 dX0_findRoom_52 (t := 62) rfl zc0_eq (fun hc => absurd hc (by decide)) (fun _ => ?_)
            refine zw_push hm_3 dX0_findRoom_55 (v := .inr (.inr (some 82))) rfl ?_
            refine zw_gf hm_3 dX0_findRoom_56 (v := .inl (mI S1 82 8)) (zT_is hS1 s_82) (zT_t hS1 s_82) rfl f_1_34_1 rfl ?_
            refine zw_goto hm_3 dX0_findRoom_59 (t := 63) rfl ?_
            exact zw_iret hm_3 dX0_findRoom_63 h
      · intro x S9 hx
        exact ⟨by decide, hx⟩
    · intro hc
      rw [if_neg hc] at h
      refine zw_push hm_10 dX0_hasYoungRoom_18 (v := .inl (1 : Int32)) rfl ?_
      refine zw_goto hm_10 dX0_hasYoungRoom_19 (t := 23) rfl ?_
      refine zw_bret hm_10 dX0_hasYoungRoom_23 (by decide) ?_
      show ma_wp X d w 3 21 [(0, .inr (.inr (some 82))), (1, .inl z)] [.inl (1 : Int32)] S _
      refine zw_if0 hm_3 dX0_findRoom_21 (t := 29) rfl zc0_ne (fun _ => ?_) (fun hc => absurd (by decide) hc)
      refine zw_push hm_3 dX0_findRoom_29 (v := .inr (.inr (some 82))) rfl ?_
      refine zw_push hm_3 dX0_findRoom_30 (v := .inl z) rfl ?_
      refine zw_cv hm_3 dX0_findRoom_31 v_1_47_1 hm_10 [.inl z] [] rfl (zT_rt hS s_82 rfl) ⟨by omega, by omega⟩ rfl ?_
      show ma_wp X (d - 1) (w - 21) 10 0 [(0, .inr (.inr (some 82))), (1, .inl z)] [] S _
      refine zw_push hm_10 dX0_hasYoungRoom_0 (v := .inr (.inr (some 82))) rfl ?_
      refine zw_gf hm_10 dX0_hasYoungRoom_1 (v := .inl (mI S 82 8)) (zT_is hS s_82) (zT_t hS s_82) rfl f_1_34_1 rfl ?_
      refine zw_push hm_10 dX0_hasYoungRoom_4 (v := .inl z) rfl ?_
      refine zw_stk hm_10 dX0_hasYoungRoom_5 (st₉ := [.inl ((mI S 82 8) + z)]) rfl rfl ?_
      refine zw_push hm_10 dX0_hasYoungRoom_6 (v := .inr (.inr (some 82))) rfl ?_
      refine zw_gf hm_10 dX0_hasYoungRoom_7 (v := .inl (mI S 82 7)) (zT_is hS s_82) (zT_t hS s_82) rfl f_1_31_1 rfl ?_
      refine zw_push hm_10 dX0_hasYoungRoom_10 (v := .inr (.inr (some 82))) rfl ?_
      refine zw_gf hm_10 dX0_hasYoungRoom_11 (v := .inl (mI S 82 2)) (zT_is hS s_82) (zT_t hS s_82) rfl f_1_15_1 rfl ?_
      refine zw_stk hm_10 dX0_hasYoungRoom_14 (st₉ := [.inl ((mI S 82 7) + (mI S 82 2)), .inl ((mI S 82 8) + z)]) rfl rfl ?_
      refine zw_if2 hm_10 dX0_hasYoungRoom_15 (t := 22) rfl zc2_gt ?_ ?_
      · intro hc
        rw [if_pos hc] at h
        refine zw_push hm_10 dX0_hasYoungRoom_22 (v := .inl (0 : Int32)) rfl ?_
        refine zw_bret hm_10 dX0_hasYoungRoom_23 (by decide) ?_
        show ma_wp X d w 3 34 [(0, .inr (.inr (some 82))), (1, .inl z)] [.inl (0 : Int32)] S _
        refine zw_if0 hm_3 dX0_findRoom_34 (t := 47) rfl zc0_ne (fun hc => absurd hc (by decide)) (fun _ => ?_)
        refine zw_push hm_3 dX0_findRoom_37 (v := .inr (.inr (some 82))) rfl ?_
        refine zw_cv hm_3 dX0_findRoom_38 v_1_55_1 hm_5 [] [] rfl (zT_rt hS s_82 rfl) ⟨by omega, by omega⟩ rfl (zw_mono h (zi_go ?_ ?_))
        · intro v8 S7 hv
          obtain ⟨hS7, h⟩ := hv
          refine zw_stk hm_3 dX0_findRoom_41 (st₉ := []) rfl rfl ?_
          refine zw_push hm_3 dX0_findRoom_42 (v := .inr (.inr (some 82))) rfl ?_
          refine zw_cv hm_3 dX0_findRoom_43 v_1_51_1 hm_11 [] [] rfl (zT_rt hS7 s_82 rfl) ⟨by omega, by omega⟩ rfl (zw_mono h (zi_go ?_ ?_))
          · intro v10 S9 hv
            obtain ⟨hS9, h⟩ := hv
            refine zw_stk hm_3 dX0_findRoom_46 (st₉ := []) rfl rfl ?_
            refine zw_push hm_3 dX0_findRoom_47 (v := .inr (.inr (some 82))) rfl ?_
            refine zw_push hm_3 dX0_findRoom_48 (v := .inl z) rfl ?_
            refine zw_cv hm_3 dX0_findRoom_49 v_1_47_1 hm_10 [.inl z] [] rfl (zT_rt hS9 s_82 rfl) ⟨by omega, by omega⟩ rfl ?_
            show ma_wp X (d - 1) (w - 21) 10 0 [(0, .inr (.inr (some 82))), (1, .inl z)] [] S9 _
            refine zw_push hm_10 dX0_hasYoungRoom_0 (v := .inr (.inr (some 82))) rfl ?_
            refine zw_gf hm_10 dX0_hasYoungRoom_1 (v := .inl (mI S9 82 8)) (zT_is hS9 s_82) (zT_t hS9 s_82) rfl f_1_34_1 rfl ?_
            refine zw_push hm_10 dX0_hasYoungRoom_4 (v := .inl z) rfl ?_
            refine zw_stk hm_10 dX0_hasYoungRoom_5 (st₉ := [.inl ((mI S9 82 8) + z)]) rfl rfl ?_
            refine zw_push hm_10 dX0_hasYoungRoom_6 (v := .inr (.inr (some 82))) rfl ?_
            refine zw_gf hm_10 dX0_hasYoungRoom_7 (v := .inl (mI S9 82 7)) (zT_is hS9 s_82) (zT_t hS9 s_82) rfl f_1_31_1 rfl ?_
            refine zw_push hm_10 dX0_hasYoungRoom_10 (v := .inr (.inr (some 82))) rfl ?_
            refine zw_gf hm_10 dX0_hasYoungRoom_11 (v := .inl (mI S9 82 2)) (zT_is hS9 s_82) (zT_t hS9 s_82) rfl f_1_15_1 rfl ?_
            refine zw_stk hm_10 dX0_hasYoungRoom_14 (st₉ := [.inl ((mI S9 82 7) + (mI S9 82 2)), .inl ((mI S9 82 8) + z)]) rfl rfl ?_
            refine zw_if2 hm_10 dX0_hasYoungRoom_15 (t := 22) rfl zc2_gt ?_ ?_
            · intro hc
              rw [if_pos hc] at h
              refine zw_push hm_10 dX0_hasYoungRoom_22 (v := .inl (0 : Int32)) rfl ?_
              refine zw_bret hm_10 dX0_hasYoungRoom_23 (by decide) ?_
              show ma_wp X d w 3 52 [(0, .inr (.inr (some 82))), (1, .inl z)] [.inl (0 : Int32)] S9 _
              refine zw_if0 hm_3 dX0_findRoom_52 (t := 62) rfl zc0_eq (fun _ => ?_) (fun hc => absurd (by decide) hc)
              refine zw_push hm_3 dX0_findRoom_62 (v := .inl (-1 : Int32)) rfl ?_
              exact zw_iret hm_3 dX0_findRoom_63 h
            · intro hc
              rw [if_neg hc] at h
              refine zw_push hm_10 dX0_hasYoungRoom_18 (v := .inl (1 : Int32)) rfl ?_
              refine zw_goto hm_10 dX0_hasYoungRoom_19 (t := 23) rfl ?_
              refine zw_bret hm_10 dX0_hasYoungRoom_23 (by decide) ?_
              show ma_wp X d w 3 52 [(0, .inr (.inr (some 82))), (1, .inl z)] [.inl (1 : Int32)] S9 _
              refine zw_if0 hm_3 dX0_findRoom_52 (t := 62) rfl zc0_eq (fun hc => absurd hc (by decide)) (fun _ => ?_)
              refine zw_push hm_3 dX0_findRoom_55 (v := .inr (.inr (some 82))) rfl ?_
              refine zw_gf hm_3 dX0_findRoom_56 (v := .inl (mI S9 82 8)) (zT_is hS9 s_82) (zT_t hS9 s_82) rfl f_1_34_1 rfl ?_
              refine zw_goto hm_3 dX0_findRoom_59 (t := 63) rfl ?_
              exact zw_iret hm_3 dX0_findRoom_63 h
          · intro x S9 hx
            exact ⟨by decide, hx⟩
        · intro x S9 hx
          exact ⟨by decide, hx⟩
      · intro hc
        rw [if_neg hc] at h
        refine zw_push hm_10 dX0_hasYoungRoom_18 (v := .inl (1 : Int32)) rfl ?_
        refine zw_goto hm_10 dX0_hasYoungRoom_19 (t := 23) rfl ?_
        refine zw_bret hm_10 dX0_hasYoungRoom_23 (by decide) ?_
        show ma_wp X d w 3 34 [(0, .inr (.inr (some 82))), (1, .inl z)] [.inl (1 : Int32)] S _
        refine zw_if0 hm_3 dX0_findRoom_34 (t := 47) rfl zc0_ne (fun _ => ?_) (fun hc => absurd (by decide) hc)
        refine zw_push hm_3 dX0_findRoom_47 (v := .inr (.inr (some 82))) rfl ?_
        refine zw_push hm_3 dX0_findRoom_48 (v := .inl z) rfl ?_
        refine zw_cv hm_3 dX0_findRoom_49 v_1_47_1 hm_10 [.inl z] [] rfl (zT_rt hS s_82 rfl) ⟨by omega, by omega⟩ rfl ?_
        show ma_wp X (d - 1) (w - 21) 10 0 [(0, .inr (.inr (some 82))), (1, .inl z)] [] S _
        refine zw_push hm_10 dX0_hasYoungRoom_0 (v := .inr (.inr (some 82))) rfl ?_
        refine zw_gf hm_10 dX0_hasYoungRoom_1 (v := .inl (mI S 82 8)) (zT_is hS s_82) (zT_t hS s_82) rfl f_1_34_1 rfl ?_
        refine zw_push hm_10 dX0_hasYoungRoom_4 (v := .inl z) rfl ?_
        refine zw_stk hm_10 dX0_hasYoungRoom_5 (st₉ := [.inl ((mI S 82 8) + z)]) rfl rfl ?_
        refine zw_push hm_10 dX0_hasYoungRoom_6 (v := .inr (.inr (some 82))) rfl ?_
        refine zw_gf hm_10 dX0_hasYoungRoom_7 (v := .inl (mI S 82 7)) (zT_is hS s_82) (zT_t hS s_82) rfl f_1_31_1 rfl ?_
        refine zw_push hm_10 dX0_hasYoungRoom_10 (v := .inr (.inr (some 82))) rfl ?_
        refine zw_gf hm_10 dX0_hasYoungRoom_11 (v := .inl (mI S 82 2)) (zT_is hS s_82) (zT_t hS s_82) rfl f_1_15_1 rfl ?_
        refine zw_stk hm_10 dX0_hasYoungRoom_14 (st₉ := [.inl ((mI S 82 7) + (mI S 82 2)), .inl ((mI S 82 8) + z)]) rfl rfl ?_
        refine zw_if2 hm_10 dX0_hasYoungRoom_15 (t := 22) rfl zc2_gt ?_ ?_
        · intro hc
          rw [if_pos hc] at h
          refine zw_push hm_10 dX0_hasYoungRoom_22 (v := .inl (0 : Int32)) rfl ?_
          refine zw_bret hm_10 dX0_hasYoungRoom_23 (by decide) ?_
          show ma_wp X d w 3 52 [(0, .inr (.inr (some 82))), (1, .inl z)] [.inl (0 : Int32)] S _
          refine zw_if0 hm_3 dX0_findRoom_52 (t := 62) rfl zc0_eq (fun _ => ?_) (fun hc => absurd (by decide) hc)
          refine zw_push hm_3 dX0_findRoom_62 (v := .inl (-1 : Int32)) rfl ?_
          exact zw_iret hm_3 dX0_findRoom_63 h
        · intro hc
          rw [if_neg hc] at h
          refine zw_push hm_10 dX0_hasYoungRoom_18 (v := .inl (1 : Int32)) rfl ?_
          refine zw_goto hm_10 dX0_hasYoungRoom_19 (t := 23) rfl ?_
          refine zw_bret hm_10 dX0_hasYoungRoom_23 (by decide) ?_
          show ma_wp X d w 3 52 [(0, .inr (.inr (some 82))), (1, .inl z)] [.inl (1 : Int32)] S _
          refine zw_if0 hm_3 dX0_findRoom_52 (t := 62) rfl zc0_eq (fun hc => absurd hc (by decide)) (fun _ => ?_)
          refine zw_push hm_3 dX0_findRoom_55 (v := .inr (.inr (some 82))) rfl ?_
          refine zw_gf hm_3 dX0_findRoom_56 (v := .inl (mI S 82 8)) (zT_is hS s_82) (zT_t hS s_82) rfl f_1_34_1 rfl ?_
          refine zw_goto hm_3 dX0_findRoom_59 (t := 63) rfl ?_
          exact zw_iret hm_3 dX0_findRoom_63 h
  · intro hc
    rw [if_neg hc] at h
    refine zw_push hm_3 dX0_findRoom_10 (v := .inr (.inr (some 82))) rfl ?_
    refine zw_push hm_3 dX0_findRoom_11 (v := .inl z) rfl ?_
    refine zw_cv hm_3 dX0_findRoom_12 v_1_43_1 hm_4 [.inl z] [] rfl (zT_rt hS s_82 rfl) ⟨by omega, by omega⟩ rfl (zw_mono h (zi_go ?_ ?_))
    · intro v12 S11 hv
      obtain ⟨hS11, h⟩ := hv
      exact zw_iret hm_3 dX0_findRoom_15 h
    · intro x S9 hx
      exact ⟨by decide, hx⟩
theorem sp_3_82_sy {X : Nat × (Nat → Int32)} {d w : Nat} {f : Nat → Nat → Int32} {r : Nat → Nat → Option Nat} {C Z N : Nat} {Q : Option ma_V ⊕ Nat → ma_S → Prop} {ab : Nat→Nat→Int32} {S : ma_S} (z : Int32) (hd : 5 ≤ d) (hw : 180 ≤ w) (hI : zJ82 f r C Z N S) (hpre0 : xB S (mR S 70)) (hpre1 : aG S = ab) (hpre2 : qAv ab) (hpre3 : 1 ≤ z.toInt) (hpre4 : z.toInt ≤ 61) (K : ∀ v S₉, zJ82 f r C Z N S₉ → (-1 ≤ v.toInt ∧ v.toInt ≤ 4500) → (xB S₉ (mR S₉ 70)) → (aG S₉ = gRs ab z.toInt ∧ v.toInt = gRp ab z.toInt) → Q (.inl (some (.inl v))) S₉) : ma_wp X d w 3 0 [(0, .inr (.inr (some 82))), (1, .inl z)] [] S Q := by
  refine g_3_82_sy_0 z (by omega) (by omega) (zG_T hI) ?_
  have b1 := i_bd z
  have x2 : (mI S 82 3).toInt ≤ (mI S 82 7).toInt ∧ (mI S 82 7).toInt ≤ (mI S 82 3).toInt + (mI S 82 2).toInt := zG_x hI
  have f3 := zG_s hI (0) (1500) (c := 82) (k := 2) (by decide)
  have li4 : (2 : Int32).toInt = 2 := rfl
  first | have f5 := i_div (x := (mI S 82 2)) (y := (2 : Int32)) (by omega) (by omega) | have b6 := i_bd ((mI S 82 2) / (2 : Int32))
  refine zd (fun h7 => ?_) (fun h7 => ?_)
  · skip
    have g8 := i_le h7
    have f9 := zG_s hI (0) (3000) (c := 82) (k := 7) (by decide)
    first | have e10 : ((mI S 82 7) + (mI S 82 2)).toInt = (mI S 82 7).toInt + (mI S 82 2).toInt := i_add (by omega) (by omega) | have b11 := i_bd ((mI S 82 7) + (mI S 82 2))
    have f12 := zG_s hI (0) (400000) (c := 82) (k := 8) (by decide)
    first | have e13 : ((mI S 82 8) + z).toInt = (mI S 82 8).toInt + z.toInt := i_add (by omega) (by omega) | have b14 := i_bd ((mI S 82 8) + z)
    refine zd (fun h15 => ?_) (fun h15 => ?_)
    · skip
      have g16 := i_lt h15
      refine sp_11_82_sy (ab := (aG S)) (by omega) (by omega) hI (show xB S (mR S 70) from by first | (exact xB_x (xC_o (W := 75) hpre0).2)) (show aG S = (aG S) from by first | (exact rfl)) (show qAv (aG S) from by first | (rw [hpre1]; exact hpre2)) (fun v2 S1 hI_S1 hp_v2 rp0_S1 rp1_S1 => zi_n ⟨zG_T hI_S1, ?_⟩)
      have rp0_S1 : xB S1 (mR S1 70) := rp0_S1
      have rp1_S1 : aG S1 = gMi (aG S) ∧ v2 = gVi (aG S) := rp1_S1
      have x17 : (mI S1 82 3).toInt ≤ (mI S1 82 7).toInt ∧ (mI S1 82 7).toInt ≤ (mI S1 82 3).toInt + (mI S1 82 2).toInt := zG_x hI_S1
      have f18 := zG_s hI_S1 (0) (3000) (c := 82) (k := 7) (by decide)
      have f19 := zG_s hI_S1 (0) (1500) (c := 82) (k := 2) (by decide)
      first | have e20 : ((mI S1 82 7) + (mI S1 82 2)).toInt = (mI S1 82 7).toInt + (mI S1 82 2).toInt := i_add (by omega) (by omega) | have b21 := i_bd ((mI S1 82 7) + (mI S1 82 2))
      have f22 := zG_s hI_S1 (0) (400000) (c := 82) (k := 8) (by decide)
      first | have e23 : ((mI S1 82 8) + z).toInt = (mI S1 82 8).toInt + z.toInt := i_add (by omega) (by omega) | have b24 := i_bd ((mI S1 82 8) + z)
      refine zd (fun h25 => ?_) (fun h25 => ?_)
      · skip
        have g26 := i_lt h25
        refine sp_5_82_sy (ab := (aG S1)) (by omega) (by omega) hI_S1 (show xB S1 (mR S1 70) from by first | (exact xB_x (xC_o (W := 75) rp0_S1).2)) (show aG S1 = (aG S1) from by first | (exact rfl)) (show qAv (aG S1) from by first | (rw [(rp1_S1.1.trans (congrArg gMi hpre1))]; exact (Av_mi hpre2))) (fun v4 S3 hI_S3 hp_v4 rp0_S3 rp1_S3 => zi_n ⟨zG_T hI_S3, ?_⟩)
        have rp0_S3 : xB S3 (mR S3 70) := rp0_S3
        have rp1_S3 : aG S3 = gMa (aG S1) ∧ v4 = aSv (aG S1) := rp1_S3
        refine sp_11_82_sy (ab := (aG S3)) (by omega) (by omega) hI_S3 (show xB S3 (mR S3 70) from by first | (exact xB_x (xC_o (W := 75) rp0_S3).2)) (show aG S3 = (aG S3) from by first | (exact rfl)) (show qAv (aG S3) from by first | (rw [(rp1_S3.1.trans (congrArg gMa (rp1_S1.1.trans (congrArg gMi hpre1))))]; exact (Av_ma (Av_mi hpre2)))) (fun v6 S5 hI_S5 hp_v6 rp0_S5 rp1_S5 => zi_n ⟨zG_T hI_S5, ?_⟩)
        have rp0_S5 : xB S5 (mR S5 70) := rp0_S5
        have rp1_S5 : aG S5 = gMi (aG S3) ∧ v6 = gVi (aG S3) := rp1_S5
        have x27 : (mI S5 82 3).toInt ≤ (mI S5 82 7).toInt ∧ (mI S5 82 7).toInt ≤ (mI S5 82 3).toInt + (mI S5 82 2).toInt := zG_x hI_S5
        have f28 := zG_s hI_S5 (0) (3000) (c := 82) (k := 7) (by decide)
        have f29 := zG_s hI_S5 (0) (1500) (c := 82) (k := 2) (by decide)
        first | have e30 : ((mI S5 82 7) + (mI S5 82 2)).toInt = (mI S5 82 7).toInt + (mI S5 82 2).toInt := i_add (by omega) (by omega) | have b31 := i_bd ((mI S5 82 7) + (mI S5 82 2))
        have f32 := zG_s hI_S5 (0) (400000) (c := 82) (k := 8) (by decide)
        first | have e33 : ((mI S5 82 8) + z).toInt = (mI S5 82 8).toInt + z.toInt := i_add (by omega) (by omega) | have b34 := i_bd ((mI S5 82 8) + z)
        refine zd (fun h35 => ?_) (fun h35 => ?_)
        · skip
          have g36 := i_lt h35
          have li37 : (-1 : Int32).toInt = -1 := rfl
          exact K ((-1 : Int32)) _ hI_S5 (by omega) (show xB S5 (mR S5 70) from by first | (exact xB_x (xC_o (W := 75) rp0_S5).2)) (show aG S5 = gRs ab z.toInt ∧ (-1 : Int32).toInt = gRp ab z.toInt from by first | (have h0 : aG S = ab := hpre1; have n0_9 : (ab 87 9).toInt = (mI S 82 3).toInt := (by rw [← h0]; rfl); have n0_10 : (ab 87 10).toInt = (mI S 82 6).toInt := (by rw [← h0]; rfl); have n0_4 : (ab 87 4).toInt = (mI S 82 8).toInt := (by rw [← h0]; rfl); have n0_3 : (ab 87 3).toInt = (mI S 82 7).toInt := (by rw [← h0]; rfl); have n0_5 : (ab 87 5).toInt = (mI S 82 2).toInt := (by rw [← h0]; rfl); have h1 : aG S1 = gMi ab := rp1_S1.1.trans (congrArg gMi h0); have n1_9 : ((gMi ab) 87 9).toInt = (mI S1 82 3).toInt := (by rw [← h1]; rfl); have n1_10 : ((gMi ab) 87 10).toInt = (mI S1 82 6).toInt := (by rw [← h1]; rfl); have n1_4 : ((gMi ab) 87 4).toInt = (mI S1 82 8).toInt := (by rw [← h1]; rfl); have n1_3 : ((gMi ab) 87 3).toInt = (mI S1 82 7).toInt := (by rw [← h1]; rfl); have n1_5 : ((gMi ab) 87 5).toInt = (mI S1 82 2).toInt := (by rw [← h1]; rfl); have h2 : aG S3 = gMa (gMi ab) := rp1_S3.1.trans (congrArg gMa h1); have n2_9 : ((gMa (gMi ab)) 87 9).toInt = (mI S3 82 3).toInt := (by rw [← h2]; rfl); have n2_10 : ((gMa (gMi ab)) 87 10).toInt = (mI S3 82 6).toInt := (by rw [← h2]; rfl); have n2_4 : ((gMa (gMi ab)) 87 4).toInt = (mI S3 82 8).toInt := (by rw [← h2]; rfl); have n2_3 : ((gMa (gMi ab)) 87 3).toInt = (mI S3 82 7).toInt := (by rw [← h2]; rfl); have n2_5 : ((gMa (gMi ab)) 87 5).toInt = (mI S3 82 2).toInt := (by rw [← h2]; rfl); have h3 : aG S5 = gMi (gMa (gMi ab)) := rp1_S5.1.trans (congrArg gMi h2); have n3_9 : ((gMi (gMa (gMi ab))) 87 9).toInt = (mI S5 82 3).toInt := (by rw [← h3]; rfl); have n3_10 : ((gMi (gMa (gMi ab))) 87 10).toInt = (mI S5 82 6).toInt := (by rw [← h3]; rfl); have n3_4 : ((gMi (gMa (gMi ab))) 87 4).toInt = (mI S5 82 8).toInt := (by rw [← h3]; rfl); have n3_3 : ((gMi (gMa (gMi ab))) 87 3).toInt = (mI S5 82 7).toInt := (by rw [← h3]; rfl); have n3_5 : ((gMi (gMa (gMi ab))) 87 5).toInt = (mI S5 82 2).toInt := (by rw [← h3]; rfl); have d2 := (i_div (x := mI S 82 2) (y := (2 : Int32)) (by omega) (by decide)).2.2.1; have t2 : (2 : Int32).toInt = 2 := rfl; rw [t2] at d2; have E := Rs_gy (a := ab) (z := z.toInt) (by rw [n0_5, ← d2]; omega) (R1_gn (by unfold gHs; omega)) (R2_gn (by unfold gHs; omega)); refine ⟨h3.trans E.1.symm, ?_⟩; rw [E.2.2 (by unfold gHs; omega)]; rfl) | (have h0 : aG S = ab := hpre1; have n0_9 : (ab 87 9).toInt = (mI S 82 3).toInt := (by rw [← h0]; rfl); have n0_10 : (ab 87 10).toInt = (mI S 82 6).toInt := (by rw [← h0]; rfl); have n0_4 : (ab 87 4).toInt = (mI S 82 8).toInt := (by rw [← h0]; rfl); have n0_3 : (ab 87 3).toInt = (mI S 82 7).toInt := (by rw [← h0]; rfl); have n0_5 : (ab 87 5).toInt = (mI S 82 2).toInt := (by rw [← h0]; rfl); have h1 : aG S1 = gMi ab := rp1_S1.1.trans (congrArg gMi h0); have n1_9 : ((gMi ab) 87 9).toInt = (mI S1 82 3).toInt := (by rw [← h1]; rfl); have n1_10 : ((gMi ab) 87 10).toInt = (mI S1 82 6).toInt := (by rw [← h1]; rfl); have n1_4 : ((gMi ab) 87 4).toInt = (mI S1 82 8).toInt := (by rw [← h1]; rfl); have n1_3 : ((gMi ab) 87 3).toInt = (mI S1 82 7).toInt := (by rw [← h1]; rfl); have n1_5 : ((gMi ab) 87 5).toInt = (mI S1 82 2).toInt := (by rw [← h1]; rfl); have h2 : aG S3 = gMa (gMi ab) := rp1_S3.1.trans (congrArg gMa h1); have n2_9 : ((gMa (gMi ab)) 87 9).toInt = (mI S3 82 3).toInt := (by rw [← h2]; rfl); have n2_10 : ((gMa (gMi ab)) 87 10).toInt = (mI S3 82 6).toInt := (by rw [← h2]; rfl); have n2_4 : ((gMa (gMi ab)) 87 4).toInt = (mI S3 82 8).toInt := (by rw [← h2]; rfl); have n2_3 : ((gMa (gMi ab)) 87 3).toInt = (mI S3 82 7).toInt := (by rw [← h2]; rfl); have n2_5 : ((gMa (gMi ab)) 87 5).toInt = (mI S3 82 2).toInt := (by rw [← h2]; rfl); have h3 : aG S5 = gMi (gMa (gMi ab)) := rp1_S5.1.trans (congrArg gMi h2); have n3_9 : ((gMi (gMa (gMi ab))) 87 9).toInt = (mI S5 82 3).toInt := (by rw [← h3]; rfl); have n3_10 : ((gMi (gMa (gMi ab))) 87 10).toInt = (mI S5 82 6).toInt := (by rw [← h3]; rfl); have n3_4 : ((gMi (gMa (gMi ab))) 87 4).toInt = (mI S5 82 8).toInt := (by rw [← h3]; rfl); have n3_3 : ((gMi (gMa (gMi ab))) 87 3).toInt = (mI S5 82 7).toInt := (by rw [← h3]; rfl); have n3_5 : ((gMi (gMa (gMi ab))) 87 5).toInt = (mI S5 82 2).toInt := (by rw [← h3]; rfl); have d2 := (i_div (x := mI S 82 2) (y := (2 : Int32)) (by omega) (by decide)).2.2.1; have t2 : (2 : Int32).toInt = 2 := rfl; rw [t2] at d2; have E := Rs_gy (a := ab) (z := z.toInt) (by rw [n0_5, ← d2]; omega) (R1_gn (by unfold gHs; omega)) (R2_gn (by unfold gHs; omega)); refine ⟨h3.trans E.1.symm, ?_⟩; rw [E.2.1 (by unfold gHs; omega)]; omega) | (have h0 : aG S = ab := hpre1; have n0_9 : (ab 87 9).toInt = (mI S 82 3).toInt := (by rw [← h0]; rfl); have n0_10 : (ab 87 10).toInt = (mI S 82 6).toInt := (by rw [← h0]; rfl); have n0_4 : (ab 87 4).toInt = (mI S 82 8).toInt := (by rw [← h0]; rfl); have n0_3 : (ab 87 3).toInt = (mI S 82 7).toInt := (by rw [← h0]; rfl); have n0_5 : (ab 87 5).toInt = (mI S 82 2).toInt := (by rw [← h0]; rfl); have h1 : aG S1 = gMi ab := rp1_S1.1.trans (congrArg gMi h0); have n1_9 : ((gMi ab) 87 9).toInt = (mI S1 82 3).toInt := (by rw [← h1]; rfl); have n1_10 : ((gMi ab) 87 10).toInt = (mI S1 82 6).toInt := (by rw [← h1]; rfl); have n1_4 : ((gMi ab) 87 4).toInt = (mI S1 82 8).toInt := (by rw [← h1]; rfl); have n1_3 : ((gMi ab) 87 3).toInt = (mI S1 82 7).toInt := (by rw [← h1]; rfl); have n1_5 : ((gMi ab) 87 5).toInt = (mI S1 82 2).toInt := (by rw [← h1]; rfl); have h2 : aG S3 = gMa (gMi ab) := rp1_S3.1.trans (congrArg gMa h1); have n2_9 : ((gMa (gMi ab)) 87 9).toInt = (mI S3 82 3).toInt := (by rw [← h2]; rfl); have n2_10 : ((gMa (gMi ab)) 87 10).toInt = (mI S3 82 6).toInt := (by rw [← h2]; rfl); have n2_4 : ((gMa (gMi ab)) 87 4).toInt = (mI S3 82 8).toInt := (by rw [← h2]; rfl); have n2_3 : ((gMa (gMi ab)) 87 3).toInt = (mI S3 82 7).toInt := (by rw [← h2]; rfl); have n2_5 : ((gMa (gMi ab)) 87 5).toInt = (mI S3 82 2).toInt := (by rw [← h2]; rfl); have h3 : aG S5 = gMi (gMa (gMi ab)) := rp1_S5.1.trans (congrArg gMi h2); have n3_9 : ((gMi (gMa (gMi ab))) 87 9).toInt = (mI S5 82 3).toInt := (by rw [← h3]; rfl); have n3_10 : ((gMi (gMa (gMi ab))) 87 10).toInt = (mI S5 82 6).toInt := (by rw [← h3]; rfl); have n3_4 : ((gMi (gMa (gMi ab))) 87 4).toInt = (mI S5 82 8).toInt := (by rw [← h3]; rfl); have n3_3 : ((gMi (gMa (gMi ab))) 87 3).toInt = (mI S5 82 7).toInt := (by rw [← h3]; rfl); have n3_5 : ((gMi (gMa (gMi ab))) 87 5).toInt = (mI S5 82 2).toInt := (by rw [← h3]; rfl); exfalso; omega))
        · skip
          have g38 := i_nlt h35
          exact K ((mI S5 82 8)) _ hI_S5 (by omega) (show xB S5 (mR S5 70) from by first | (exact xB_x (xC_o (W := 75) rp0_S5).2)) (show aG S5 = gRs ab z.toInt ∧ (mI S5 82 8).toInt = gRp ab z.toInt from by first | (have h0 : aG S = ab := hpre1; have n0_9 : (ab 87 9).toInt = (mI S 82 3).toInt := (by rw [← h0]; rfl); have n0_10 : (ab 87 10).toInt = (mI S 82 6).toInt := (by rw [← h0]; rfl); have n0_4 : (ab 87 4).toInt = (mI S 82 8).toInt := (by rw [← h0]; rfl); have n0_3 : (ab 87 3).toInt = (mI S 82 7).toInt := (by rw [← h0]; rfl); have n0_5 : (ab 87 5).toInt = (mI S 82 2).toInt := (by rw [← h0]; rfl); have h1 : aG S1 = gMi ab := rp1_S1.1.trans (congrArg gMi h0); have n1_9 : ((gMi ab) 87 9).toInt = (mI S1 82 3).toInt := (by rw [← h1]; rfl); have n1_10 : ((gMi ab) 87 10).toInt = (mI S1 82 6).toInt := (by rw [← h1]; rfl); have n1_4 : ((gMi ab) 87 4).toInt = (mI S1 82 8).toInt := (by rw [← h1]; rfl); have n1_3 : ((gMi ab) 87 3).toInt = (mI S1 82 7).toInt := (by rw [← h1]; rfl); have n1_5 : ((gMi ab) 87 5).toInt = (mI S1 82 2).toInt := (by rw [← h1]; rfl); have h2 : aG S3 = gMa (gMi ab) := rp1_S3.1.trans (congrArg gMa h1); have n2_9 : ((gMa (gMi ab)) 87 9).toInt = (mI S3 82 3).toInt := (by rw [← h2]; rfl); have n2_10 : ((gMa (gMi ab)) 87 10).toInt = (mI S3 82 6).toInt := (by rw [← h2]; rfl); have n2_4 : ((gMa (gMi ab)) 87 4).toInt = (mI S3 82 8).toInt := (by rw [← h2]; rfl); have n2_3 : ((gMa (gMi ab)) 87 3).toInt = (mI S3 82 7).toInt := (by rw [← h2]; rfl); have n2_5 : ((gMa (gMi ab)) 87 5).toInt = (mI S3 82 2).toInt := (by rw [← h2]; rfl); have h3 : aG S5 = gMi (gMa (gMi ab)) := rp1_S5.1.trans (congrArg gMi h2); have n3_9 : ((gMi (gMa (gMi ab))) 87 9).toInt = (mI S5 82 3).toInt := (by rw [← h3]; rfl); have n3_10 : ((gMi (gMa (gMi ab))) 87 10).toInt = (mI S5 82 6).toInt := (by rw [← h3]; rfl); have n3_4 : ((gMi (gMa (gMi ab))) 87 4).toInt = (mI S5 82 8).toInt := (by rw [← h3]; rfl); have n3_3 : ((gMi (gMa (gMi ab))) 87 3).toInt = (mI S5 82 7).toInt := (by rw [← h3]; rfl); have n3_5 : ((gMi (gMa (gMi ab))) 87 5).toInt = (mI S5 82 2).toInt := (by rw [← h3]; rfl); have d2 := (i_div (x := mI S 82 2) (y := (2 : Int32)) (by omega) (by decide)).2.2.1; have t2 : (2 : Int32).toInt = 2 := rfl; rw [t2] at d2; have E := Rs_gy (a := ab) (z := z.toInt) (by rw [n0_5, ← d2]; omega) (R1_gn (by unfold gHs; omega)) (R2_gn (by unfold gHs; omega)); refine ⟨h3.trans E.1.symm, ?_⟩; rw [E.2.1 (by unfold gHs; omega)]; omega) | (have h0 : aG S = ab := hpre1; have n0_9 : (ab 87 9).toInt = (mI S 82 3).toInt := (by rw [← h0]; rfl); have n0_10 : (ab 87 10).toInt = (mI S 82 6).toInt := (by rw [← h0]; rfl); have n0_4 : (ab 87 4).toInt = (mI S 82 8).toInt := (by rw [← h0]; rfl); have n0_3 : (ab 87 3).toInt = (mI S 82 7).toInt := (by rw [← h0]; rfl); have n0_5 : (ab 87 5).toInt = (mI S 82 2).toInt := (by rw [← h0]; rfl); have h1 : aG S1 = gMi ab := rp1_S1.1.trans (congrArg gMi h0); have n1_9 : ((gMi ab) 87 9).toInt = (mI S1 82 3).toInt := (by rw [← h1]; rfl); have n1_10 : ((gMi ab) 87 10).toInt = (mI S1 82 6).toInt := (by rw [← h1]; rfl); have n1_4 : ((gMi ab) 87 4).toInt = (mI S1 82 8).toInt := (by rw [← h1]; rfl); have n1_3 : ((gMi ab) 87 3).toInt = (mI S1 82 7).toInt := (by rw [← h1]; rfl); have n1_5 : ((gMi ab) 87 5).toInt = (mI S1 82 2).toInt := (by rw [← h1]; rfl); have h2 : aG S3 = gMa (gMi ab) := rp1_S3.1.trans (congrArg gMa h1); have n2_9 : ((gMa (gMi ab)) 87 9).toInt = (mI S3 82 3).toInt := (by rw [← h2]; rfl); have n2_10 : ((gMa (gMi ab)) 87 10).toInt = (mI S3 82 6).toInt := (by rw [← h2]; rfl); have n2_4 : ((gMa (gMi ab)) 87 4).toInt = (mI S3 82 8).toInt := (by rw [← h2]; rfl); have n2_3 : ((gMa (gMi ab)) 87 3).toInt = (mI S3 82 7).toInt := (by rw [← h2]; rfl); have n2_5 : ((gMa (gMi ab)) 87 5).toInt = (mI S3 82 2).toInt := (by rw [← h2]; rfl); have h3 : aG S5 = gMi (gMa (gMi ab)) := rp1_S5.1.trans (congrArg gMi h2); have n3_9 : ((gMi (gMa (gMi ab))) 87 9).toInt = (mI S5 82 3).toInt := (by rw [← h3]; rfl); have n3_10 : ((gMi (gMa (gMi ab))) 87 10).toInt = (mI S5 82 6).toInt := (by rw [← h3]; rfl); have n3_4 : ((gMi (gMa (gMi ab))) 87 4).toInt = (mI S5 82 8).toInt := (by rw [← h3]; rfl); have n3_3 : ((gMi (gMa (gMi ab))) 87 3).toInt = (mI S5 82 7).toInt := (by rw [← h3]; rfl); have n3_5 : ((gMi (gMa (gMi ab))) 87 5).toInt = (mI S5 82 2).toInt := (by rw [← h3]; rfl); have d2 := (i_div (x := mI S 82 2) (y := (2 : Int32)) (by omega) (by decide)).2.2.1; have t2 : (2 : Int32).toInt = 2 := rfl; rw [t2] at d2; have E := Rs_gy (a := ab) (z := z.toInt) (by rw [n0_5, ← d2]; omega) (R1_gn (by unfold gHs; omega)) (R2_gn (by unfold gHs; omega)); refine ⟨h3.trans E.1.symm, ?_⟩; rw [E.2.2 (by unfold gHs; omega)]; rfl) | (have h0 : aG S = ab := hpre1; have n0_9 : (ab 87 9).toInt = (mI S 82 3).toInt := (by rw [← h0]; rfl); have n0_10 : (ab 87 10).toInt = (mI S 82 6).toInt := (by rw [← h0]; rfl); have n0_4 : (ab 87 4).toInt = (mI S 82 8).toInt := (by rw [← h0]; rfl); have n0_3 : (ab 87 3).toInt = (mI S 82 7).toInt := (by rw [← h0]; rfl); have n0_5 : (ab 87 5).toInt = (mI S 82 2).toInt := (by rw [← h0]; rfl); have h1 : aG S1 = gMi ab := rp1_S1.1.trans (congrArg gMi h0); have n1_9 : ((gMi ab) 87 9).toInt = (mI S1 82 3).toInt := (by rw [← h1]; rfl); have n1_10 : ((gMi ab) 87 10).toInt = (mI S1 82 6).toInt := (by rw [← h1]; rfl); have n1_4 : ((gMi ab) 87 4).toInt = (mI S1 82 8).toInt := (by rw [← h1]; rfl); have n1_3 : ((gMi ab) 87 3).toInt = (mI S1 82 7).toInt := (by rw [← h1]; rfl); have n1_5 : ((gMi ab) 87 5).toInt = (mI S1 82 2).toInt := (by rw [← h1]; rfl); have h2 : aG S3 = gMa (gMi ab) := rp1_S3.1.trans (congrArg gMa h1); have n2_9 : ((gMa (gMi ab)) 87 9).toInt = (mI S3 82 3).toInt := (by rw [← h2]; rfl); have n2_10 : ((gMa (gMi ab)) 87 10).toInt = (mI S3 82 6).toInt := (by rw [← h2]; rfl); have n2_4 : ((gMa (gMi ab)) 87 4).toInt = (mI S3 82 8).toInt := (by rw [← h2]; rfl); have n2_3 : ((gMa (gMi ab)) 87 3).toInt = (mI S3 82 7).toInt := (by rw [← h2]; rfl); have n2_5 : ((gMa (gMi ab)) 87 5).toInt = (mI S3 82 2).toInt := (by rw [← h2]; rfl); have h3 : aG S5 = gMi (gMa (gMi ab)) := rp1_S5.1.trans (congrArg gMi h2); have n3_9 : ((gMi (gMa (gMi ab))) 87 9).toInt = (mI S5 82 3).toInt := (by rw [← h3]; rfl); have n3_10 : ((gMi (gMa (gMi ab))) 87 10).toInt = (mI S5 82 6).toInt := (by rw [← h3]; rfl); have n3_4 : ((gMi (gMa (gMi ab))) 87 4).toInt = (mI S5 82 8).toInt := (by rw [← h3]; rfl); have n3_3 : ((gMi (gMa (gMi ab))) 87 3).toInt = (mI S5 82 7).toInt := (by rw [← h3]; rfl); have n3_5 : ((gMi (gMa (gMi ab))) 87 5).toInt = (mI S5 82 2).toInt := (by rw [← h3]; rfl); exfalso; omega))
      · skip
        have g39 := i_nlt h25
        refine zd (fun h40 => ?_) (fun h40 => ?_)
        · skip
          have g41 := i_lt h40
          have li42 : (-1 : Int32).toInt = -1 := rfl
          exact K ((-1 : Int32)) _ hI_S1 (by omega) (show xB S1 (mR S1 70) from by first | (exact xB_x (xC_o (W := 75) rp0_S1).2)) (show aG S1 = gRs ab z.toInt ∧ (-1 : Int32).toInt = gRp ab z.toInt from by first | (have h0 : aG S = ab := hpre1; have n0_9 : (ab 87 9).toInt = (mI S 82 3).toInt := (by rw [← h0]; rfl); have n0_10 : (ab 87 10).toInt = (mI S 82 6).toInt := (by rw [← h0]; rfl); have n0_4 : (ab 87 4).toInt = (mI S 82 8).toInt := (by rw [← h0]; rfl); have n0_3 : (ab 87 3).toInt = (mI S 82 7).toInt := (by rw [← h0]; rfl); have n0_5 : (ab 87 5).toInt = (mI S 82 2).toInt := (by rw [← h0]; rfl); have h1 : aG S1 = gMi ab := rp1_S1.1.trans (congrArg gMi h0); have n1_9 : ((gMi ab) 87 9).toInt = (mI S1 82 3).toInt := (by rw [← h1]; rfl); have n1_10 : ((gMi ab) 87 10).toInt = (mI S1 82 6).toInt := (by rw [← h1]; rfl); have n1_4 : ((gMi ab) 87 4).toInt = (mI S1 82 8).toInt := (by rw [← h1]; rfl); have n1_3 : ((gMi ab) 87 3).toInt = (mI S1 82 7).toInt := (by rw [← h1]; rfl); have n1_5 : ((gMi ab) 87 5).toInt = (mI S1 82 2).toInt := (by rw [← h1]; rfl); have d2 := (i_div (x := mI S 82 2) (y := (2 : Int32)) (by omega) (by decide)).2.2.1; have t2 : (2 : Int32).toInt = 2 := rfl; rw [t2] at d2; have E := Rs_gy (a := ab) (z := z.toInt) (by rw [n0_5, ← d2]; omega) (R1_gn (by unfold gHs; omega)) (R2_gy (by unfold gHs; omega)); refine ⟨h1.trans E.1.symm, ?_⟩; rw [E.2.1 (by unfold gHs; omega)]; omega) | (have h0 : aG S = ab := hpre1; have n0_9 : (ab 87 9).toInt = (mI S 82 3).toInt := (by rw [← h0]; rfl); have n0_10 : (ab 87 10).toInt = (mI S 82 6).toInt := (by rw [← h0]; rfl); have n0_4 : (ab 87 4).toInt = (mI S 82 8).toInt := (by rw [← h0]; rfl); have n0_3 : (ab 87 3).toInt = (mI S 82 7).toInt := (by rw [← h0]; rfl); have n0_5 : (ab 87 5).toInt = (mI S 82 2).toInt := (by rw [← h0]; rfl); have h1 : aG S1 = gMi ab := rp1_S1.1.trans (congrArg gMi h0); have n1_9 : ((gMi ab) 87 9).toInt = (mI S1 82 3).toInt := (by rw [← h1]; rfl); have n1_10 : ((gMi ab) 87 10).toInt = (mI S1 82 6).toInt := (by rw [← h1]; rfl); have n1_4 : ((gMi ab) 87 4).toInt = (mI S1 82 8).toInt := (by rw [← h1]; rfl); have n1_3 : ((gMi ab) 87 3).toInt = (mI S1 82 7).toInt := (by rw [← h1]; rfl); have n1_5 : ((gMi ab) 87 5).toInt = (mI S1 82 2).toInt := (by rw [← h1]; rfl); have d2 := (i_div (x := mI S 82 2) (y := (2 : Int32)) (by omega) (by decide)).2.2.1; have t2 : (2 : Int32).toInt = 2 := rfl; rw [t2] at d2; have E := Rs_gy (a := ab) (z := z.toInt) (by rw [n0_5, ← d2]; omega) (R1_gn (by unfold gHs; omega)) (R2_gy (by unfold gHs; omega)); refine ⟨h1.trans E.1.symm, ?_⟩; rw [E.2.2 (by unfold gHs; omega)]; rfl) | (have h0 : aG S = ab := hpre1; have n0_9 : (ab 87 9).toInt = (mI S 82 3).toInt := (by rw [← h0]; rfl); have n0_10 : (ab 87 10).toInt = (mI S 82 6).toInt := (by rw [← h0]; rfl); have n0_4 : (ab 87 4).toInt = (mI S 82 8).toInt := (by rw [← h0]; rfl); have n0_3 : (ab 87 3).toInt = (mI S 82 7).toInt := (by rw [← h0]; rfl); have n0_5 : (ab 87 5).toInt = (mI S 82 2).toInt := (by rw [← h0]; rfl); have h1 : aG S1 = gMi ab := rp1_S1.1.trans (congrArg gMi h0); have n1_9 : ((gMi ab) 87 9).toInt = (mI S1 82 3).toInt := (by rw [← h1]; rfl); have n1_10 : ((gMi ab) 87 10).toInt = (mI S1 82 6).toInt := (by rw [← h1]; rfl); have n1_4 : ((gMi ab) 87 4).toInt = (mI S1 82 8).toInt := (by rw [← h1]; rfl); have n1_3 : ((gMi ab) 87 3).toInt = (mI S1 82 7).toInt := (by rw [← h1]; rfl); have n1_5 : ((gMi ab) 87 5).toInt = (mI S1 82 2).toInt := (by rw [← h1]; rfl); exfalso; omega))
        · skip
          have g43 := i_nlt h40
          exact K ((mI S1 82 8)) _ hI_S1 (by omega) (show xB S1 (mR S1 70) from by first | (exact xB_x (xC_o (W := 75) rp0_S1).2)) (show aG S1 = gRs ab z.toInt ∧ (mI S1 82 8).toInt = gRp ab z.toInt from by first | (have h0 : aG S = ab := hpre1; have n0_9 : (ab 87 9).toInt = (mI S 82 3).toInt := (by rw [← h0]; rfl); have n0_10 : (ab 87 10).toInt = (mI S 82 6).toInt := (by rw [← h0]; rfl); have n0_4 : (ab 87 4).toInt = (mI S 82 8).toInt := (by rw [← h0]; rfl); have n0_3 : (ab 87 3).toInt = (mI S 82 7).toInt := (by rw [← h0]; rfl); have n0_5 : (ab 87 5).toInt = (mI S 82 2).toInt := (by rw [← h0]; rfl); have h1 : aG S1 = gMi ab := rp1_S1.1.trans (congrArg gMi h0); have n1_9 : ((gMi ab) 87 9).toInt = (mI S1 82 3).toInt := (by rw [← h1]; rfl); have n1_10 : ((gMi ab) 87 10).toInt = (mI S1 82 6).toInt := (by rw [← h1]; rfl); have n1_4 : ((gMi ab) 87 4).toInt = (mI S1 82 8).toInt := (by rw [← h1]; rfl); have n1_3 : ((gMi ab) 87 3).toInt = (mI S1 82 7).toInt := (by rw [← h1]; rfl); have n1_5 : ((gMi ab) 87 5).toInt = (mI S1 82 2).toInt := (by rw [← h1]; rfl); have d2 := (i_div (x := mI S 82 2) (y := (2 : Int32)) (by omega) (by decide)).2.2.1; have t2 : (2 : Int32).toInt = 2 := rfl; rw [t2] at d2; have E := Rs_gy (a := ab) (z := z.toInt) (by rw [n0_5, ← d2]; omega) (R1_gn (by unfold gHs; omega)) (R2_gy (by unfold gHs; omega)); refine ⟨h1.trans E.1.symm, ?_⟩; rw [E.2.1 (by unfold gHs; omega)]; omega) | (have h0 : aG S = ab := hpre1; have n0_9 : (ab 87 9).toInt = (mI S 82 3).toInt := (by rw [← h0]; rfl); have n0_10 : (ab 87 10).toInt = (mI S 82 6).toInt := (by rw [← h0]; rfl); have n0_4 : (ab 87 4).toInt = (mI S 82 8).toInt := (by rw [← h0]; rfl); have n0_3 : (ab 87 3).toInt = (mI S 82 7).toInt := (by rw [← h0]; rfl); have n0_5 : (ab 87 5).toInt = (mI S 82 2).toInt := (by rw [← h0]; rfl); have h1 : aG S1 = gMi ab := rp1_S1.1.trans (congrArg gMi h0); have n1_9 : ((gMi ab) 87 9).toInt = (mI S1 82 3).toInt := (by rw [← h1]; rfl); have n1_10 : ((gMi ab) 87 10).toInt = (mI S1 82 6).toInt := (by rw [← h1]; rfl); have n1_4 : ((gMi ab) 87 4).toInt = (mI S1 82 8).toInt := (by rw [← h1]; rfl); have n1_3 : ((gMi ab) 87 3).toInt = (mI S1 82 7).toInt := (by rw [← h1]; rfl); have n1_5 : ((gMi ab) 87 5).toInt = (mI S1 82 2).toInt := (by rw [← h1]; rfl); have d2 := (i_div (x := mI S 82 2) (y := (2 : Int32)) (by omega) (by decide)).2.2.1; have t2 : (2 : Int32).toInt = 2 := rfl; rw [t2] at d2; have E := Rs_gy (a := ab) (z := z.toInt) (by rw [n0_5, ← d2]; omega) (R1_gn (by unfold gHs; omega)) (R2_gy (by unfold gHs; omega)); refine ⟨h1.trans E.1.symm, ?_⟩; rw [E.2.2 (by unfold gHs; omega)]; rfl) | (have h0 : aG S = ab := hpre1; have n0_9 : (ab 87 9).toInt = (mI S 82 3).toInt := (by rw [← h0]; rfl); have n0_10 : (ab 87 10).toInt = (mI S 82 6).toInt := (by rw [← h0]; rfl); have n0_4 : (ab 87 4).toInt = (mI S 82 8).toInt := (by rw [← h0]; rfl); have n0_3 : (ab 87 3).toInt = (mI S 82 7).toInt := (by rw [← h0]; rfl); have n0_5 : (ab 87 5).toInt = (mI S 82 2).toInt := (by rw [← h0]; rfl); have h1 : aG S1 = gMi ab := rp1_S1.1.trans (congrArg gMi h0); have n1_9 : ((gMi ab) 87 9).toInt = (mI S1 82 3).toInt := (by rw [← h1]; rfl); have n1_10 : ((gMi ab) 87 10).toInt = (mI S1 82 6).toInt := (by rw [← h1]; rfl); have n1_4 : ((gMi ab) 87 4).toInt = (mI S1 82 8).toInt := (by rw [← h1]; rfl); have n1_3 : ((gMi ab) 87 3).toInt = (mI S1 82 7).toInt := (by rw [← h1]; rfl); have n1_5 : ((gMi ab) 87 5).toInt = (mI S1 82 2).toInt := (by rw [← h1]; rfl); exfalso; omega))
    · skip
      have g44 := i_nlt h15
      refine zd (fun h45 => ?_) (fun h45 => ?_)
      · skip
        have g46 := i_lt h45
        refine sp_5_82_sy (ab := (aG S)) (by omega) (by omega) hI (show xB S (mR S 70) from by first | (exact xB_x (xC_o (W := 75) hpre0).2)) (show aG S = (aG S) from by first | (exact rfl)) (show qAv (aG S) from by first | (rw [hpre1]; exact hpre2)) (fun v8 S7 hI_S7 hp_v8 rp0_S7 rp1_S7 => zi_n ⟨zG_T hI_S7, ?_⟩)
        have rp0_S7 : xB S7 (mR S7 70) := rp0_S7
        have rp1_S7 : aG S7 = gMa (aG S) ∧ v8 = aSv (aG S) := rp1_S7
        refine sp_11_82_sy (ab := (aG S7)) (by omega) (by omega) hI_S7 (show xB S7 (mR S7 70) from by first | (exact xB_x (xC_o (W := 75) rp0_S7).2)) (show aG S7 = (aG S7) from by first | (exact rfl)) (show qAv (aG S7) from by first | (rw [(rp1_S7.1.trans (congrArg gMa hpre1))]; exact (Av_ma hpre2))) (fun v10 S9 hI_S9 hp_v10 rp0_S9 rp1_S9 => zi_n ⟨zG_T hI_S9, ?_⟩)
        have rp0_S9 : xB S9 (mR S9 70) := rp0_S9
        have rp1_S9 : aG S9 = gMi (aG S7) ∧ v10 = gVi (aG S7) := rp1_S9
        have x47 : (mI S9 82 3).toInt ≤ (mI S9 82 7).toInt ∧ (mI S9 82 7).toInt ≤ (mI S9 82 3).toInt + (mI S9 82 2).toInt := zG_x hI_S9
        have f48 := zG_s hI_S9 (0) (3000) (c := 82) (k := 7) (by decide)
        have f49 := zG_s hI_S9 (0) (1500) (c := 82) (k := 2) (by decide)
        first | have e50 : ((mI S9 82 7) + (mI S9 82 2)).toInt = (mI S9 82 7).toInt + (mI S9 82 2).toInt := i_add (by omega) (by omega) | have b51 := i_bd ((mI S9 82 7) + (mI S9 82 2))
        have f52 := zG_s hI_S9 (0) (400000) (c := 82) (k := 8) (by decide)
        first | have e53 : ((mI S9 82 8) + z).toInt = (mI S9 82 8).toInt + z.toInt := i_add (by omega) (by omega) | have b54 := i_bd ((mI S9 82 8) + z)
        refine zd (fun h55 => ?_) (fun h55 => ?_)
        · skip
          have g56 := i_lt h55
          have li57 : (-1 : Int32).toInt = -1 := rfl
          exact K ((-1 : Int32)) _ hI_S9 (by omega) (show xB S9 (mR S9 70) from by first | (exact xB_x (xC_o (W := 75) rp0_S9).2)) (show aG S9 = gRs ab z.toInt ∧ (-1 : Int32).toInt = gRp ab z.toInt from by first | (have h0 : aG S = ab := hpre1; have n0_9 : (ab 87 9).toInt = (mI S 82 3).toInt := (by rw [← h0]; rfl); have n0_10 : (ab 87 10).toInt = (mI S 82 6).toInt := (by rw [← h0]; rfl); have n0_4 : (ab 87 4).toInt = (mI S 82 8).toInt := (by rw [← h0]; rfl); have n0_3 : (ab 87 3).toInt = (mI S 82 7).toInt := (by rw [← h0]; rfl); have n0_5 : (ab 87 5).toInt = (mI S 82 2).toInt := (by rw [← h0]; rfl); have h1 : aG S7 = gMa ab := rp1_S7.1.trans (congrArg gMa h0); have n1_9 : ((gMa ab) 87 9).toInt = (mI S7 82 3).toInt := (by rw [← h1]; rfl); have n1_10 : ((gMa ab) 87 10).toInt = (mI S7 82 6).toInt := (by rw [← h1]; rfl); have n1_4 : ((gMa ab) 87 4).toInt = (mI S7 82 8).toInt := (by rw [← h1]; rfl); have n1_3 : ((gMa ab) 87 3).toInt = (mI S7 82 7).toInt := (by rw [← h1]; rfl); have n1_5 : ((gMa ab) 87 5).toInt = (mI S7 82 2).toInt := (by rw [← h1]; rfl); have h2 : aG S9 = gMi (gMa ab) := rp1_S9.1.trans (congrArg gMi h1); have n2_9 : ((gMi (gMa ab)) 87 9).toInt = (mI S9 82 3).toInt := (by rw [← h2]; rfl); have n2_10 : ((gMi (gMa ab)) 87 10).toInt = (mI S9 82 6).toInt := (by rw [← h2]; rfl); have n2_4 : ((gMi (gMa ab)) 87 4).toInt = (mI S9 82 8).toInt := (by rw [← h2]; rfl); have n2_3 : ((gMi (gMa ab)) 87 3).toInt = (mI S9 82 7).toInt := (by rw [← h2]; rfl); have n2_5 : ((gMi (gMa ab)) 87 5).toInt = (mI S9 82 2).toInt := (by rw [← h2]; rfl); exfalso; omega) | (have h0 : aG S = ab := hpre1; have n0_9 : (ab 87 9).toInt = (mI S 82 3).toInt := (by rw [← h0]; rfl); have n0_10 : (ab 87 10).toInt = (mI S 82 6).toInt := (by rw [← h0]; rfl); have n0_4 : (ab 87 4).toInt = (mI S 82 8).toInt := (by rw [← h0]; rfl); have n0_3 : (ab 87 3).toInt = (mI S 82 7).toInt := (by rw [← h0]; rfl); have n0_5 : (ab 87 5).toInt = (mI S 82 2).toInt := (by rw [← h0]; rfl); have h1 : aG S7 = gMa ab := rp1_S7.1.trans (congrArg gMa h0); have n1_9 : ((gMa ab) 87 9).toInt = (mI S7 82 3).toInt := (by rw [← h1]; rfl); have n1_10 : ((gMa ab) 87 10).toInt = (mI S7 82 6).toInt := (by rw [← h1]; rfl); have n1_4 : ((gMa ab) 87 4).toInt = (mI S7 82 8).toInt := (by rw [← h1]; rfl); have n1_3 : ((gMa ab) 87 3).toInt = (mI S7 82 7).toInt := (by rw [← h1]; rfl); have n1_5 : ((gMa ab) 87 5).toInt = (mI S7 82 2).toInt := (by rw [← h1]; rfl); have h2 : aG S9 = gMi (gMa ab) := rp1_S9.1.trans (congrArg gMi h1); have n2_9 : ((gMi (gMa ab)) 87 9).toInt = (mI S9 82 3).toInt := (by rw [← h2]; rfl); have n2_10 : ((gMi (gMa ab)) 87 10).toInt = (mI S9 82 6).toInt := (by rw [← h2]; rfl); have n2_4 : ((gMi (gMa ab)) 87 4).toInt = (mI S9 82 8).toInt := (by rw [← h2]; rfl); have n2_3 : ((gMi (gMa ab)) 87 3).toInt = (mI S9 82 7).toInt := (by rw [← h2]; rfl); have n2_5 : ((gMi (gMa ab)) 87 5).toInt = (mI S9 82 2).toInt := (by rw [← h2]; rfl); have d2 := (i_div (x := mI S 82 2) (y := (2 : Int32)) (by omega) (by decide)).2.2.1; have t2 : (2 : Int32).toInt = 2 := rfl; rw [t2] at d2; have E := Rs_gy (a := ab) (z := z.toInt) (by rw [n0_5, ← d2]; omega) (R1_gn (by unfold gHs; omega)) (R2_gy (by unfold gHs; omega)); refine ⟨h2.trans E.1.symm, ?_⟩; rw [E.2.1 (by unfold gHs; omega)]; omega) | (have h0 : aG S = ab := hpre1; have n0_9 : (ab 87 9).toInt = (mI S 82 3).toInt := (by rw [← h0]; rfl); have n0_10 : (ab 87 10).toInt = (mI S 82 6).toInt := (by rw [← h0]; rfl); have n0_4 : (ab 87 4).toInt = (mI S 82 8).toInt := (by rw [← h0]; rfl); have n0_3 : (ab 87 3).toInt = (mI S 82 7).toInt := (by rw [← h0]; rfl); have n0_5 : (ab 87 5).toInt = (mI S 82 2).toInt := (by rw [← h0]; rfl); have h1 : aG S7 = gMa ab := rp1_S7.1.trans (congrArg gMa h0); have n1_9 : ((gMa ab) 87 9).toInt = (mI S7 82 3).toInt := (by rw [← h1]; rfl); have n1_10 : ((gMa ab) 87 10).toInt = (mI S7 82 6).toInt := (by rw [← h1]; rfl); have n1_4 : ((gMa ab) 87 4).toInt = (mI S7 82 8).toInt := (by rw [← h1]; rfl); have n1_3 : ((gMa ab) 87 3).toInt = (mI S7 82 7).toInt := (by rw [← h1]; rfl); have n1_5 : ((gMa ab) 87 5).toInt = (mI S7 82 2).toInt := (by rw [← h1]; rfl); have h2 : aG S9 = gMi (gMa ab) := rp1_S9.1.trans (congrArg gMi h1); have n2_9 : ((gMi (gMa ab)) 87 9).toInt = (mI S9 82 3).toInt := (by rw [← h2]; rfl); have n2_10 : ((gMi (gMa ab)) 87 10).toInt = (mI S9 82 6).toInt := (by rw [← h2]; rfl); have n2_4 : ((gMi (gMa ab)) 87 4).toInt = (mI S9 82 8).toInt := (by rw [← h2]; rfl); have n2_3 : ((gMi (gMa ab)) 87 3).toInt = (mI S9 82 7).toInt := (by rw [← h2]; rfl); have n2_5 : ((gMi (gMa ab)) 87 5).toInt = (mI S9 82 2).toInt := (by rw [← h2]; rfl); have d2 := (i_div (x := mI S 82 2) (y := (2 : Int32)) (by omega) (by decide)).2.2.1; have t2 : (2 : Int32).toInt = 2 := rfl; rw [t2] at d2; have E := Rs_gy (a := ab) (z := z.toInt) (by rw [n0_5, ← d2]; omega) (R1_gn (by unfold gHs; omega)) (R2_gy (by unfold gHs; omega)); refine ⟨h2.trans E.1.symm, ?_⟩; rw [E.2.2 (by unfold gHs; omega)]; rfl))
        · skip
          have g58 := i_nlt h55
          exact K ((mI S9 82 8)) _ hI_S9 (by omega) (show xB S9 (mR S9 70) from by first | (exact xB_x (xC_o (W := 75) rp0_S9).2)) (show aG S9 = gRs ab z.toInt ∧ (mI S9 82 8).toInt = gRp ab z.toInt from by first | (have h0 : aG S = ab := hpre1; have n0_9 : (ab 87 9).toInt = (mI S 82 3).toInt := (by rw [← h0]; rfl); have n0_10 : (ab 87 10).toInt = (mI S 82 6).toInt := (by rw [← h0]; rfl); have n0_4 : (ab 87 4).toInt = (mI S 82 8).toInt := (by rw [← h0]; rfl); have n0_3 : (ab 87 3).toInt = (mI S 82 7).toInt := (by rw [← h0]; rfl); have n0_5 : (ab 87 5).toInt = (mI S 82 2).toInt := (by rw [← h0]; rfl); have h1 : aG S7 = gMa ab := rp1_S7.1.trans (congrArg gMa h0); have n1_9 : ((gMa ab) 87 9).toInt = (mI S7 82 3).toInt := (by rw [← h1]; rfl); have n1_10 : ((gMa ab) 87 10).toInt = (mI S7 82 6).toInt := (by rw [← h1]; rfl); have n1_4 : ((gMa ab) 87 4).toInt = (mI S7 82 8).toInt := (by rw [← h1]; rfl); have n1_3 : ((gMa ab) 87 3).toInt = (mI S7 82 7).toInt := (by rw [← h1]; rfl); have n1_5 : ((gMa ab) 87 5).toInt = (mI S7 82 2).toInt := (by rw [← h1]; rfl); have h2 : aG S9 = gMi (gMa ab) := rp1_S9.1.trans (congrArg gMi h1); have n2_9 : ((gMi (gMa ab)) 87 9).toInt = (mI S9 82 3).toInt := (by rw [← h2]; rfl); have n2_10 : ((gMi (gMa ab)) 87 10).toInt = (mI S9 82 6).toInt := (by rw [← h2]; rfl); have n2_4 : ((gMi (gMa ab)) 87 4).toInt = (mI S9 82 8).toInt := (by rw [← h2]; rfl); have n2_3 : ((gMi (gMa ab)) 87 3).toInt = (mI S9 82 7).toInt := (by rw [← h2]; rfl); have n2_5 : ((gMi (gMa ab)) 87 5).toInt = (mI S9 82 2).toInt := (by rw [← h2]; rfl); exfalso; omega) | (have h0 : aG S = ab := hpre1; have n0_9 : (ab 87 9).toInt = (mI S 82 3).toInt := (by rw [← h0]; rfl); have n0_10 : (ab 87 10).toInt = (mI S 82 6).toInt := (by rw [← h0]; rfl); have n0_4 : (ab 87 4).toInt = (mI S 82 8).toInt := (by rw [← h0]; rfl); have n0_3 : (ab 87 3).toInt = (mI S 82 7).toInt := (by rw [← h0]; rfl); have n0_5 : (ab 87 5).toInt = (mI S 82 2).toInt := (by rw [← h0]; rfl); have h1 : aG S7 = gMa ab := rp1_S7.1.trans (congrArg gMa h0); have n1_9 : ((gMa ab) 87 9).toInt = (mI S7 82 3).toInt := (by rw [← h1]; rfl); have n1_10 : ((gMa ab) 87 10).toInt = (mI S7 82 6).toInt := (by rw [← h1]; rfl); have n1_4 : ((gMa ab) 87 4).toInt = (mI S7 82 8).toInt := (by rw [← h1]; rfl); have n1_3 : ((gMa ab) 87 3).toInt = (mI S7 82 7).toInt := (by rw [← h1]; rfl); have n1_5 : ((gMa ab) 87 5).toInt = (mI S7 82 2).toInt := (by rw [← h1]; rfl); have h2 : aG S9 = gMi (gMa ab) := rp1_S9.1.trans (congrArg gMi h1); have n2_9 : ((gMi (gMa ab)) 87 9).toInt = (mI S9 82 3).toInt := (by rw [← h2]; rfl); have n2_10 : ((gMi (gMa ab)) 87 10).toInt = (mI S9 82 6).toInt := (by rw [← h2]; rfl); have n2_4 : ((gMi (gMa ab)) 87 4).toInt = (mI S9 82 8).toInt := (by rw [← h2]; rfl); have n2_3 : ((gMi (gMa ab)) 87 3).toInt = (mI S9 82 7).toInt := (by rw [← h2]; rfl); have n2_5 : ((gMi (gMa ab)) 87 5).toInt = (mI S9 82 2).toInt := (by rw [← h2]; rfl); have d2 := (i_div (x := mI S 82 2) (y := (2 : Int32)) (by omega) (by decide)).2.2.1; have t2 : (2 : Int32).toInt = 2 := rfl; rw [t2] at d2; have E := Rs_gy (a := ab) (z := z.toInt) (by rw [n0_5, ← d2]; omega) (R1_gn (by unfold gHs; omega)) (R2_gy (by unfold gHs; omega)); refine ⟨h2.trans E.1.symm, ?_⟩; rw [E.2.1 (by unfold gHs; omega)]; omega) | (have h0 : aG S = ab := hpre1; have n0_9 : (ab 87 9).toInt = (mI S 82 3).toInt := (by rw [← h0]; rfl); have n0_10 : (ab 87 10).toInt = (mI S 82 6).toInt := (by rw [← h0]; rfl); have n0_4 : (ab 87 4).toInt = (mI S 82 8).toInt := (by rw [← h0]; rfl); have n0_3 : (ab 87 3).toInt = (mI S 82 7).toInt := (by rw [← h0]; rfl); have n0_5 : (ab 87 5).toInt = (mI S 82 2).toInt := (by rw [← h0]; rfl); have h1 : aG S7 = gMa ab := rp1_S7.1.trans (congrArg gMa h0); have n1_9 : ((gMa ab) 87 9).toInt = (mI S7 82 3).toInt := (by rw [← h1]; rfl); have n1_10 : ((gMa ab) 87 10).toInt = (mI S7 82 6).toInt := (by rw [← h1]; rfl); have n1_4 : ((gMa ab) 87 4).toInt = (mI S7 82 8).toInt := (by rw [← h1]; rfl); have n1_3 : ((gMa ab) 87 3).toInt = (mI S7 82 7).toInt := (by rw [← h1]; rfl); have n1_5 : ((gMa ab) 87 5).toInt = (mI S7 82 2).toInt := (by rw [← h1]; rfl); have h2 : aG S9 = gMi (gMa ab) := rp1_S9.1.trans (congrArg gMi h1); have n2_9 : ((gMi (gMa ab)) 87 9).toInt = (mI S9 82 3).toInt := (by rw [← h2]; rfl); have n2_10 : ((gMi (gMa ab)) 87 10).toInt = (mI S9 82 6).toInt := (by rw [← h2]; rfl); have n2_4 : ((gMi (gMa ab)) 87 4).toInt = (mI S9 82 8).toInt := (by rw [← h2]; rfl); have n2_3 : ((gMi (gMa ab)) 87 3).toInt = (mI S9 82 7).toInt := (by rw [← h2]; rfl); have n2_5 : ((gMi (gMa ab)) 87 5).toInt = (mI S9 82 2).toInt := (by rw [← h2]; rfl); have d2 := (i_div (x := mI S 82 2) (y := (2 : Int32)) (by omega) (by decide)).2.2.1; have t2 : (2 : Int32).toInt = 2 := rfl; rw [t2] at d2; have E := Rs_gy (a := ab) (z := z.toInt) (by rw [n0_5, ← d2]; omega) (R1_gn (by unfold gHs; omega)) (R2_gy (by unfold gHs; omega)); refine ⟨h2.trans E.1.symm, ?_⟩; rw [E.2.2 (by unfold gHs; omega)]; rfl))
      · skip
        have g59 := i_nlt h45
        refine zd (fun h60 => ?_) (fun h60 => ?_)
        · skip
          have g61 := i_lt h60
          have li62 : (-1 : Int32).toInt = -1 := rfl
          exact K ((-1 : Int32)) _ hI (by omega) (show xB S (mR S 70) from by first | (exact xB_x (xC_o (W := 75) hpre0).2)) (show aG S = gRs ab z.toInt ∧ (-1 : Int32).toInt = gRp ab z.toInt from by first | (have h0 : aG S = ab := hpre1; have n0_9 : (ab 87 9).toInt = (mI S 82 3).toInt := (by rw [← h0]; rfl); have n0_10 : (ab 87 10).toInt = (mI S 82 6).toInt := (by rw [← h0]; rfl); have n0_4 : (ab 87 4).toInt = (mI S 82 8).toInt := (by rw [← h0]; rfl); have n0_3 : (ab 87 3).toInt = (mI S 82 7).toInt := (by rw [← h0]; rfl); have n0_5 : (ab 87 5).toInt = (mI S 82 2).toInt := (by rw [← h0]; rfl); have d2 := (i_div (x := mI S 82 2) (y := (2 : Int32)) (by omega) (by decide)).2.2.1; have t2 : (2 : Int32).toInt = 2 := rfl; rw [t2] at d2; have E := Rs_gy (a := ab) (z := z.toInt) (by rw [n0_5, ← d2]; omega) (R1_gy (by unfold gHs; omega)) (R2_gy (by unfold gHs; omega)); refine ⟨h0.trans E.1.symm, ?_⟩; rw [E.2.1 (by unfold gHs; omega)]; omega) | (have h0 : aG S = ab := hpre1; have n0_9 : (ab 87 9).toInt = (mI S 82 3).toInt := (by rw [← h0]; rfl); have n0_10 : (ab 87 10).toInt = (mI S 82 6).toInt := (by rw [← h0]; rfl); have n0_4 : (ab 87 4).toInt = (mI S 82 8).toInt := (by rw [← h0]; rfl); have n0_3 : (ab 87 3).toInt = (mI S 82 7).toInt := (by rw [← h0]; rfl); have n0_5 : (ab 87 5).toInt = (mI S 82 2).toInt := (by rw [← h0]; rfl); have d2 := (i_div (x := mI S 82 2) (y := (2 : Int32)) (by omega) (by decide)).2.2.1; have t2 : (2 : Int32).toInt = 2 := rfl; rw [t2] at d2; have E := Rs_gy (a := ab) (z := z.toInt) (by rw [n0_5, ← d2]; omega) (R1_gy (by unfold gHs; omega)) (R2_gy (by unfold gHs; omega)); refine ⟨h0.trans E.1.symm, ?_⟩; rw [E.2.2 (by unfold gHs; omega)]; rfl) | (have h0 : aG S = ab := hpre1; have n0_9 : (ab 87 9).toInt = (mI S 82 3).toInt := (by rw [← h0]; rfl); have n0_10 : (ab 87 10).toInt = (mI S 82 6).toInt := (by rw [← h0]; rfl); have n0_4 : (ab 87 4).toInt = (mI S 82 8).toInt := (by rw [← h0]; rfl); have n0_3 : (ab 87 3).toInt = (mI S 82 7).toInt := (by rw [← h0]; rfl); have n0_5 : (ab 87 5).toInt = (mI S 82 2).toInt := (by rw [← h0]; rfl); exfalso; omega))
        · skip
          have g63 := i_nlt h60
          exact K ((mI S 82 8)) _ hI (by omega) (show xB S (mR S 70) from by first | (exact xB_x (xC_o (W := 75) hpre0).2)) (show aG S = gRs ab z.toInt ∧ (mI S 82 8).toInt = gRp ab z.toInt from by first | (have h0 : aG S = ab := hpre1; have n0_9 : (ab 87 9).toInt = (mI S 82 3).toInt := (by rw [← h0]; rfl); have n0_10 : (ab 87 10).toInt = (mI S 82 6).toInt := (by rw [← h0]; rfl); have n0_4 : (ab 87 4).toInt = (mI S 82 8).toInt := (by rw [← h0]; rfl); have n0_3 : (ab 87 3).toInt = (mI S 82 7).toInt := (by rw [← h0]; rfl); have n0_5 : (ab 87 5).toInt = (mI S 82 2).toInt := (by rw [← h0]; rfl); have d2 := (i_div (x := mI S 82 2) (y := (2 : Int32)) (by omega) (by decide)).2.2.1; have t2 : (2 : Int32).toInt = 2 := rfl; rw [t2] at d2; have E := Rs_gy (a := ab) (z := z.toInt) (by rw [n0_5, ← d2]; omega) (R1_gy (by unfold gHs; omega)) (R2_gy (by unfold gHs; omega)); refine ⟨h0.trans E.1.symm, ?_⟩; rw [E.2.1 (by unfold gHs; omega)]; omega) | (have h0 : aG S = ab := hpre1; have n0_9 : (ab 87 9).toInt = (mI S 82 3).toInt := (by rw [← h0]; rfl); have n0_10 : (ab 87 10).toInt = (mI S 82 6).toInt := (by rw [← h0]; rfl); have n0_4 : (ab 87 4).toInt = (mI S 82 8).toInt := (by rw [← h0]; rfl); have n0_3 : (ab 87 3).toInt = (mI S 82 7).toInt := (by rw [← h0]; rfl); have n0_5 : (ab 87 5).toInt = (mI S 82 2).toInt := (by rw [← h0]; rfl); have d2 := (i_div (x := mI S 82 2) (y := (2 : Int32)) (by omega) (by decide)).2.2.1; have t2 : (2 : Int32).toInt = 2 := rfl; rw [t2] at d2; have E := Rs_gy (a := ab) (z := z.toInt) (by rw [n0_5, ← d2]; omega) (R1_gy (by unfold gHs; omega)) (R2_gy (by unfold gHs; omega)); refine ⟨h0.trans E.1.symm, ?_⟩; rw [E.2.2 (by unfold gHs; omega)]; rfl) | (have h0 : aG S = ab := hpre1; have n0_9 : (ab 87 9).toInt = (mI S 82 3).toInt := (by rw [← h0]; rfl); have n0_10 : (ab 87 10).toInt = (mI S 82 6).toInt := (by rw [← h0]; rfl); have n0_4 : (ab 87 4).toInt = (mI S 82 8).toInt := (by rw [← h0]; rfl); have n0_3 : (ab 87 3).toInt = (mI S 82 7).toInt := (by rw [← h0]; rfl); have n0_5 : (ab 87 5).toInt = (mI S 82 2).toInt := (by rw [← h0]; rfl); exfalso; omega))
  · skip
    have g64 := i_nle h7
    refine sp_4_82_sy (ab := (aG S)) (z) (by omega) (by omega) hI (show xB S (mR S 70) from by first | (exact xB_x (xC_o (W := 75) hpre0).2)) (show aG S = (aG S) from by first | (exact rfl)) (show qAv (aG S) from by first | (rw [hpre1]; exact hpre2)) (show ((aG S) 87 5).toInt / 2 < z.toInt from by first | (have n5 : (ab 87 5).toInt = (mI S 82 2).toInt := (by rw [← hpre1]; rfl); rw [hpre1, n5]; have d2 := (i_div (x := mI S 82 2) (y := (2 : Int32)) (by omega) (by decide)).2.2.1; have t2 : (2 : Int32).toInt = 2 := rfl; rw [t2] at d2; omega)) (by omega) (by omega) (fun v12 S11 hI_S11 hp_v12 rp0_S11 rp1_S11 => zi_n ⟨zG_T hI_S11, ?_⟩)
    have rp0_S11 : xB S11 (mR S11 70) := rp0_S11
    have rp1_S11 : aG S11 = gRs (aG S) z.toInt ∧ v12.toInt = gRp (aG S) z.toInt := rp1_S11
    have b65 := i_bd v12
    exact K (v12) _ hI_S11 (by omega) (show xB S11 (mR S11 70) from by first | (exact xB_x (xC_o (W := 75) rp0_S11).2)) (show aG S11 = gRs ab z.toInt ∧ v12.toInt = gRp ab z.toInt from by first | (have q := rp1_S11; rw [hpre1] at q; exact q))

/-! from 95.u28 -/
/-! AGES, the class (written by wip/tools/gen15y.py) -/
/-! AGES: a new one -/
def gMd (a : Nat → Nat → Int32) (y : Int32) : Nat → Nat → Int32 := if (a 87 9).toInt ≤ (a 130 y.toNatClampNeg).toInt then ma_u a 87 4 (a 130 y.toNatClampNeg + a 128 y.toNatClampNeg) else ma_u a 87 10 (a 130 y.toNatClampNeg + a 128 y.toNatClampNeg)
def yMk (a : Nat → Nat → Int32) (kd wd : Int32) (L : Int64) (rt : Int32) : Nat → Nat → Int32 := if (a 69 6).toInt < 512 then (if gRp a (wd + 1).toInt = -1 then gRs a (wd + 1).toInt else aR0 (gMd (aAd (gRs a (wd + 1).toInt) (gRs a (wd + 1).toInt 69 6) (zFn (gRs a (wd + 1).toInt 69 6) kd (wd + 1) (Int32.ofInt (gRp a (wd + 1).toInt))) L) (gRs a (wd + 1).toInt 69 6)) rt (gRs a (wd + 1).toInt 69 6)) else a
def yMn (a : Nat → Nat → Int32) (wd : Int32) : Int32 := if (a 69 6).toInt < 512 then (if gRp a (wd + 1).toInt = -1 then -1 else gRs a (wd + 1).toInt 69 6) else -1
section F29
variable {a b ab : Nat → Nat → Int32} {S S₉ : ma_S} {R : Nat → Option Nat} {x y pl v : Int32} {c k n : Nat} {z : Int} {L : Int64}
theorem yMk_0 {kd wd rt : Int32} (h : ¬ (a 69 6).toInt < 512) : yMk a kd wd L rt = a ∧ yMn a wd = -1 := ⟨if_neg h, if_neg h⟩
theorem yMk_1 {kd wd rt : Int32} (h : (a 69 6).toInt < 512) (h1 : gRp a (wd + 1).toInt = -1) : yMk a kd wd L rt = gRs a (wd + 1).toInt ∧ yMn a wd = -1 := by
  unfold yMk yMn
  rw [if_pos h, if_pos h, if_pos h1, if_pos h1]
  exact ⟨rfl, rfl⟩
theorem yMk_2 {kd wd rt : Int32} (h : (a 69 6).toInt < 512) (e : b = gRs a (wd + 1).toInt) (h1 : pl.toInt = gRp a (wd + 1).toInt) (h2 : ¬ pl.toInt = -1) (hy : y = b 69 6) : yMk a kd wd L rt = aR0 (gMd (aAd b y (zFn y kd (wd + 1) pl) L) y) rt y ∧ yMn a wd = y := by
  unfold yMk yMn
  rw [if_pos h, if_pos h, ← h1, if_neg h2, if_neg h2, ← e, hy, Int32.ofInt_toInt]
  exact ⟨rfl, rfl⟩
theorem Md_gy (h : aG S = ab) (f2 : mI S c 2 = ab 128 y.toNatClampNeg) (f4 : mI S c 4 = ab 130 y.toNatClampNeg) (hp : (mI S 82 3).toInt ≤ (mI S c 4).toInt) : ma_u (aG S) 87 4 (mI S c 4 + mI S c 2) = gMd ab y := by
  have e9 : ab 87 9 = mI S 82 3 := by
    rw [← h]
    rfl
  unfold gMd
  rw [e9, ← f4, if_pos hp, ← f2, h]
theorem Md_go (h : aG S = ab) (f2 : mI S c 2 = ab 128 y.toNatClampNeg) (f4 : mI S c 4 = ab 130 y.toNatClampNeg) (hp : (mI S c 4).toInt < (mI S 82 3).toInt) : ma_u (aG S) 87 10 (mI S c 4 + mI S c 2) = gMd ab y := by
  have e9 : ab 87 9 = mI S 82 3 := by
    rw [← h]
    rfl
  unfold gMd
  rw [e9, ← f4, if_neg (by omega), ← f2, h]
theorem Rp_gbd (h : qAv (gRs a z)) (hv : v.toInt = gRp a z) (hz : 1 ≤ z) : v.toInt = -1 ∨ (0 ≤ v.toInt ∧ v.toInt + z ≤ 4500) := by
  have nm := h.2.2.1
  have hs := h.2.2.2.1
  have ht := h.2.2.2.2.1
  have ho := h.2.2.2.2.2.1
  have b0 := h.1.2.2.2.1.2.2.1
  unfold gRp at hv
  by_cases w : (a 87 5).toInt / 2 < z
  · rw [if_pos w] at hv
    by_cases w2 : (gRs a z 87 9).toInt < (gRs a z 87 10).toInt + z
    · rw [if_pos w2] at hv
      exact Or.inl hv
    · rw [if_neg w2] at hv
      exact Or.inr (by omega)
  · rw [if_neg w] at hv
    by_cases w2 : (gRs a z 87 4).toInt + z ≤ (gRs a z 87 3).toInt + (gRs a z 87 5).toInt
    · rw [if_pos w2] at hv
      exact Or.inr (by omega)
    · rw [if_neg w2] at hv
      exact Or.inl hv
end F29
theorem g_145_64_82_sy_0 {X : Nat × (Nat → Int32)} {d w : Nat} {S : ma_S} {Q : Option ma_V ⊕ Nat → ma_S → Prop} (i : Int32) (x : Option Nat) (hd : 5 ≤ d) (hw : 110 ≤ w) (hS : zT S) (h : ma_wp X (d - 1) (w - 23) 92 0 [(0, .inr (.inr (some 69))), (1, .inl i), (2, .inr (.inr x))] [] S (zo (fun v2 S1 => zT S1 ∧ (Q (.inl (some (.inr (.inr v2)))) S1)) (fun x S9 => Q (.inr x) S9))) : ma_wp X d w 145 0 [(0, .inr (.inr (some 64))), (1, .inr (.inr (some 82))), (2, .inl i), (3, .inr (.inr x))] [] S Q := by
  refine zw_push hm_145 dX11_changeRoot_0 (v := .inr (.inr (some 64))) rfl ?_
  refine zw_gf hm_145 dX11_changeRoot_1 (v := .inr (.inr (some 69))) (zT_is hS s_64) (zT_t hS s_64) rfl f_11_26_11 (zT_f hS r_64_8) ?_
  refine zw_push hm_145 dX11_changeRoot_4 (v := .inl i) rfl ?_
  refine zw_push hm_145 dX11_changeRoot_5 (v := .inr (.inr x)) rfl ?_
  refine zw_cv hm_145 dX11_changeRoot_6 v_11_379_7 hm_92 [.inr (.inr x), .inl i] [] rfl (zT_rt hS s_69 rfl) ⟨by omega, by omega⟩ rfl (zw_mono h (zo_go ?_ ?_))
  · intro v2 S1 hv
    obtain ⟨hS1, h⟩ := hv
    refine zw_sto hm_145 dX11_changeRoot_9 [(4, .inr (.inr v2)), (0, .inr (.inr (some 64))), (1, .inr (.inr (some 82))), (2, .inl i), (3, .inr (.inr x))] rfl rfl rfl ?_
    refine zw_push hm_145 dX11_changeRoot_11 (v := .inr (.inr (some 82))) rfl ?_
    refine zw_push hm_145 dX11_changeRoot_12 (v := .inr (.inr v2)) rfl ?_
    refine zw_push hm_145 dX11_changeRoot_14 (v := .inr (.inr x)) rfl ?_
    refine zw_cv hm_145 dX11_changeRoot_15 v_11_153_1 hm_265 [.inr (.inr x), .inr (.inr v2)] [] rfl (zT_rt hS1 s_82 rfl) ⟨by omega, by omega⟩ rfl ?_
    show ma_wp X (d - 1) (w - 22) 265 0 [(0, .inr (.inr (some 82))), (1, .inr (.inr v2)), (2, .inr (.inr x))] [] S1 _
    refine zw_vret hm_265 dX1_noteChange_0 ?_
    show ma_wp X d w 145 18 [(4, .inr (.inr v2)), (0, .inr (.inr (some 64))), (1, .inr (.inr (some 82))), (2, .inl i), (3, .inr (.inr x))] [] S1 _
    refine zw_push hm_145 dX11_changeRoot_18 (v := .inr (.inr (some 82))) rfl ?_
    refine zw_push hm_145 dX11_changeRoot_19 (v := .inr (.inr v2)) rfl ?_
    refine zw_cv hm_145 dX11_changeRoot_21 v_11_157_1 hm_266 [.inr (.inr v2)] [] rfl (zT_rt hS1 s_82 rfl) ⟨by omega, by omega⟩ rfl ?_
    show ma_wp X (d - 1) (w - 21) 266 0 [(0, .inr (.inr (some 82))), (1, .inr (.inr v2))] [] S1 _
    refine zw_vret hm_266 dX1_noteFewer_0 ?_
    show ma_wp X d w 145 24 [(4, .inr (.inr v2)), (0, .inr (.inr (some 64))), (1, .inr (.inr (some 82))), (2, .inl i), (3, .inr (.inr x))] [] S1 _
    refine zw_push hm_145 dX11_changeRoot_24 (v := .inr (.inr v2)) rfl ?_
    exact zw_aret hm_145 dX11_changeRoot_26 h
  · intro x S9 hx
    exact ⟨by decide, hx⟩
theorem sp_145_64_82_sy {X : Nat × (Nat → Int32)} {d w : Nat} {f : Nat → Nat → Int32} {r : Nat → Nat → Option Nat} {C Z N : Nat} {Q : Option ma_V ⊕ Nat → ma_S → Prop} {ab : Nat→Nat→Int32} {R : zRT} {y : Int32} {fp82 : Nat→Int32} {fp83 : Nat→Int32} {S : ma_S} (i : Int32) (x : Option Nat) (hd : 5 ≤ d) (hw : 110 ≤ w) (hI : zJ82 f r C Z N S) (hq_x : ∀ c, x = some c → 126 ≤ c ∧ c < N) (hpre0 : xB S R) (hpre1 : aS 75 S = ab) (hpre2 : x = zTa R y) (hpre3 : 0 ≤ i.toInt) (hpre4 : i.toInt ≤ 15) (hpre5 : (mI S 82) = fp82) (hpre6 : (mI S 83) = fp83) (K : ∀ v S₉, zJ82 f r C Z N S₉ → (∀ c, v = some c → 126 ≤ c ∧ c < N) → (xB S₉ R) → (aS 75 S₉ = aR0 ab i y) → ((mI S₉ 82) = fp82) → ((mI S₉ 83) = fp83) → Q (.inl (some (.inr (.inr v)))) S₉) : ma_wp X d w 145 0 [(0, .inr (.inr (some 64))), (1, .inr (.inr (some 82))), (2, .inl i), (3, .inr (.inr x))] [] S Q := by
  refine g_145_64_82_sy_0 i x (by omega) (by omega) (zG_T hI) ?_
  have b1 := i_bd i
  refine sp_92_69_s (ab := (aS 75 S)) (R := R) (W := 75) (y := (y)) (i) (x) (by omega) (by omega) (zJ82_dn hI) hq_x (show xB S R from by first | (exact (xC_o (W := 75) hpre0).2)) (show aS 75 S = (aS 75 S) from by first | (exact rfl)) (show xW 75 from by first | (exact xW88) | (exact xW75)) (show x = zTa R (y) from by first | (exact hpre2)) (by omega) (by omega) (fun v2 S1 hL_S1 hq_v2 rp0_S1 rp1_S1 rp2_S1 => zo_n ⟨zG_T hL_S1, ?_⟩)
  have hI_S1 := zJ82_up hI hL_S1
  have rp0_S1 : xB S1 R := by
    have z := rp0_S1
    (try rw [show mI S 65 = f 65 from funext (fun k => zG_z hI rfl)] at z)
    (try rw [show mI S 64 1 = f 64 1 from zG_z hI rfl] at z)
    exact z
  have rp1_S1 : aS 75 S1 = ma_u (aS 75 S) 72 i.toNatClampNeg (aNm (aS 75 S) (y)) := by
    have z := rp1_S1
    (try rw [show mI S 65 = f 65 from funext (fun k => zG_z hI rfl)] at z)
    (try rw [show mI S 64 1 = f 64 1 from zG_z hI rfl] at z)
    exact z
  have rp2_S1 : v2 = zTa R ((aS 75 S) 72 i.toNatClampNeg) := by
    have z := rp2_S1
    (try rw [show mI S 65 = f 65 from funext (fun k => zG_z hI rfl)] at z)
    (try rw [show mI S 64 1 = f 64 1 from zG_z hI rfl] at z)
    exact z
  exact K (v2) _ hI_S1 hq_v2 (show xB S1 R from by first | (exact (xC_o (W := 75) rp0_S1).2)) (show aS 75 S1 = aR0 ab i y from by first | (rw [rp1_S1, hpre1]; rfl)) (show (mI S1 82) = fp82 from by first | (exact ((show mI S1 82 = mI S 82 from funext (fun _ => zG_z hL_S1 rfl)).trans hpre5))) (show (mI S1 83) = fp83 from by first | (exact ((show mI S1 83 = mI S 83 from funext (fun _ => zG_z hL_S1 rfl)).trans hpre6)))
theorem g_17_82_sy_0 {X : Nat × (Nat → Int32)} {d w : Nat} {S : ma_S} {Q : Option ma_V ⊕ Nat → ma_S → Prop} (t : Nat) (hd : 1 ≤ d) (hw : 21 ≤ w) (hS : zT S) (h : (126 ≤ t ∧ t < mN S) ∧ (if (mI S t 4) < (mI S 82 3) then ((126 ≤ t ∧ t < mN S) ∧ ((126 ≤ t ∧ t < mN S) ∧ (Q (.inl none) (ma_put S 82 6 (.inl ((mI S t 4) + (mI S t 2))))))) else ((126 ≤ t ∧ t < mN S) ∧ ((126 ≤ t ∧ t < mN S) ∧ (Q (.inl none) (ma_put S 82 8 (.inl ((mI S t 4) + (mI S t 2))))))))) : ma_wp X d w 17 0 [(0, .inr (.inr (some 82))), (1, .inr (.inr (some t)))] [] S Q := by
  refine zw_push hm_17 dX0_noteMade_0 (v := .inr (.inr (some 82))) rfl ?_
  refine zw_push hm_17 dX0_noteMade_1 (v := .inr (.inr (some t))) rfl ?_
  refine zw_cv hm_17 dX0_noteMade_2 v_1_58_1 hm_7 [.inr (.inr (some t))] [] rfl (zT_rt hS s_82 rfl) ⟨by omega, by omega⟩ rfl ?_
  show ma_wp X (d - 1) (w - 21) 7 0 [(0, .inr (.inr (some 82))), (1, .inr (.inr (some t)))] [] S _
  refine zw_push hm_7 dX0_isYoung_0 (v := .inr (.inr (some t))) rfl ?_
  obtain ⟨hg, h⟩ := h
  refine zw_gf hm_7 dX0_isYoung_1 (v := .inl (mI S t 4)) (zT_tis hS hg) (zT_tt hS hg) rfl f_1_62_9 rfl ?_
  refine zw_push hm_7 dX0_isYoung_4 (v := .inr (.inr (some 82))) rfl ?_
  refine zw_gf hm_7 dX0_isYoung_5 (v := .inl (mI S 82 3)) (zT_is hS s_82) (zT_t hS s_82) rfl f_1_19_1 rfl ?_
  refine zw_if2 hm_7 dX0_isYoung_8 (t := 15) rfl zc2_lt ?_ ?_
  · intro hc
    rw [if_pos hc] at h
    refine zw_push hm_7 dX0_isYoung_15 (v := .inl (0 : Int32)) rfl ?_
    refine zw_bret hm_7 dX0_isYoung_16 (by decide) ?_
    show ma_wp X d w 17 5 [(0, .inr (.inr (some 82))), (1, .inr (.inr (some t)))] [.inl (0 : Int32)] S _
    refine zw_if0 hm_17 dX0_noteMade_5 (t := 24) rfl zc0_eq (fun _ => ?_) (fun hc => absurd (by decide) hc)
    refine zw_push hm_17 dX0_noteMade_24 (v := .inr (.inr (some 82))) rfl ?_
    refine zw_push hm_17 dX0_noteMade_25 (v := .inr (.inr (some t))) rfl ?_
    obtain ⟨hg, h⟩ := h
    refine zw_gf hm_17 dX0_noteMade_26 (v := .inl (mI S t 4)) (zT_tis hS hg) (zT_tt hS hg) rfl f_1_62_9 rfl ?_
    refine zw_push hm_17 dX0_noteMade_29 (v := .inr (.inr (some t))) rfl ?_
    obtain ⟨hg, h⟩ := h
    refine zw_gf hm_17 dX0_noteMade_30 (v := .inl (mI S t 2)) (zT_tis hS hg) (zT_tt hS hg) rfl f_1_67_9 rfl ?_
    refine zw_stk hm_17 dX0_noteMade_33 (st₉ := [.inl ((mI S t 4) + (mI S t 2)), .inr (.inr (some 82))]) rfl rfl ?_
    refine zw_pf hm_17 dX0_noteMade_34 (zT_is hS s_82) (zT_t hS s_82) p_1_28_1 zk_int ?_
    exact zw_vret hm_17 dX0_noteMade_37 h
  · intro hc
    rw [if_neg hc] at h
    refine zw_push hm_7 dX0_isYoung_11 (v := .inl (1 : Int32)) rfl ?_
    refine zw_goto hm_7 dX0_isYoung_12 (t := 16) rfl ?_
    refine zw_bret hm_7 dX0_isYoung_16 (by decide) ?_
    show ma_wp X d w 17 5 [(0, .inr (.inr (some 82))), (1, .inr (.inr (some t)))] [.inl (1 : Int32)] S _
    refine zw_if0 hm_17 dX0_noteMade_5 (t := 24) rfl zc0_eq (fun hc => absurd hc (by decide)) (fun _ => ?_)
    refine zw_push hm_17 dX0_noteMade_8 (v := .inr (.inr (some 82))) rfl ?_
    refine zw_push hm_17 dX0_noteMade_9 (v := .inr (.inr (some t))) rfl ?_
    obtain ⟨hg, h⟩ := h
    refine zw_gf hm_17 dX0_noteMade_10 (v := .inl (mI S t 4)) (zT_tis hS hg) (zT_tt hS hg) rfl f_1_62_9 rfl ?_
    refine zw_push hm_17 dX0_noteMade_13 (v := .inr (.inr (some t))) rfl ?_
    obtain ⟨hg, h⟩ := h
    refine zw_gf hm_17 dX0_noteMade_14 (v := .inl (mI S t 2)) (zT_tis hS hg) (zT_tt hS hg) rfl f_1_67_9 rfl ?_
    refine zw_stk hm_17 dX0_noteMade_17 (st₉ := [.inl ((mI S t 4) + (mI S t 2)), .inr (.inr (some 82))]) rfl rfl ?_
    refine zw_pf hm_17 dX0_noteMade_18 (zT_is hS s_82) (zT_t hS s_82) p_1_34_1 zk_int ?_
    refine zw_goto hm_17 dX0_noteMade_21 (t := 37) rfl ?_
    exact zw_vret hm_17 dX0_noteMade_37 h
theorem sp_17_82_sy {X : Nat × (Nat → Int32)} {d w : Nat} {f : Nat → Nat → Int32} {r : Nat → Nat → Option Nat} {C Z N : Nat} {Q : Option ma_V ⊕ Nat → ma_S → Prop} {ab : Nat→Nat→Int32} {R : zRT} {y : Int32} {S : ma_S} (t : Nat) (hd : 1 ≤ d) (hw : 21 ≤ w) (hI : zJ82 f r C Z N S) (th_t : 126 ≤ t ∧ t < N) (hpre0 : xB S R) (hpre1 : aG S = ab) (hpre2 : zTa R y = some t) (K : ∀ S₉, zJ82 f r C Z N S₉ → (xB S₉ R) → (aG S₉ = gMd ab y) → Q (.inl none) S₉) : ma_wp X d w 17 0 [(0, .inr (.inr (some 82))), (1, .inr (.inr (some t)))] [] S Q := by
  refine g_17_82_sy_0 t (by omega) (by omega) (zG_T hI) ?_
  refine ⟨zG_n hI th_t, ?_⟩
  have f1 := zG_th hI th_t
  have x2 : (mI S 82 3).toInt ≤ (mI S 82 7).toInt ∧ (mI S 82 7).toInt ≤ (mI S 82 3).toInt + (mI S 82 2).toInt := zG_x hI
  have f3 := zG_s hI (0) (1500) (c := 82) (k := 3) (by decide)
  refine zd (fun h4 => ?_) (fun h4 => ?_)
  · skip
    have g5 := i_lt h4
    refine ⟨zG_n hI th_t, ?_⟩
    refine ⟨zG_n hI th_t, ?_⟩
    have f7 := zG_th hI th_t
    first | have e8 : ((mI S t 4) + (mI S t 2)).toInt = (mI S t 4).toInt + (mI S t 2).toInt := i_add (by omega) (by omega) | have b9 := i_bd ((mI S t 4) + (mI S t 2))
    have hI6 : zJ82 f r C Z N (ma_put S 82 6 (.inl ((mI S t 4) + (mI S t 2)))) := zG_sp hI (0) (400000) rfl (by decide) (by decide) (by decide) (show zJ82_x (mI S) from zG_x hI) (by omega) (by omega)
    exact K _ hI6 (show xB (ma_put S 82 6 (.inl ((mI S t 4) + (mI S t 2)))) R from by first | (exact (xC_n (c := 82) (k := 6) (x := ((mI S t 4) + (mI S t 2))) (xC_o (W := 75) hpre0) ⟨by decide, Or.inl ⟨rfl, rfl⟩⟩).2)) (show aG (ma_put S 82 6 (.inl ((mI S t 4) + (mI S t 2)))) = gMd ab y from by first | (have ty := xB_th (W := 75) hpre0 hpre2; have f2 : mI S t 2 = ab 128 y.toNatClampNeg := (by rw [← hpre1, aG_o (by decide) (by decide)]; exact ty.2.2.2.2.1); have f4 : mI S t 4 = ab 130 y.toNatClampNeg := (by rw [← hpre1, aG_o (by decide) (by decide)]; exact ty.2.2.2.2.2.1); rw [((G_pk (n := 6) (k := 10) (x := ((mI S t 4) + (mI S t 2))) (xC_o (W := 75) hpre0).2 (by decide)).trans (congrArg (fun q => ma_u q 87 10 ((mI S t 4) + (mI S t 2))) (show aG S = aG S from rfl)))]; exact Md_gy hpre1 f2 f4 (by omega)) | (have ty := xB_th (W := 75) hpre0 hpre2; have f2 : mI S t 2 = ab 128 y.toNatClampNeg := (by rw [← hpre1, aG_o (by decide) (by decide)]; exact ty.2.2.2.2.1); have f4 : mI S t 4 = ab 130 y.toNatClampNeg := (by rw [← hpre1, aG_o (by decide) (by decide)]; exact ty.2.2.2.2.2.1); rw [((G_pk (n := 6) (k := 10) (x := ((mI S t 4) + (mI S t 2))) (xC_o (W := 75) hpre0).2 (by decide)).trans (congrArg (fun q => ma_u q 87 10 ((mI S t 4) + (mI S t 2))) (show aG S = aG S from rfl)))]; exact Md_go hpre1 f2 f4 (by omega)))
  · skip
    have g10 := i_nlt h4
    refine ⟨zG_n hI th_t, ?_⟩
    refine ⟨zG_n hI th_t, ?_⟩
    have f12 := zG_th hI th_t
    first | have e13 : ((mI S t 4) + (mI S t 2)).toInt = (mI S t 4).toInt + (mI S t 2).toInt := i_add (by omega) (by omega) | have b14 := i_bd ((mI S t 4) + (mI S t 2))
    have hI11 : zJ82 f r C Z N (ma_put S 82 8 (.inl ((mI S t 4) + (mI S t 2)))) := zG_sp hI (0) (400000) rfl (by decide) (by decide) (by decide) (show zJ82_x (mI S) from zG_x hI) (by omega) (by omega)
    exact K _ hI11 (show xB (ma_put S 82 8 (.inl ((mI S t 4) + (mI S t 2)))) R from by first | (exact (xC_n (c := 82) (k := 8) (x := ((mI S t 4) + (mI S t 2))) (xC_o (W := 75) hpre0) ⟨by decide, Or.inl ⟨rfl, rfl⟩⟩).2)) (show aG (ma_put S 82 8 (.inl ((mI S t 4) + (mI S t 2)))) = gMd ab y from by first | (have ty := xB_th (W := 75) hpre0 hpre2; have f2 : mI S t 2 = ab 128 y.toNatClampNeg := (by rw [← hpre1, aG_o (by decide) (by decide)]; exact ty.2.2.2.2.1); have f4 : mI S t 4 = ab 130 y.toNatClampNeg := (by rw [← hpre1, aG_o (by decide) (by decide)]; exact ty.2.2.2.2.2.1); rw [((G_pk (n := 8) (k := 4) (x := ((mI S t 4) + (mI S t 2))) (xC_o (W := 75) hpre0).2 (by decide)).trans (congrArg (fun q => ma_u q 87 4 ((mI S t 4) + (mI S t 2))) (show aG S = aG S from rfl)))]; exact Md_gy hpre1 f2 f4 (by omega)) | (have ty := xB_th (W := 75) hpre0 hpre2; have f2 : mI S t 2 = ab 128 y.toNatClampNeg := (by rw [← hpre1, aG_o (by decide) (by decide)]; exact ty.2.2.2.2.1); have f4 : mI S t 4 = ab 130 y.toNatClampNeg := (by rw [← hpre1, aG_o (by decide) (by decide)]; exact ty.2.2.2.2.2.1); rw [((G_pk (n := 8) (k := 4) (x := ((mI S t 4) + (mI S t 2))) (xC_o (W := 75) hpre0).2 (by decide)).trans (congrArg (fun q => ma_u q 87 4 ((mI S t 4) + (mI S t 2))) (show aG S = aG S from rfl)))]; exact Md_go hpre1 f2 f4 (by omega)))
theorem g_143_64_sy_64 {X : Nat × (Nat → Int32)} {d w : Nat} {S : ma_S} {Q : Option ma_V ⊕ Nat → ma_S → Prop} (l5 : Int32) (l8 : Nat) (hd : 7 ≤ d) (hw : 182 ≤ w) (hS : zT S) (h : ma_wp X (d - 1) (w - 23) 91 0 [(0, .inr (.inr (some 69))), (1, .inr (.inr (some l8)))] [] S (zv (fun S1 => zT S1 ∧ (ma_wp X (d - 1) (w - 21) 17 0 [(0, .inr (.inr (some 82))), (1, .inr (.inr (some l8)))] [] S1 (zv (fun S3 => zT S3 ∧ (ma_wp X (d - 1) (w - 24) 145 0 [(0, .inr (.inr (some 64))), (1, .inr (.inr (some 82))), (2, .inl l5), (3, .inr (.inr (some l8)))] [] S3 (zo (fun v6 S5 => zT S5 ∧ ((126 ≤ l8 ∧ l8 < mN S5) ∧ (Q (.inl (some (.inl (mI S5 l8 0)))) S5))) (fun x S9 => Q (.inr x) S9)))) (fun _ _ => False)))) (fun x S9 => Q (.inr x) S9))) : ma_wp X d w 143 64 [(0, .inr (.inr (some 64))), (5, .inl l5), (6, .inr (.inr (some 82))), (8, .inr (.inr (some l8)))] [] S Q := by
  refine zw_push hm_143 dX11_addObject_64 (v := .inr (.inr (some 64))) rfl ?_
  refine zw_gf hm_143 dX11_addObject_65 (v := .inr (.inr (some 69))) (zT_is hS s_64) (zT_t hS s_64) rfl f_11_26_11 (zT_f hS r_64_8) ?_
  refine zw_push hm_143 dX11_addObject_68 (v := .inr (.inr (some l8))) rfl ?_
  refine zw_cv hm_143 dX11_addObject_70 v_11_373_7 hm_91 [.inr (.inr (some l8))] [] rfl (zT_rt hS s_69 rfl) ⟨by omega, by omega⟩ rfl (zw_mono h (zv_go ?_ ?_))
  · intro S1 hv
    obtain ⟨hS1, h⟩ := hv
    refine zw_push hm_143 dX11_addObject_73 (v := .inr (.inr (some 82))) rfl ?_
    refine zw_push hm_143 dX11_addObject_75 (v := .inr (.inr (some l8))) rfl ?_
    refine zw_cv hm_143 dX11_addObject_77 v_11_376_1 hm_17 [.inr (.inr (some l8))] [] rfl (zT_rt hS1 s_82 rfl) ⟨by omega, by omega⟩ rfl (zw_mono h (zv_go ?_ ?_))
    · intro S3 hv
      obtain ⟨hS3, h⟩ := hv
      refine zw_push hm_143 dX11_addObject_80 (v := .inr (.inr (some 64))) rfl ?_
      refine zw_push hm_143 dX11_addObject_81 (v := .inr (.inr (some 82))) rfl ?_
      refine zw_push hm_143 dX11_addObject_83 (v := .inl l5) rfl ?_
      refine zw_push hm_143 dX11_addObject_85 (v := .inr (.inr (some l8))) rfl ?_
      refine zw_cv hm_143 dX11_addObject_87 v_11_169_11 hm_145 [.inr (.inr (some l8)), .inl l5, .inr (.inr (some 82))] [] rfl (zT_rt hS3 s_64 rfl) ⟨by omega, by omega⟩ rfl (zw_mono h (zo_go ?_ ?_))
      · intro v6 S5 hv
        obtain ⟨hS5, h⟩ := hv
        refine zw_stk hm_143 dX11_addObject_90 (st₉ := []) rfl rfl ?_
        refine zw_push hm_143 dX11_addObject_91 (v := .inr (.inr (some l8))) rfl ?_
        obtain ⟨hg, h⟩ := h
        refine zw_gf hm_143 dX11_addObject_93 (v := .inl (mI S5 l8 0)) (zT_tis hS5 hg) (zT_tt hS5 hg) rfl f_11_182_9 rfl ?_
        exact zw_iret hm_143 dX11_addObject_96 h
      · intro x S9 hx
        exact ⟨by decide, hx⟩
    · intro x S9 hx
      exact hx.elim
  · intro x S9 hx
    exact ⟨by decide, hx⟩
theorem sg_143_64_sy_64 {X : Nat × (Nat → Int32)} {d w : Nat} {f : Nat → Nat → Int32} {r : Nat → Nat → Option Nat} {C Z N : Nat} {Q : Option ma_V ⊕ Nat → ma_S → Prop} {ab : Nat→Nat→Int32} {R : zRT} {y : Int32} {I0 : Nat→Int32} {L0 : Int64} {S : ma_S} (l5 : Int32) (l8 : Nat) (hd : 7 ≤ d) (hw : 182 ≤ w) (hI : zB f r C Z N S) (th_l8 : 126 ≤ l8 ∧ l8 < N) (hpre0 : (mI S 69 6).toInt ≤ 511) (hpre1 : xB S R) (hpre2 : aG S = ab) (hpre3 : mI S l8 = I0) (hpre4 : mL S l8 3 = L0) (hpre5 : I0 0 = y) (hpre6 : (0 ≤ (I0 0).toInt ∧ (I0 0).toInt ≤ 511) ∧ (1 ≤ (I0 2).toInt ∧ (I0 2).toInt ≤ 61) ∧ 0 ≤ (I0 4).toInt ∧ (I0 4).toInt + (I0 2).toInt ≤ 4500) (hpre7 : 0 ≤ y.toInt ∧ y.toInt < 512) (hpre8 : 0 ≤ l5.toInt) (hpre9 : l5.toInt ≤ 15) (K : ∀ v S₉, zB f r C Z N S₉ → (True) → (xB S₉ (mR S₉ 70)) → (aG S₉ = aR0 (gMd (aAd ab y I0 L0) y) l5 y ∧ v = y) → Q (.inl (some (.inl v))) S₉) : ma_wp X d w 143 64 [(0, .inr (.inr (some 64))), (5, .inl l5), (6, .inr (.inr (some 82))), (8, .inr (.inr (some l8)))] [] S Q := by
  refine g_143_64_sy_64 l5 l8 (by omega) (by omega) (zG_T hI) ?_
  have f1 := zG_s hI (0) (512) (c := 69) (k := 6) (by decide)
  refine sp_91_69_s (ab := (aS 75 S)) (R := R) (W := 75) (y := y) (I0 := I0) (L0 := L0) (u := l8) l8 (by omega) (by omega) (zB_dn_zS hI) th_l8 (show (mI S 69 6).toInt ≤ 511 from by omega) (show xB S R from by first | (exact (xC_o (W := 75) hpre1).2)) (show aS 75 S = (aS 75 S) from by first | (exact rfl)) (show xW 75 from by first | (exact xW88) | (exact xW75)) (show mI S l8 = I0 from by first | (exact rfl) | (exact hpre3)) (show mL S l8 3 = L0 from by first | (exact rfl) | (exact hpre4)) (show I0 0 = y from by first | (exact rfl) | (exact hpre5)) (show (0 ≤ (I0 0).toInt ∧ (I0 0).toInt ≤ 511) ∧ (1 ≤ (I0 2).toInt ∧ (I0 2).toInt ≤ 61) ∧ 0 ≤ (I0 4).toInt ∧ (I0 4).toInt + (I0 2).toInt ≤ 4500 from by first | (exact hpre6) | (omega)) (show l8 = l8 from by first | (exact rfl)) (fun S1 hL_S1 rp0_S1 rp1_S1 => zv_n ⟨zG_T hL_S1, ?_⟩)
  have hI_S1 := zB_up_zS hI hL_S1
  have rp0_S1 : xB S1 (zRu R y.toNatClampNeg (some l8)) := by
    have z := rp0_S1
    (try rw [show mI S 65 = f 65 from funext (fun k => zG_z hI rfl)] at z)
    (try rw [show mI S 64 1 = f 64 1 from zG_z hI rfl] at z)
    exact z
  have rp1_S1 : aS 75 S1 = aAd (aS 75 S) y I0 L0 := by
    have z := rp1_S1
    (try rw [show mI S 65 = f 65 from funext (fun k => zG_z hI rfl)] at z)
    (try rw [show mI S 64 1 = f 64 1 from zG_z hI rfl] at z)
    exact z
  refine sp_17_82_sy (ab := (aG S1)) (R := (zRu R y.toNatClampNeg (some l8))) (y := (y)) l8 (by omega) (by omega) (zB_dn_zJ82 hI_S1) th_l8 (show xB S1 (zRu R y.toNatClampNeg (some l8)) from by first | (exact (xC_o (W := 75) rp0_S1).2)) (show aG S1 = (aG S1) from by first | (exact rfl)) (show zTa (zRu R y.toNatClampNeg (some l8)) (y) = some l8 from by first | (exact (zTa_u (R := R) (c := l8) hpre7.1 hpre7.2))) (fun S3 hL_S3 rp0_S3 rp1_S3 => zv_n ⟨zG_T hL_S3, ?_⟩)
  have hI_S3 := zB_up_zJ82 hI_S1 hL_S3
  have rp0_S3 : xB S3 (zRu R y.toNatClampNeg (some l8)) := by
    have z := rp0_S3
    (try rw [show mI S1 65 = f 65 from funext (fun k => zG_z hI_S1 rfl)] at z)
    (try rw [show mI S1 64 1 = f 64 1 from zG_z hI_S1 rfl] at z)
    exact z
  have rp1_S3 : aG S3 = gMd (aG S1) (y) := by
    have z := rp1_S3
    (try rw [show mI S1 65 = f 65 from funext (fun k => zG_z hI_S1 rfl)] at z)
    (try rw [show mI S1 64 1 = f 64 1 from zG_z hI_S1 rfl] at z)
    exact z
  have b2 := i_bd l5
  refine sp_145_64_82_sy (ab := (aS 75 S3)) (R := (zRu R y.toNatClampNeg (some l8))) (y := (y)) (fp82 := (mI S3 82)) (fp83 := (mI S3 83)) (l5) ((some l8)) (by omega) (by omega) (zB_dn_zJ82 hI_S3) (fun _ z => by cases z; exact th_l8) (show xB S3 (zRu R y.toNatClampNeg (some l8)) from by first | (exact (xC_o (W := 75) rp0_S3).2)) (show aS 75 S3 = (aS 75 S3) from by first | (exact rfl)) (show (some l8) = zTa (zRu R y.toNatClampNeg (some l8)) (y) from by first | (exact (zTa_u (R := R) (c := l8) hpre7.1 hpre7.2).symm)) (by omega) (by omega) (show (mI S3 82) = (mI S3 82) from by first | (exact rfl)) (show (mI S3 83) = (mI S3 83) from by first | (exact rfl)) (fun v6 S5 hL_S5 hq_v6 rp0_S5 rp1_S5 rp2_S5 rp3_S5 => zo_n ⟨zG_T hL_S5, ?_⟩)
  have hI_S5 := zB_up_zJ82 hI_S3 hL_S5
  have rp0_S5 : xB S5 (zRu R y.toNatClampNeg (some l8)) := by
    have z := rp0_S5
    (try rw [show mI S3 65 = f 65 from funext (fun k => zG_z hI_S3 rfl)] at z)
    (try rw [show mI S3 64 1 = f 64 1 from zG_z hI_S3 rfl] at z)
    exact z
  have rp1_S5 : aS 75 S5 = aR0 (aS 75 S3) l5 (y) := by
    have z := rp1_S5
    (try rw [show mI S3 65 = f 65 from funext (fun k => zG_z hI_S3 rfl)] at z)
    (try rw [show mI S3 64 1 = f 64 1 from zG_z hI_S3 rfl] at z)
    exact z
  have rp2_S5 : (mI S5 82) = (mI S3 82) := by
    have z := rp2_S5
    (try rw [show mI S3 65 = f 65 from funext (fun k => zG_z hI_S3 rfl)] at z)
    (try rw [show mI S3 64 1 = f 64 1 from zG_z hI_S3 rfl] at z)
    exact z
  have rp3_S5 : (mI S5 83) = (mI S3 83) := by
    have z := rp3_S5
    (try rw [show mI S3 65 = f 65 from funext (fun k => zG_z hI_S3 rfl)] at z)
    (try rw [show mI S3 64 1 = f 64 1 from zG_z hI_S3 rfl] at z)
    exact z
  refine ⟨zG_n hI_S5 th_l8, ?_⟩
  have f3 := zG_th hI_S5 th_l8
  exact K ((mI S5 l8 0)) _ hI_S5 trivial (show xB S5 (mR S5 70) from by first | (exact xB_x (xC_o (W := 75) rp0_S5).2)) (show aG S5 = aR0 (gMd (aAd ab y I0 L0) y) l5 y ∧ (mI S5 l8 0) = y from by first | (have ty := xB_th (W := 75) rp0_S5 (zTa_u (R := R) (c := l8) hpre7.1 hpre7.2); have s1 := G_ad rp1_S1 (show mI S1 82 = mI S 82 from funext (fun _ => zG_z hL_S1 rfl)) (show mI S1 83 = mI S 83 from funext (fun _ => zG_z hL_S1 rfl)); rw [hpre2] at s1; have s2 := rp1_S3; have s3 := G_r0 rp1_S5 rp2_S5 rp3_S5; rw [s2, s1] at s3; exact ⟨s3, ty.2.2.1⟩))

/-! from 95.u29 -/
/-! AGES, the class (written by wip/tools/gen15y.py) -/
theorem g_143_64_sy_p82_0 {X : Nat × (Nat → Int32)} {d w : Nat} {S : ma_S} {Q : Option ma_V ⊕ Nat → ma_S → Prop} (kd : Int32) (wd : Int32) (rf : Int64) (rt : Int32) (hd : 7 ≤ d) (hw : 201 ≤ w) (hS : zT S) (h : mR S 64 11 = some 82 ∧ (mR S 64 11 = some 82 ∧ (if (512 : Int32) ≤ (mI S 69 6) then (Q (.inl (some (.inl (-1 : Int32)))) S) else (ma_wp X (d - 1) (w - 21) 3 0 [(0, .inr (.inr (some 82))), (1, .inl (wd + (1 : Int32)))] [] S (zi (fun v2 S1 => zT S1 ∧ (if v2 = (-1 : Int32) then (Q (.inl (some (.inl (-1 : Int32)))) S1) else (ma_wp X d w 143 41 [(0, .inr (.inr (some 64))), (1, .inl kd), (2, .inl wd), (3, .inr (.inl rf)), (5, .inl rt), (6, .inr (.inr (some 82))), (7, .inl v2)] [] S1 Q))) (fun _ _ => False)))))) : ma_wp X d w 143 0 [(0, .inr (.inr (some 64))), (1, .inl kd), (2, .inl wd), (3, .inr (.inl rf)), (5, .inl rt)] [] S Q := by
  refine zw_push hm_143 dX11_addObject_0 (v := .inr (.inr (some 64))) rfl ?_
  refine zw_cv hm_143 dX11_addObject_1 v_11_119_11 hm_144 [] [] rfl (zT_rt hS s_64 rfl) ⟨by omega, by omega⟩ rfl ?_
  show ma_wp X (d - 1) (w - 20) 144 0 [(0, .inr (.inr (some 64)))] [] S _
  refine zw_push hm_144 dX11_needCollector_0 (v := .inr (.inr (some 64))) rfl ?_
  obtain ⟨hg, h⟩ := h
  refine zw_gf hm_144 dX11_needCollector_1 (v := .inr (.inr (some 82))) (zT_is hS s_64) (zT_t hS s_64) rfl f_11_98_11 (congrArg (fun z => Sum.inr (Sum.inr z)) hg) ?_
  refine zw_ifnonnull hm_144 dX11_needCollector_4 (t := 15) rfl (fun z => by cases z) (fun _ _ => ?_)
  refine zw_push hm_144 dX11_needCollector_15 (v := .inr (.inr (some 64))) rfl ?_
  obtain ⟨hg, h⟩ := h
  refine zw_gf hm_144 dX11_needCollector_16 (v := .inr (.inr (some 82))) (zT_is hS s_64) (zT_t hS s_64) rfl f_11_98_11 (congrArg (fun z => Sum.inr (Sum.inr z)) hg) ?_
  refine zw_aret hm_144 dX11_needCollector_19 ?_
  show ma_wp X d w 143 4 [(0, .inr (.inr (some 64))), (1, .inl kd), (2, .inl wd), (3, .inr (.inl rf)), (5, .inl rt)] [.inr (.inr (some 82))] S _
  refine zw_sto hm_143 dX11_addObject_4 [(6, .inr (.inr (some 82))), (0, .inr (.inr (some 64))), (1, .inl kd), (2, .inl wd), (3, .inr (.inl rf)), (5, .inl rt)] rfl rfl rfl ?_
  refine zw_push hm_143 dX11_addObject_6 (v := .inr (.inr (some 64))) rfl ?_
  refine zw_gf hm_143 dX11_addObject_7 (v := .inr (.inr (some 69))) (zT_is hS s_64) (zT_t hS s_64) rfl f_11_26_11 (zT_f hS r_64_8) ?_
  refine zw_gf hm_143 dX11_addObject_10 (v := .inl (mI S 69 6)) (zT_is hS s_69) (zT_t hS s_69) rfl f_11_244_7 rfl ?_
  refine zw_push hm_143 dX11_addObject_13 (v := .inl (512 : Int32)) rfl ?_
  refine zw_if2 hm_143 dX11_addObject_16 (t := 30) rfl zc2_ge ?_ ?_
  · intro hc
    rw [if_pos hc] at h
    refine zw_push hm_143 dX11_addObject_30 (v := .inl (-1 : Int32)) rfl ?_
    refine zw_sto hm_143 dX11_addObject_31 [(7, .inl (-1 : Int32)), (6, .inr (.inr (some 82))), (0, .inr (.inr (some 64))), (1, .inl kd), (2, .inl wd), (3, .inr (.inl rf)), (5, .inl rt)] rfl rfl rfl ?_
    refine zw_push hm_143 dX11_addObject_33 (v := .inl (-1 : Int32)) rfl ?_
    refine zw_push hm_143 dX11_addObject_35 (v := .inl (-1 : Int32)) rfl ?_
    refine zw_if2 hm_143 dX11_addObject_36 (t := 41) rfl zc2_ne (fun hc => absurd hc (by decide)) (fun _ => ?_)
    refine zw_push hm_143 dX11_addObject_39 (v := .inl (-1 : Int32)) rfl ?_
    exact zw_iret hm_143 dX11_addObject_40 h
  · intro hc
    rw [if_neg hc] at h
    refine zw_push hm_143 dX11_addObject_19 (v := .inr (.inr (some 82))) rfl ?_
    refine zw_push hm_143 dX11_addObject_21 (v := .inl wd) rfl ?_
    refine zw_push hm_143 dX11_addObject_22 (v := .inl (1 : Int32)) rfl ?_
    refine zw_stk hm_143 dX11_addObject_23 (st₉ := [.inl (wd + (1 : Int32)), .inr (.inr (some 82))]) rfl rfl ?_
    refine zw_cv hm_143 dX11_addObject_24 v_11_367_1 hm_3 [.inl (wd + (1 : Int32))] [] rfl (zT_rt hS s_82 rfl) ⟨by omega, by omega⟩ rfl (zw_mono h (zi_go ?_ ?_))
    · intro v2 S1 hv
      obtain ⟨hS1, h⟩ := hv
      refine zw_goto hm_143 dX11_addObject_27 (t := 31) rfl ?_
      refine zw_sto hm_143 dX11_addObject_31 [(7, .inl v2), (6, .inr (.inr (some 82))), (0, .inr (.inr (some 64))), (1, .inl kd), (2, .inl wd), (3, .inr (.inl rf)), (5, .inl rt)] rfl rfl rfl ?_
      refine zw_push hm_143 dX11_addObject_33 (v := .inl v2) rfl ?_
      refine zw_push hm_143 dX11_addObject_35 (v := .inl (-1 : Int32)) rfl ?_
      refine zw_if2 hm_143 dX11_addObject_36 (t := 41) rfl zc2_ne ?_ ?_
      · intro hc
        rw [if_neg hc] at h
        exact zw_sub (ma_nd_of (ks := [0, 1, 2, 3, 5, 6, 7]) rfl (by decide)) (ma_nd_of (ks := [7, 6, 0, 1, 2, 3, 5]) rfl (by decide)) (ma_le_cons rfl (ma_le_cons rfl (ma_le_cons rfl (ma_le_cons rfl (ma_le_cons rfl (ma_le_cons rfl (ma_le_cons rfl (ma_le_nil _)))))))) h
      · intro hc
        rw [if_pos (Classical.not_not.mp hc)] at h
        refine zw_push hm_143 dX11_addObject_39 (v := .inl (-1 : Int32)) rfl ?_
        exact zw_iret hm_143 dX11_addObject_40 h
    · intro x S9 hx
      exact hx.elim
theorem sp_143_64_sy_p82 {X : Nat × (Nat → Int32)} {d w : Nat} {f : Nat → Nat → Int32} {r : Nat → Nat → Option Nat} {C Z N : Nat} {Q : Option ma_V ⊕ Nat → ma_S → Prop} {ab : Nat→Nat→Int32} {S : ma_S} (kd : Int32) (wd : Int32) (rf : Int64) (rt : Int32) (hd : 7 ≤ d) (hw : 201 ≤ w) (hI : zB f r C Z N S) (hr : r 64 11 = some 82) (hpre0 : 0 ≤ wd.toInt) (hpre1 : wd.toInt ≤ 60) (hpre2 : 0 ≤ rt.toInt) (hpre3 : rt.toInt ≤ 15) (hpre4 : xB S (mR S 70)) (hpre5 : aG S = ab) (hpre6 : qAv ab) (K : ∀ v S₉ r₉ C₉ Z₉ N₉, (∀ c k, c < 126 → r₉ c k = r c k) → C₉ ≤ C + 1 → Z₉ ≤ Z + 9 → (N ≤ N₉) → zB f r₉ C₉ Z₉ N₉ S₉ → (True) → (xB S₉ (mR S₉ 70)) → (aG S₉ = yMk ab kd wd rf rt ∧ v = yMn ab wd) → Q (.inl (some (.inl v))) S₉) : ma_wp X d w 143 0 [(0, .inr (.inr (some 64))), (1, .inl kd), (2, .inl wd), (3, .inr (.inl rf)), (5, .inl rt)] [] S Q := by
  refine g_143_64_sy_p82_0 kd wd rf rt (by omega) (by omega) (zG_T hI) ?_
  refine ⟨((zG_r hI (by decide)).trans hr), ?_⟩
  refine ⟨((zG_r hI (by decide)).trans hr), ?_⟩
  have li1 : (512 : Int32).toInt = 512 := rfl
  have f2 := zG_s hI (0) (512) (c := 69) (k := 6) (by decide)
  refine zd (fun h3 => ?_) (fun h3 => ?_)
  · skip
    have g4 := i_le h3
    have li5 : (-1 : Int32).toInt = -1 := rfl
    exact K ((-1 : Int32)) _ _ _ _ _ (fun _ _ _ => rfl) (by omega) (by omega) (Nat.le_refl _) hI trivial (show xB S (mR S 70) from by first | (exact xB_x (xC_o (W := 75) hpre4).2)) (show aG S = yMk ab kd wd rf rt ∧ (-1 : Int32) = yMn ab wd from by first | (have z := yMk_0 (a := ab) (kd := kd) (wd := wd) (rt := rt) (L := rf) (by rw [← hpre5, (show aG S 69 6 = mI S 69 6 from (aG_o (by decide) (by decide)).trans (aS_I (W := 75) (S := S) (c := 69) (c₉ := 69) (k := 6) rfl rfl))]; omega); exact ⟨hpre5.trans z.1.symm, z.2.symm⟩))
  · skip
    have g6 := i_nle h3
    have b7 := i_bd wd
    first | have e8 : (wd + (1 : Int32)).toInt = wd.toInt + (1) := i_addk rfl (by omega) (by omega) | have b9 := i_bd (wd + (1 : Int32))
    refine sp_3_82_sy (ab := (aG S)) ((wd + (1 : Int32))) (by omega) (by omega) (zB_dn_zJ82 hI) (show xB S (mR S 70) from by first | (exact xB_x (xC_o (W := 75) hpre4).2)) (show aG S = (aG S) from by first | (exact rfl)) (show qAv (aG S) from by first | (exact hpre6) | (rw [hpre5]; exact hpre6) | (rw [hpre5]; exact hpre6)) (by omega) (by omega) (fun v2 S1 hL_S1 hp_v2 rp0_S1 rp1_S1 => zi_n ⟨zG_T hL_S1, ?_⟩)
    have hI_S1 := zB_up_zJ82 hI hL_S1
    have rp0_S1 : xB S1 (mR S1 70) := by
      have z := rp0_S1
      (try rw [show mI S 65 = f 65 from funext (fun k => zG_z hI rfl)] at z)
      (try rw [show mI S 64 1 = f 64 1 from zG_z hI rfl] at z)
      exact z
    have rp1_S1 : aG S1 = gRs (aG S) (wd + (1 : Int32)).toInt ∧ v2.toInt = gRp (aG S) (wd + (1 : Int32)).toInt := by
      have z := rp1_S1
      (try rw [show mI S 65 = f 65 from funext (fun k => zG_z hI rfl)] at z)
      (try rw [show mI S 64 1 = f 64 1 from zG_z hI rfl] at z)
      exact z
    have b10 := i_bd v2
    have li11 : (-1 : Int32).toInt = -1 := rfl
    refine zd (fun h12 => ?_) (fun h12 => ?_)
    · skip
      have g13 := i_eq h12
      exact K ((-1 : Int32)) _ _ _ _ _ (fun _ _ _ => rfl) (by omega) (by omega) (Nat.le_refl _) hI_S1 trivial (show xB S1 (mR S1 70) from by first | (exact xB_x (xC_o (W := 75) rp0_S1).2)) (show aG S1 = yMk ab kd wd rf rt ∧ (-1 : Int32) = yMn ab wd from by first | (have wd1 : (wd + (1 : Int32)).toInt = wd.toInt + 1 := i_addk rfl (by omega) (by omega); have rs := rp1_S1; rw [hpre5] at rs; have z := yMk_1 (a := ab) (kd := kd) (wd := wd) (rt := rt) (L := rf) (by rw [← hpre5, (show aG S 69 6 = mI S 69 6 from (aG_o (by decide) (by decide)).trans (aS_I (W := 75) (S := S) (c := 69) (c₉ := 69) (k := 6) rfl rfl))]; omega) (by omega); exact ⟨rs.1.trans z.1.symm, z.2.symm⟩))
    · skip
      have g14 := i_ne h12
      have b15 := i_bd rt
      have q16 : (mI S1 69 6).toInt = (mI S 69 6).toInt := zG_zi (f := mI S) hL_S1 rfl
      have f17 := zG_s hI_S1 (0) (512) (c := 69) (k := 6) (by decide)
      have hN2 : 126 ≤ mN S1 := (zG_T hI_S1).2.1
      have hr2 : ∀ n c, mR S1 70 n = some c → c < mN S1 := fun n c q => by have z := zG_70 hI_S1 (by decide) q; rw [zG_N hI_S1]; exact z.2
      have wd1 : (wd + (1 : Int32)).toInt = wd.toInt + 1 := i_addk rfl (by omega) (by omega)
      have hy : (mI S1 69 6) = aG S1 69 6 := (show aG S1 69 6 = mI S1 69 6 from (aG_o (by decide) (by decide)).trans (aS_I (W := 75) (S := S1) (c := 69) (c₉ := 69) (k := 6) rfl rfl)).symm
      have rs := rp1_S1
      have bd := Rp_gbd (Av_rs (by rw [hpre5]; exact hpre6)) rs.2 (by omega)
      have mk2 := yMk_2 (a := ab) (b := aG S1) (kd := kd) (wd := wd) (rt := rt) (L := rf) (pl := v2) (y := (mI S1 69 6)) (by rw [← hpre5, (show aG S 69 6 = mI S 69 6 from (aG_o (by decide) (by decide)).trans (aS_I (W := 75) (S := S) (c := 69) (c₉ := 69) (k := 6) rfl rfl))]; omega) (by rw [← hpre5]; exact rs.1) (by rw [← hpre5]; exact rs.2) (by omega) hy
      exact mk_143s (p := 82) (by omega) (by omega) hI_S1 (by show 0 ≤ (mI S1 69 6).toInt; omega) (by show (mI S1 69 6).toInt ≤ 511; omega) (by omega) (by omega) (by omega) (by omega) (fun Sn hn hj => sg_143_64_sy_64 (ab := aG S1) (R := mR S1 70) (y := (mI S1 69 6)) (I0 := (zFn (mI S1 69 6) kd (wd + (1 : Int32)) v2)) (L0 := rf) (rt) N (by omega) (by omega) hn ⟨Nat.le_trans (zG_T hI_S1).2.1 (Nat.le_of_eq (zG_N hI_S1)), Nat.lt_succ_self _⟩ (by rw [hj, zTh_lo (by decide) hN2]; omega) (by rw [hj]; exact mk_B rp0_S1 hN2 hr2) (by rw [hj]; exact G_th hN2 hr2) (by rw [hj]; have q := zTh_eq (S := S1) (nu := (mI S1 69 6)) (kd := kd) (sz := wd + (1 : Int32)) (rr := rf) (pl := v2); rw [zG_N hI_S1] at q; exact q) (by rw [hj]; have q := zTh_L3 (S := S1) (nu := (mI S1 69 6)) (kd := kd) (sz := wd + (1 : Int32)) (rr := rf) (pl := v2); rw [zG_N hI_S1] at q; exact q) rfl (show (0 ≤ (mI S1 69 6).toInt ∧ (mI S1 69 6).toInt ≤ 511) ∧ (1 ≤ (wd + (1 : Int32)).toInt ∧ (wd + (1 : Int32)).toInt ≤ 61) ∧ 0 ≤ v2.toInt ∧ v2.toInt + (wd + (1 : Int32)).toInt ≤ 4500 by omega) ⟨by omega, by omega⟩ (by omega) (by omega) (fun v9 S9 h9 h10 q0 q1 => K v9 S9 _ _ _ _ (zrN_lo (zG_T hI_S1) (zG_N hI_S1)) (by omega) (by omega) (by omega) h9 h10 q0 (by rw [mk2.1, mk2.2]; exact q1)))
theorem g_141_64_sy_p82_0 {X : Nat × (Nat → Int32)} {d w : Nat} {S : ma_S} {Q : Option ma_V ⊕ Nat → ma_S → Prop} (ki : Int32) (rt : Int32) (hd : 8 ≤ d) (hw : 232 ≤ w) (hS : zT S) (h : if ki < 0 then (Q (.inr 2) (ma_bump S)) else (if (mI S 64 7) ≤ ki then (Q (.inr 2) (ma_bump S)) else (if rt < 0 then (Q (.inr 2) (ma_bump S)) else (if (16 : Int32) ≤ rt then (Q (.inr 2) (ma_bump S)) else ((0 ≤ ki ∧ ki.toNatClampNeg < 16) ∧ ((0 ≤ ki ∧ ki.toNatClampNeg < 16) ∧ (ma_wp X (d - 1) (w - 28) 143 0 [(0, .inr (.inr (some 64))), (1, .inl ki), (2, .inl (mI S 67 ki.toNatClampNeg)), (3, .inr (.inl ((mI S 68 ki.toNatClampNeg).toInt64))), (5, .inl rt)] [] S (zi (fun v2 S1 => zT S1 ∧ (Q (.inl (some (.inl v2))) S1)) (fun x S9 => Q (.inr x) S9))))))))) : ma_wp X d w 141 0 [(0, .inr (.inr (some 64))), (1, .inl ki), (2, .inl rt)] [] S Q := by
  refine zw_push hm_141 dX11_make_0 (v := .inl ki) rfl ?_
  refine zw_if0 hm_141 dX11_make_1 (t := 19) rfl zc0_lt ?_ ?_
  · intro hc
    rw [if_pos hc] at h
    exact zw_thr hm_141 dX11_make_19 dX11_make_22 dX11_make_23 dX11_make_26 x_11_79_81 n_11_79 (by omega) (by show 0 + 81 ≤ w; omega) h
  · intro hc
    rw [if_neg hc] at h
    refine zw_push hm_141 dX11_make_4 (v := .inl ki) rfl ?_
    refine zw_push hm_141 dX11_make_5 (v := .inr (.inr (some 64))) rfl ?_
    refine zw_gf hm_141 dX11_make_6 (v := .inl (mI S 64 7)) (zT_is hS s_64) (zT_t hS s_64) rfl f_11_82_11 rfl ?_
    refine zw_if2 hm_141 dX11_make_9 (t := 19) rfl zc2_ge ?_ ?_
    · intro hc
      rw [if_pos hc] at h
      exact zw_thr hm_141 dX11_make_19 dX11_make_22 dX11_make_23 dX11_make_26 x_11_79_81 n_11_79 (by omega) (by show 0 + 81 ≤ w; omega) h
    · intro hc
      rw [if_neg hc] at h
      refine zw_push hm_141 dX11_make_12 (v := .inl rt) rfl ?_
      refine zw_cs hm_141 dX11_make_13 pn_11_109 sl_11_109 hm_142 [.inl rt] [] rfl ⟨by omega, by omega⟩ rfl ?_
      show ma_wp X (d - 1) (w - 20) 142 0 [(0, .inl rt)] [] S _
      refine zw_push hm_142 dX11_isSlot_0 (v := .inl rt) rfl ?_
      refine zw_if0 hm_142 dX11_isSlot_1 (t := 14) rfl zc0_lt ?_ ?_
      · intro hc
        rw [if_pos hc] at h
        refine zw_push hm_142 dX11_isSlot_14 (v := .inl (0 : Int32)) rfl ?_
        refine zw_bret hm_142 dX11_isSlot_15 (by decide) ?_
        show ma_wp X d w 141 16 [(0, .inr (.inr (some 64))), (1, .inl ki), (2, .inl rt)] [.inl (0 : Int32)] S _
        refine zw_if0 hm_141 dX11_make_16 (t := 27) rfl zc0_ne (fun hc => absurd hc (by decide)) (fun _ => ?_)
        exact zw_thr hm_141 dX11_make_19 dX11_make_22 dX11_make_23 dX11_make_26 x_11_79_81 n_11_79 (by omega) (by show 0 + 81 ≤ w; omega) h
      · intro hc
        rw [if_neg hc] at h
        refine zw_push hm_142 dX11_isSlot_4 (v := .inl rt) rfl ?_
        refine zw_push hm_142 dX11_isSlot_5 (v := .inl (16 : Int32)) rfl ?_
        refine zw_if2 hm_142 dX11_isSlot_7 (t := 14) rfl zc2_ge ?_ ?_
        · intro hc
          rw [if_pos hc] at h
          refine zw_push hm_142 dX11_isSlot_14 (v := .inl (0 : Int32)) rfl ?_
          refine zw_bret hm_142 dX11_isSlot_15 (by decide) ?_
          show ma_wp X d w 141 16 [(0, .inr (.inr (some 64))), (1, .inl ki), (2, .inl rt)] [.inl (0 : Int32)] S _
          refine zw_if0 hm_141 dX11_make_16 (t := 27) rfl zc0_ne (fun hc => absurd hc (by decide)) (fun _ => ?_)
          exact zw_thr hm_141 dX11_make_19 dX11_make_22 dX11_make_23 dX11_make_26 x_11_79_81 n_11_79 (by omega) (by show 0 + 81 ≤ w; omega) h
        · intro hc
          rw [if_neg hc] at h
          refine zw_push hm_142 dX11_isSlot_10 (v := .inl (1 : Int32)) rfl ?_
          refine zw_goto hm_142 dX11_isSlot_11 (t := 15) rfl ?_
          refine zw_bret hm_142 dX11_isSlot_15 (by decide) ?_
          show ma_wp X d w 141 16 [(0, .inr (.inr (some 64))), (1, .inl ki), (2, .inl rt)] [.inl (1 : Int32)] S _
          refine zw_if0 hm_141 dX11_make_16 (t := 27) rfl zc0_ne (fun _ => ?_) (fun hc => absurd (by decide) hc)
          refine zw_push hm_141 dX11_make_27 (v := .inr (.inr (some 64))) rfl ?_
          refine zw_push hm_141 dX11_make_28 (v := .inl ki) rfl ?_
          refine zw_push hm_141 dX11_make_29 (v := .inr (.inr (some 64))) rfl ?_
          refine zw_gf hm_141 dX11_make_30 (v := .inr (.inr (some 67))) (zT_is hS s_64) (zT_t hS s_64) rfl f_11_17_11 (zT_f hS r_64_5) ?_
          refine zw_push hm_141 dX11_make_33 (v := .inl ki) rfl ?_
          obtain ⟨hg, h⟩ := h
          refine zw_ia hm_141 dX11_make_34 (zT_is hS s_67) (zT_h hS s_67) rfl hg ?_
          show ma_wp X d w 141 35 [(0, .inr (.inr (some 64))), (1, .inl ki), (2, .inl rt)] [.inl (mI S 67 ki.toNatClampNeg), .inl ki, .inr (.inr (some 64))] S _
          refine zw_push hm_141 dX11_make_35 (v := .inr (.inr (some 64))) rfl ?_
          refine zw_gf hm_141 dX11_make_36 (v := .inr (.inr (some 68))) (zT_is hS s_64) (zT_t hS s_64) rfl f_11_20_11 (zT_f hS r_64_6) ?_
          refine zw_push hm_141 dX11_make_39 (v := .inl ki) rfl ?_
          obtain ⟨hg, h⟩ := h
          refine zw_ia hm_141 dX11_make_40 (zT_is hS s_68) (zT_h hS s_68) rfl hg ?_
          show ma_wp X d w 141 41 [(0, .inr (.inr (some 64))), (1, .inl ki), (2, .inl rt)] [.inl (mI S 68 ki.toNatClampNeg), .inl (mI S 67 ki.toNatClampNeg), .inl ki, .inr (.inr (some 64))] S _
          refine zw_stk hm_141 dX11_make_41 (st₉ := [.inr (.inl ((mI S 68 ki.toNatClampNeg).toInt64)), .inl (mI S 67 ki.toNatClampNeg), .inl ki, .inr (.inr (some 64))]) rfl rfl ?_
          refine zw_push hm_141 dX11_make_42 (v := .inl rt) rfl ?_
          refine zw_cv hm_141 dX11_make_43 v_11_113_11 hm_143 [.inl rt, .inr (.inl ((mI S 68 ki.toNatClampNeg).toInt64)), .inl (mI S 67 ki.toNatClampNeg), .inl ki] [] rfl (zT_rt hS s_64 rfl) ⟨by omega, by omega⟩ rfl (zw_mono h (zi_go ?_ ?_))
          · intro v2 S1 hv
            obtain ⟨hS1, h⟩ := hv
            exact zw_iret hm_141 dX11_make_46 h
          · intro x S9 hx
            exact ⟨by decide, hx⟩
theorem sp_141_64_sy_p82 {X : Nat × (Nat → Int32)} {d w : Nat} {f : Nat → Nat → Int32} {r : Nat → Nat → Option Nat} {C Z N : Nat} {Q : Option ma_V ⊕ Nat → ma_S → Prop} {ab : Nat→Nat→Int32} {S : ma_S} (ki : Int32) (rt : Int32) (hd : 8 ≤ d) (hw : 232 ≤ w) (hI : zB f r C Z N S) (hr : r 64 11 = some 82) (hpre0 : xB S (mR S 70)) (hpre1 : aG S = ab) (hpre2 : qAv ab) (K : ∀ v S₉ r₉ C₉ Z₉ N₉, (∀ c k, c < 126 → r₉ c k = r c k) → C₉ ≤ C + 1 → Z₉ ≤ Z + 9 → (N ≤ N₉) → zB f r₉ C₉ Z₉ N₉ S₉ → (True) → (xB S₉ (mR S₉ 70)) → ((0 ≤ ki.toInt ∧ ki.toInt < (f 64 7).toInt ∧ 0 ≤ rt.toInt ∧ rt.toInt ≤ 15) ∧ aG S₉ = yMk ab ki (f 67 ki.toNatClampNeg) (f 68 ki.toNatClampNeg).toInt64 rt ∧ v = yMn ab (f 67 ki.toNatClampNeg)) → Q (.inl (some (.inl v))) S₉) (KX : ∀ x S₉, (x = 2) → zB f r C Z N S₉ → (xB S₉ (mR S₉ 70)) → (aG S₉ = ab) → (x = 2 ∧ ¬ (0 ≤ ki.toInt ∧ ki.toInt < (f 64 7).toInt ∧ 0 ≤ rt.toInt ∧ rt.toInt ≤ 15)) → Q (.inr x) (ma_bump S₉)) : ma_wp X d w 141 0 [(0, .inr (.inr (some 64))), (1, .inl ki), (2, .inl rt)] [] S Q := by
  refine g_141_64_sy_p82_0 ki rt (by omega) (by omega) (zG_T hI) ?_
  have b1 := i_bd ki
  have li2 : (0 : Int32).toInt = 0 := rfl
  refine zd (fun h3 => ?_) (fun h3 => ?_)
  · skip
    have g4 := i_lt h3
    exact KX 2 _ (by decide) hI (show xB S (mR S 70) from by first | (exact xB_x (xC_o (W := 75) hpre0).2)) (show aG S = ab from by first | (exact hpre1)) (show 2 = 2 ∧ ¬ (0 ≤ ki.toInt ∧ ki.toInt < (f 64 7).toInt ∧ 0 ≤ rt.toInt ∧ rt.toInt ≤ 15) from by first | (have f7 : (mI S 64 7).toInt = (f 64 7).toInt := zG_zi hI rfl; exact ⟨rfl, by omega⟩))
  · skip
    have g5 := i_nlt h3
    have f6 := zG_s hI (0) (16) (c := 64) (k := 7) (by decide)
    refine zd (fun h7 => ?_) (fun h7 => ?_)
    · skip
      have g8 := i_le h7
      exact KX 2 _ (by decide) hI (show xB S (mR S 70) from by first | (exact xB_x (xC_o (W := 75) hpre0).2)) (show aG S = ab from by first | (exact hpre1)) (show 2 = 2 ∧ ¬ (0 ≤ ki.toInt ∧ ki.toInt < (f 64 7).toInt ∧ 0 ≤ rt.toInt ∧ rt.toInt ≤ 15) from by first | (have f7 : (mI S 64 7).toInt = (f 64 7).toInt := zG_zi hI rfl; exact ⟨rfl, by omega⟩))
    · skip
      have g9 := i_nle h7
      have b10 := i_bd rt
      refine zd (fun h11 => ?_) (fun h11 => ?_)
      · skip
        have g12 := i_lt h11
        exact KX 2 _ (by decide) hI (show xB S (mR S 70) from by first | (exact xB_x (xC_o (W := 75) hpre0).2)) (show aG S = ab from by first | (exact hpre1)) (show 2 = 2 ∧ ¬ (0 ≤ ki.toInt ∧ ki.toInt < (f 64 7).toInt ∧ 0 ≤ rt.toInt ∧ rt.toInt ≤ 15) from by first | (have f7 : (mI S 64 7).toInt = (f 64 7).toInt := zG_zi hI rfl; exact ⟨rfl, by omega⟩))
      · skip
        have g13 := i_nlt h11
        have li14 : (16 : Int32).toInt = 16 := rfl
        refine zd (fun h15 => ?_) (fun h15 => ?_)
        · skip
          have g16 := i_le h15
          exact KX 2 _ (by decide) hI (show xB S (mR S 70) from by first | (exact xB_x (xC_o (W := 75) hpre0).2)) (show aG S = ab from by first | (exact hpre1)) (show 2 = 2 ∧ ¬ (0 ≤ ki.toInt ∧ ki.toInt < (f 64 7).toInt ∧ 0 ≤ rt.toInt ∧ rt.toInt ≤ 15) from by first | (have f7 : (mI S 64 7).toInt = (f 64 7).toInt := zG_zi hI rfl; exact ⟨rfl, by omega⟩))
        · skip
          have g17 := i_nle h15
          refine ⟨i_ix (by omega) (by omega), ?_⟩
          refine ⟨i_ix (by omega) (by omega), ?_⟩
          first | have f18 := zG_a hI 16 (0) (8) (c := 67) (k := ki.toNatClampNeg) (by decide) (i_ix (n := 16) (by omega) (by omega)).2 | have b19 := i_bd (mI S 67 ki.toNatClampNeg)
          refine sp_143_64_sy_p82 (ab := (aG S)) (ki) ((mI S 67 ki.toNatClampNeg)) (((mI S 68 ki.toNatClampNeg).toInt64)) (rt) (by omega) (by omega) hI hr (by omega) (by omega) (by omega) (by omega) (show xB S (mR S 70) from by first | (exact xB_x (xC_o (W := 75) hpre0).2)) (show aG S = (aG S) from by first | (exact rfl)) (show qAv (aG S) from by first | (exact hpre2) | (rw [hpre1]; exact hpre2) | (rw [hpre1]; exact hpre2)) (fun v2 S1 r₉ C₉ Z₉ N₉ sl1 sl2 sl3 sl4 hI_S1 hp_v2 rp0_S1 rp1_S1 => zi_n ⟨zG_T hI_S1, ?_⟩)
          have rp0_S1 : xB S1 (mR S1 70) := rp0_S1
          have rp1_S1 : aG S1 = yMk (aG S) ki (mI S 67 ki.toNatClampNeg) (((mI S 68 ki.toNatClampNeg).toInt64)) rt ∧ v2 = yMn (aG S) (mI S 67 ki.toNatClampNeg) := rp1_S1
          have b20 := i_bd v2
          exact K (v2) _ _ _ _ _ sl1 sl2 sl3 sl4 hI_S1 trivial (show xB S1 (mR S1 70) from by first | (exact xB_x (xC_o (W := 75) rp0_S1).2)) (show (0 ≤ ki.toInt ∧ ki.toInt < (f 64 7).toInt ∧ 0 ≤ rt.toInt ∧ rt.toInt ≤ 15) ∧ aG S1 = yMk ab ki (f 67 ki.toNatClampNeg) (f 68 ki.toNatClampNeg).toInt64 rt ∧ v2 = yMn ab (f 67 ki.toNatClampNeg) from by first | (exfalso; omega) | (have f7 : (mI S 64 7).toInt = (f 64 7).toInt := zG_zi hI rfl; have q := rp1_S1; rw [hpre1, show mI S 67 ki.toNatClampNeg = f 67 ki.toNatClampNeg from zG_z hI rfl, show mI S 68 ki.toNatClampNeg = f 68 ki.toNatClampNeg from zG_z hI rfl] at q; exact ⟨⟨by omega, by omega, by omega, by omega⟩, q⟩))

/-! from 95.u30 -/
/-! AGES, the class (written by wip/tools/gen15y.py) -/
theorem g_147_64_sy_p82_0 {X : Nat × (Nat → Int32)} {d w : Nat} {S : ma_S} {Q : Option ma_V ⊕ Nat → ma_S → Prop} (b : Int32) (n : Int32) (rt : Int32) (hd : 8 ≤ d) (hw : 232 ≤ w) (hS : zT S) (h : if n < 0 then (Q (.inr 2) (ma_bump S)) else (if (60 : Int32) < n then (Q (.inr 2) (ma_bump S)) else (if rt < 0 then (Q (.inr 2) (ma_bump S)) else (if (16 : Int32) ≤ rt then (Q (.inr 2) (ma_bump S)) else (if b = 0 then (ma_wp X (d - 1) (w - 28) 143 0 [(0, .inr (.inr (some 64))), (1, .inl (17 : Int32)), (2, .inl n), (3, .inr (.inl (0 : Int64))), (5, .inl rt)] [] S (zi (fun v2 S1 => zT S1 ∧ (Q (.inl (some (.inl v2))) S1)) (fun x S9 => Q (.inr x) S9))) else (ma_wp X (d - 1) (w - 28) 143 0 [(0, .inr (.inr (some 64))), (1, .inl (16 : Int32)), (2, .inl n), (3, .inr (.inl (-1 : Int64))), (5, .inl rt)] [] S (zi (fun v4 S3 => zT S3 ∧ (Q (.inl (some (.inl v4))) S3)) (fun x S9 => Q (.inr x) S9)))))))) : ma_wp X d w 147 0 [(0, .inr (.inr (some 64))), (1, .inl b), (2, .inl n), (3, .inl rt)] [] S Q := by
  refine zw_push hm_147 dX11_row_0 (v := .inl n) rfl ?_
  refine zw_if0 hm_147 dX11_row_1 (t := 17) rfl zc0_lt ?_ ?_
  · intro hc
    rw [if_pos hc] at h
    exact zw_thr hm_147 dX11_row_17 dX11_row_20 dX11_row_21 dX11_row_24 x_11_79_81 n_11_79 (by omega) (by show 0 + 81 ≤ w; omega) h
  · intro hc
    rw [if_neg hc] at h
    refine zw_push hm_147 dX11_row_4 (v := .inl n) rfl ?_
    refine zw_push hm_147 dX11_row_5 (v := .inl (60 : Int32)) rfl ?_
    refine zw_if2 hm_147 dX11_row_7 (t := 17) rfl zc2_gt ?_ ?_
    · intro hc
      rw [if_pos hc] at h
      exact zw_thr hm_147 dX11_row_17 dX11_row_20 dX11_row_21 dX11_row_24 x_11_79_81 n_11_79 (by omega) (by show 0 + 81 ≤ w; omega) h
    · intro hc
      rw [if_neg hc] at h
      refine zw_push hm_147 dX11_row_10 (v := .inl rt) rfl ?_
      refine zw_cs hm_147 dX11_row_11 pn_11_109 sl_11_109 hm_142 [.inl rt] [] rfl ⟨by omega, by omega⟩ rfl ?_
      show ma_wp X (d - 1) (w - 20) 142 0 [(0, .inl rt)] [] S _
      refine zw_push hm_142 dX11_isSlot_0 (v := .inl rt) rfl ?_
      refine zw_if0 hm_142 dX11_isSlot_1 (t := 14) rfl zc0_lt ?_ ?_
      · intro hc
        rw [if_pos hc] at h
        refine zw_push hm_142 dX11_isSlot_14 (v := .inl (0 : Int32)) rfl ?_
        refine zw_bret hm_142 dX11_isSlot_15 (by decide) ?_
        show ma_wp X d w 147 14 [(0, .inr (.inr (some 64))), (1, .inl b), (2, .inl n), (3, .inl rt)] [.inl (0 : Int32)] S _
        refine zw_if0 hm_147 dX11_row_14 (t := 25) rfl zc0_ne (fun hc => absurd hc (by decide)) (fun _ => ?_)
        exact zw_thr hm_147 dX11_row_17 dX11_row_20 dX11_row_21 dX11_row_24 x_11_79_81 n_11_79 (by omega) (by show 0 + 81 ≤ w; omega) h
      · intro hc
        rw [if_neg hc] at h
        refine zw_push hm_142 dX11_isSlot_4 (v := .inl rt) rfl ?_
        refine zw_push hm_142 dX11_isSlot_5 (v := .inl (16 : Int32)) rfl ?_
        refine zw_if2 hm_142 dX11_isSlot_7 (t := 14) rfl zc2_ge ?_ ?_
        · intro hc
          rw [if_pos hc] at h
          refine zw_push hm_142 dX11_isSlot_14 (v := .inl (0 : Int32)) rfl ?_
          refine zw_bret hm_142 dX11_isSlot_15 (by decide) ?_
          show ma_wp X d w 147 14 [(0, .inr (.inr (some 64))), (1, .inl b), (2, .inl n), (3, .inl rt)] [.inl (0 : Int32)] S _
          refine zw_if0 hm_147 dX11_row_14 (t := 25) rfl zc0_ne (fun hc => absurd hc (by decide)) (fun _ => ?_)
          exact zw_thr hm_147 dX11_row_17 dX11_row_20 dX11_row_21 dX11_row_24 x_11_79_81 n_11_79 (by omega) (by show 0 + 81 ≤ w; omega) h
        · intro hc
          rw [if_neg hc] at h
          refine zw_push hm_142 dX11_isSlot_10 (v := .inl (1 : Int32)) rfl ?_
          refine zw_goto hm_142 dX11_isSlot_11 (t := 15) rfl ?_
          refine zw_bret hm_142 dX11_isSlot_15 (by decide) ?_
          show ma_wp X d w 147 14 [(0, .inr (.inr (some 64))), (1, .inl b), (2, .inl n), (3, .inl rt)] [.inl (1 : Int32)] S _
          refine zw_if0 hm_147 dX11_row_14 (t := 25) rfl zc0_ne (fun _ => ?_) (fun hc => absurd (by decide) hc)
          refine zw_push hm_147 dX11_row_25 (v := .inl b) rfl ?_
          refine zw_if0 hm_147 dX11_row_26 (t := 43) rfl zc0_eq ?_ ?_
          · intro hc
            rw [if_pos hc] at h
            refine zw_push hm_147 dX11_row_43 (v := .inr (.inr (some 64))) rfl ?_
            refine zw_push hm_147 dX11_row_44 (v := .inl (17 : Int32)) rfl ?_
            refine zw_push hm_147 dX11_row_46 (v := .inl n) rfl ?_
            refine zw_push hm_147 dX11_row_47 (v := .inr (.inl (0 : Int64))) rfl ?_
            refine zw_push hm_147 dX11_row_48 (v := .inl rt) rfl ?_
            refine zw_cv hm_147 dX11_row_49 v_11_113_11 hm_143 [.inl rt, .inr (.inl (0 : Int64)), .inl n, .inl (17 : Int32)] [] rfl (zT_rt hS s_64 rfl) ⟨by omega, by omega⟩ rfl (zw_mono h (zi_go ?_ ?_))
            · intro v2 S1 hv
              obtain ⟨hS1, h⟩ := hv
              exact zw_iret hm_147 dX11_row_52 h
            · intro x S9 hx
              exact ⟨by decide, hx⟩
          · intro hc
            rw [if_neg hc] at h
            refine zw_push hm_147 dX11_row_29 (v := .inr (.inr (some 64))) rfl ?_
            refine zw_push hm_147 dX11_row_30 (v := .inl (16 : Int32)) rfl ?_
            refine zw_push hm_147 dX11_row_32 (v := .inl n) rfl ?_
            refine zw_l2 hm_147 dX11_row_33 l2_11_117 ?_
            refine zw_push hm_147 dX11_row_36 (v := .inl rt) rfl ?_
            refine zw_cv hm_147 dX11_row_37 v_11_113_11 hm_143 [.inl rt, .inr (.inl (-1 : Int64)), .inl n, .inl (16 : Int32)] [] rfl (zT_rt hS s_64 rfl) ⟨by omega, by omega⟩ rfl (zw_mono h (zi_go ?_ ?_))
            · intro v4 S3 hv
              obtain ⟨hS3, h⟩ := hv
              refine zw_goto hm_147 dX11_row_40 (t := 52) rfl ?_
              exact zw_iret hm_147 dX11_row_52 h
            · intro x S9 hx
              exact ⟨by decide, hx⟩
theorem sp_147_64_sy_p82 {X : Nat × (Nat → Int32)} {d w : Nat} {f : Nat → Nat → Int32} {r : Nat → Nat → Option Nat} {C Z N : Nat} {Q : Option ma_V ⊕ Nat → ma_S → Prop} {ab : Nat→Nat→Int32} {S : ma_S} (b : Int32) (n : Int32) (rt : Int32) (hd : 8 ≤ d) (hw : 232 ≤ w) (hI : zB f r C Z N S) (hr : r 64 11 = some 82) (hpre0 : 0 ≤ b.toInt) (hpre1 : b.toInt ≤ 1) (hpre2 : xB S (mR S 70)) (hpre3 : aG S = ab) (hpre4 : qAv ab) (K : ∀ v S₉ r₉ C₉ Z₉ N₉, (∀ c k, c < 126 → r₉ c k = r c k) → C₉ ≤ C + 1 → Z₉ ≤ Z + 9 → (N ≤ N₉) → zB f r₉ C₉ Z₉ N₉ S₉ → (True) → (xB S₉ (mR S₉ 70)) → ((0 ≤ n.toInt ∧ n.toInt ≤ 60 ∧ 0 ≤ rt.toInt ∧ rt.toInt ≤ 15) ∧ aG S₉ = (if b = 0 then yMk ab 17 n 0 rt else yMk ab 16 n (-1) rt) ∧ v = yMn ab n) → Q (.inl (some (.inl v))) S₉) (KX : ∀ x S₉, (x = 2) → zB f r C Z N S₉ → (xB S₉ (mR S₉ 70)) → (aG S₉ = ab) → (x = 2 ∧ ¬ (0 ≤ n.toInt ∧ n.toInt ≤ 60 ∧ 0 ≤ rt.toInt ∧ rt.toInt ≤ 15)) → Q (.inr x) (ma_bump S₉)) : ma_wp X d w 147 0 [(0, .inr (.inr (some 64))), (1, .inl b), (2, .inl n), (3, .inl rt)] [] S Q := by
  refine g_147_64_sy_p82_0 b n rt (by omega) (by omega) (zG_T hI) ?_
  have b1 := i_bd n
  have li2 : (0 : Int32).toInt = 0 := rfl
  refine zd (fun h3 => ?_) (fun h3 => ?_)
  · skip
    have g4 := i_lt h3
    exact KX 2 _ (by decide) hI (show xB S (mR S 70) from by first | (exact xB_x (xC_o (W := 75) hpre2).2)) (show aG S = ab from by first | (exact hpre3)) (show 2 = 2 ∧ ¬ (0 ≤ n.toInt ∧ n.toInt ≤ 60 ∧ 0 ≤ rt.toInt ∧ rt.toInt ≤ 15) from by first | (exact ⟨rfl, by omega⟩))
  · skip
    have g5 := i_nlt h3
    have li6 : (60 : Int32).toInt = 60 := rfl
    refine zd (fun h7 => ?_) (fun h7 => ?_)
    · skip
      have g8 := i_lt h7
      exact KX 2 _ (by decide) hI (show xB S (mR S 70) from by first | (exact xB_x (xC_o (W := 75) hpre2).2)) (show aG S = ab from by first | (exact hpre3)) (show 2 = 2 ∧ ¬ (0 ≤ n.toInt ∧ n.toInt ≤ 60 ∧ 0 ≤ rt.toInt ∧ rt.toInt ≤ 15) from by first | (exact ⟨rfl, by omega⟩))
    · skip
      have g9 := i_nlt h7
      have b10 := i_bd rt
      refine zd (fun h11 => ?_) (fun h11 => ?_)
      · skip
        have g12 := i_lt h11
        exact KX 2 _ (by decide) hI (show xB S (mR S 70) from by first | (exact xB_x (xC_o (W := 75) hpre2).2)) (show aG S = ab from by first | (exact hpre3)) (show 2 = 2 ∧ ¬ (0 ≤ n.toInt ∧ n.toInt ≤ 60 ∧ 0 ≤ rt.toInt ∧ rt.toInt ≤ 15) from by first | (exact ⟨rfl, by omega⟩))
      · skip
        have g13 := i_nlt h11
        have li14 : (16 : Int32).toInt = 16 := rfl
        refine zd (fun h15 => ?_) (fun h15 => ?_)
        · skip
          have g16 := i_le h15
          exact KX 2 _ (by decide) hI (show xB S (mR S 70) from by first | (exact xB_x (xC_o (W := 75) hpre2).2)) (show aG S = ab from by first | (exact hpre3)) (show 2 = 2 ∧ ¬ (0 ≤ n.toInt ∧ n.toInt ≤ 60 ∧ 0 ≤ rt.toInt ∧ rt.toInt ≤ 15) from by first | (exact ⟨rfl, by omega⟩))
        · skip
          have g17 := i_nle h15
          have b18 := i_bd b
          refine zd (fun h19 => ?_) (fun h19 => ?_)
          · skip
            have g20 := i_eq h19
            have li21 : (17 : Int32).toInt = 17 := rfl
            refine sp_143_64_sy_p82 (ab := (aG S)) ((17 : Int32)) (n) ((0 : Int64)) (rt) (by omega) (by omega) hI hr (by omega) (by omega) (by omega) (by omega) (show xB S (mR S 70) from by first | (exact xB_x (xC_o (W := 75) hpre2).2)) (show aG S = (aG S) from by first | (exact rfl)) (show qAv (aG S) from by first | (exact hpre4) | (rw [hpre3]; exact hpre4) | (rw [hpre3]; exact hpre4)) (fun v2 S1 r₉ C₉ Z₉ N₉ sl1 sl2 sl3 sl4 hI_S1 hp_v2 rp0_S1 rp1_S1 => zi_n ⟨zG_T hI_S1, ?_⟩)
            have rp0_S1 : xB S1 (mR S1 70) := rp0_S1
            have rp1_S1 : aG S1 = yMk (aG S) (17 : Int32) n (0 : Int64) rt ∧ v2 = yMn (aG S) n := rp1_S1
            have b22 := i_bd v2
            exact K (v2) _ _ _ _ _ sl1 sl2 sl3 sl4 hI_S1 trivial (show xB S1 (mR S1 70) from by first | (exact xB_x (xC_o (W := 75) rp0_S1).2)) (show (0 ≤ n.toInt ∧ n.toInt ≤ 60 ∧ 0 ≤ rt.toInt ∧ rt.toInt ≤ 15) ∧ aG S1 = (if b = 0 then yMk ab 17 n 0 rt else yMk ab 16 n (-1) rt) ∧ v2 = yMn ab n from by first | (exfalso; omega) | (have q := rp1_S1; rw [hpre3] at q; refine ⟨⟨by omega, by omega, by omega, by omega⟩, ?_⟩; rw [if_pos (by assumption)]; exact q) | (have q := rp1_S1; rw [hpre3] at q; refine ⟨⟨by omega, by omega, by omega, by omega⟩, ?_⟩; rw [if_neg (by assumption)]; exact q))
          · skip
            have g23 := i_ne h19
            refine sp_143_64_sy_p82 (ab := (aG S)) ((16 : Int32)) (n) ((-1 : Int64)) (rt) (by omega) (by omega) hI hr (by omega) (by omega) (by omega) (by omega) (show xB S (mR S 70) from by first | (exact xB_x (xC_o (W := 75) hpre2).2)) (show aG S = (aG S) from by first | (exact rfl)) (show qAv (aG S) from by first | (exact hpre4) | (rw [hpre3]; exact hpre4) | (rw [hpre3]; exact hpre4)) (fun v4 S3 r₉ C₉ Z₉ N₉ sl1 sl2 sl3 sl4 hI_S3 hp_v4 rp0_S3 rp1_S3 => zi_n ⟨zG_T hI_S3, ?_⟩)
            have rp0_S3 : xB S3 (mR S3 70) := rp0_S3
            have rp1_S3 : aG S3 = yMk (aG S) (16 : Int32) n (-1 : Int64) rt ∧ v4 = yMn (aG S) n := rp1_S3
            have b24 := i_bd v4
            exact K (v4) _ _ _ _ _ sl1 sl2 sl3 sl4 hI_S3 trivial (show xB S3 (mR S3 70) from by first | (exact xB_x (xC_o (W := 75) rp0_S3).2)) (show (0 ≤ n.toInt ∧ n.toInt ≤ 60 ∧ 0 ≤ rt.toInt ∧ rt.toInt ≤ 15) ∧ aG S3 = (if b = 0 then yMk ab 17 n 0 rt else yMk ab 16 n (-1) rt) ∧ v4 = yMn ab n from by first | (exfalso; omega) | (have q := rp1_S3; rw [hpre3] at q; refine ⟨⟨by omega, by omega, by omega, by omega⟩, ?_⟩; rw [if_pos (by assumption)]; exact q) | (have q := rp1_S3; rw [hpre3] at q; refine ⟨⟨by omega, by omega, by omega, by omega⟩, ?_⟩; rw [if_neg (by assumption)]; exact q))
theorem g_159_64_sy_p82_0 {X : Nat × (Nat → Int32)} {d w : Nat} {S : ma_S} {Q : Option ma_V ⊕ Nat → ma_S → Prop}  (hd : 7 ≤ d) (hw : 201 ≤ w) (hS : zT S) (h : mR S 64 11 = some 82 ∧ (mR S 64 11 = some 82 ∧ (ma_wp X (d - 1) (w - 21) 19 0 [(0, .inr (.inr (some 82)))] [] S (zi (fun v2 S1 => zT S1 ∧ (Q (.inl (some (.inl v2))) S1)) (fun _ _ => False))))) : ma_wp X d w 159 0 [(0, .inr (.inr (some 64)))] [] S Q := by
  refine zw_push hm_159 dX11_clean_0 (v := .inr (.inr (some 64))) rfl ?_
  refine zw_cv hm_159 dX11_clean_1 v_11_119_11 hm_144 [] [] rfl (zT_rt hS s_64 rfl) ⟨by omega, by omega⟩ rfl ?_
  show ma_wp X (d - 1) (w - 20) 144 0 [(0, .inr (.inr (some 64)))] [] S _
  refine zw_push hm_144 dX11_needCollector_0 (v := .inr (.inr (some 64))) rfl ?_
  obtain ⟨hg, h⟩ := h
  refine zw_gf hm_144 dX11_needCollector_1 (v := .inr (.inr (some 82))) (zT_is hS s_64) (zT_t hS s_64) rfl f_11_98_11 (congrArg (fun z => Sum.inr (Sum.inr z)) hg) ?_
  refine zw_ifnonnull hm_144 dX11_needCollector_4 (t := 15) rfl (fun z => by cases z) (fun _ _ => ?_)
  refine zw_push hm_144 dX11_needCollector_15 (v := .inr (.inr (some 64))) rfl ?_
  obtain ⟨hg, h⟩ := h
  refine zw_gf hm_144 dX11_needCollector_16 (v := .inr (.inr (some 82))) (zT_is hS s_64) (zT_t hS s_64) rfl f_11_98_11 (congrArg (fun z => Sum.inr (Sum.inr z)) hg) ?_
  refine zw_aret hm_144 dX11_needCollector_19 ?_
  show ma_wp X d w 159 4 [(0, .inr (.inr (some 64)))] [.inr (.inr (some 82))] S _
  refine zw_cv hm_159 dX11_clean_4 v_11_207_1 hm_19 [] [] rfl (zT_rt hS s_82 rfl) ⟨by omega, by omega⟩ rfl (zw_mono h (zi_go ?_ ?_))
  · intro v2 S1 hv
    obtain ⟨hS1, h⟩ := hv
    exact zw_iret hm_159 dX11_clean_7 h
  · intro x S9 hx
    exact hx.elim
theorem sp_159_64_sy_p82 {X : Nat × (Nat → Int32)} {d w : Nat} {f : Nat → Nat → Int32} {r : Nat → Nat → Option Nat} {C Z N : Nat} {Q : Option ma_V ⊕ Nat → ma_S → Prop} {ab : Nat→Nat→Int32} {S : ma_S}  (hd : 7 ≤ d) (hw : 201 ≤ w) (hI : zB f r C Z N S) (hr : r 64 11 = some 82) (hpre0 : xB S (mR S 70)) (hpre1 : aG S = ab) (hpre2 : qAv ab) (K : ∀ v S₉, zB f r C Z N S₉ → (True) → (xB S₉ (mR S₉ 70)) → (aG S₉ = gMi (gMa ab) ∧ v = aSv ab + gVi (gMa ab)) → Q (.inl (some (.inl v))) S₉) : ma_wp X d w 159 0 [(0, .inr (.inr (some 64)))] [] S Q := by
  refine g_159_64_sy_p82_0  (by omega) (by omega) (zG_T hI) ?_
  refine ⟨((zG_r hI (by decide)).trans hr), ?_⟩
  refine ⟨((zG_r hI (by decide)).trans hr), ?_⟩
  refine sp_19_82_sy (ab := (aG S)) (by omega) (by omega) (zB_dn_zJ82 hI) (show xB S (mR S 70) from by first | (exact xB_x (xC_o (W := 75) hpre0).2)) (show aG S = (aG S) from by first | (exact rfl)) (show qAv (aG S) from by first | (exact hpre2) | (rw [hpre1]; exact hpre2) | (rw [hpre1]; exact hpre2)) (fun v2 S1 hL_S1 hp_v2 rp0_S1 rp1_S1 => zi_n ⟨zG_T hL_S1, ?_⟩)
  have hI_S1 := zB_up_zJ82 hI hL_S1
  have rp0_S1 : xB S1 (mR S1 70) := by
    have z := rp0_S1
    (try rw [show mI S 65 = f 65 from funext (fun k => zG_z hI rfl)] at z)
    (try rw [show mI S 64 1 = f 64 1 from zG_z hI rfl] at z)
    exact z
  have rp1_S1 : aG S1 = gMi (gMa (aG S)) ∧ v2 = aSv (aG S) + gVi (gMa (aG S)) := by
    have z := rp1_S1
    (try rw [show mI S 65 = f 65 from funext (fun k => zG_z hI rfl)] at z)
    (try rw [show mI S 64 1 = f 64 1 from zG_z hI rfl] at z)
    exact z
  have b1 := i_bd v2
  exact K (v2) _ hI_S1 trivial (show xB S1 (mR S1 70) from by first | (exact xB_x (xC_o (W := 75) rp0_S1).2)) (show aG S1 = gMi (gMa ab) ∧ v2 = aSv ab + gVi (gMa ab) from by first | (have z := rp1_S1; rw [hpre1] at z; exact z))

/-! from 95.u31 -/
/-! AGES, the class (written by wip/tools/gen15y.py) -/
/-! AGES: a link and its card -/
section F30
variable {S S0 S1 : ma_S} {a b ab ag : Nat → Nat → Int32} {n m : Nat} {i z y x : Int32} {j : Int}
theorem Nr_83 (h83 : b 83 = a 83) (h87 : b 87 = a 87) (h126 : b 126 = a 126) (h130 : b 130 = a 130) : gNr b m j y 83 = gNr a m j y 83 := by
  have e : gCx b m j = gCx a m j := by
    unfold gCx
    rw [h130, h87]
  funext k
  unfold gNr
  rw [e, h87, h126, h130]
  split
  · by_cases w : k = (gCx a m j).toNat
    · rw [w, xu_s, xu_s]
    · rw [xu_o (fun z => w z.2), xu_o (fun z => w z.2), h83]
  · rw [h83]
theorem Nr_li (h0 : aS 88 S = ab) (h : aS 88 S0 = aCi ab n i z) (e1 : mI S0 82 = mI S 82) (e2 : mI S0 83 = mI S 83) (hg : aG S = ag) : gNr (aG S0) m j y 83 = gNr ag m j y 83 := by
  have r : ∀ c, c ≠ 71 → c ≠ 75 → c ≠ 76 → c ≠ 77 → c ≠ 87 → c ≠ 83 → aG S0 c = ag c := fun c h1 h5 h6 h7 h8 h3 => by
    funext k
    rw [aG_o h8 h3, aS_W ⟨h5, h6, h7⟩, h, show aCi ab n i z c = ab c from (by unfold aCi; split; (exact ma_u_ne _ _ _ h1); rfl), ← h0, ← aS_W ⟨h5, h6, h7⟩, ← aG_o h8 h3, hg]
  refine Nr_83 ?_ ?_ (r 126 (by decide) (by decide) (by decide) (by decide) (by decide) (by decide)) (r 130 (by decide) (by decide) (by decide) (by decide) (by decide) (by decide))
  · funext k
    rw [aG_8, e2, ← aG_8, hg]
  · funext k
    rw [← hg, aG_7, aG_7]
    unfold zfG
    rw [e1]
theorem Nr_row (h : aG S1 = gNr (aG S0) m j y) (h2 : gNr (aG S0) m j y 83 = gNr ag m j y 83) : mI S1 83 = gNr ag m j y 83 := by
  rw [← h2, ← h]
  funext k
  exact aG_8.symm
end F30
theorem g_20_82_s_0 {X : Nat × (Nat → Int32)} {d w : Nat} {S : ma_S} {Q : Option ma_V ⊕ Nat → ma_S → Prop}  (hd : 0 ≤ d) (hw : 0 ≤ w) (hS : zT S) (h : ma_wp X d w 20 4 [(0, .inr (.inr (some 82))), (1, .inl (0 : Int32)), (2, .inl (0 : Int32))] [] S Q) : ma_wp X d w 20 0 [(0, .inr (.inr (some 82)))] [] S Q := by
  refine zw_push hm_20 dX0_specials_0 (v := .inl (0 : Int32)) rfl ?_
  refine zw_sto hm_20 dX0_specials_1 [(1, .inl (0 : Int32)), (0, .inr (.inr (some 82)))] rfl rfl rfl ?_
  refine zw_push hm_20 dX0_specials_2 (v := .inl (0 : Int32)) rfl ?_
  refine zw_sto hm_20 dX0_specials_3 [(2, .inl (0 : Int32)), (1, .inl (0 : Int32)), (0, .inr (.inr (some 82)))] rfl rfl rfl ?_
  exact zw_sub (ma_nd_of (ks := [0, 1, 2]) rfl (by decide)) (ma_nd_of (ks := [2, 1, 0]) rfl (by decide)) (ma_le_cons rfl (ma_le_cons rfl (ma_le_cons rfl (ma_le_nil _)))) h
theorem g_20_82_s_4 {X : Nat × (Nat → Int32)} {d w : Nat} {S : ma_S} {Q : Option ma_V ⊕ Nat → ma_S → Prop} (l1 : Int32) (l2 : Int32) (hd : 0 ≤ d) (hw : 0 ≤ w) (hS : zT S) (h : if (375 : Int32) ≤ l2 then (Q (.inl (some (.inl l1))) S) else ((0 ≤ l2 ∧ l2.toNatClampNeg < 375) ∧ (ma_wp X d w 20 4 [(0, .inr (.inr (some 82))), (1, .inl (l1 + (mI S 83 l2.toNatClampNeg))), (2, .inl (l2 + (1 : Int32)))] [] S Q))) : ma_wp X d w 20 4 [(0, .inr (.inr (some 82))), (1, .inl l1), (2, .inl l2)] [] S Q := by
  refine zw_push hm_20 dX0_specials_4 (v := .inl l2) rfl ?_
  refine zw_push hm_20 dX0_specials_5 (v := .inl (375 : Int32)) rfl ?_
  refine zw_if2 hm_20 dX0_specials_8 (t := 26) rfl zc2_ge ?_ ?_
  · intro hc
    rw [if_pos hc] at h
    refine zw_push hm_20 dX0_specials_26 (v := .inl l1) rfl ?_
    exact zw_iret hm_20 dX0_specials_27 h
  · intro hc
    rw [if_neg hc] at h
    refine zw_push hm_20 dX0_specials_11 (v := .inl l1) rfl ?_
    refine zw_push hm_20 dX0_specials_12 (v := .inr (.inr (some 82))) rfl ?_
    refine zw_gf hm_20 dX0_specials_13 (v := .inr (.inr (some 83))) (zT_is hS s_82) (zT_t hS s_82) rfl f_1_9_1 (zT_f hS r_82_9) ?_
    refine zw_push hm_20 dX0_specials_16 (v := .inl l2) rfl ?_
    obtain ⟨hg, h⟩ := h
    refine zw_ia hm_20 dX0_specials_17 (zT_is hS s_83) (zT_h hS s_83) rfl hg ?_
    show ma_wp X d w 20 18 [(0, .inr (.inr (some 82))), (1, .inl l1), (2, .inl l2)] [.inl (mI S 83 l2.toNatClampNeg), .inl l1] S _
    refine zw_stk hm_20 dX0_specials_18 (st₉ := [.inl (l1 + (mI S 83 l2.toNatClampNeg))]) rfl rfl ?_
    refine zw_sto hm_20 dX0_specials_19 [(1, .inl (l1 + (mI S 83 l2.toNatClampNeg))), (0, .inr (.inr (some 82))), (2, .inl l2)] rfl rfl rfl ?_
    refine zw_sto hm_20 dX0_specials_20 [(2, .inl (l2 + (1 : Int32))), (1, .inl (l1 + (mI S 83 l2.toNatClampNeg))), (0, .inr (.inr (some 82)))] rfl rfl rfl ?_
    refine zw_goto hm_20 dX0_specials_23 (t := 4) rfl ?_
    exact zw_sub (ma_nd_of (ks := [0, 1, 2]) rfl (by decide)) (ma_nd_of (ks := [2, 1, 0]) rfl (by decide)) (ma_le_cons rfl (ma_le_cons rfl (ma_le_cons rfl (ma_le_nil _)))) h
theorem lp_20_82_s_4 {X : Nat × (Nat → Int32)} {d w : Nat} {f : Nat → Nat → Int32} {r : Nat → Nat → Option Nat} {C Z N : Nat} {Q : Option ma_V ⊕ Nat → ma_S → Prop} {S : ma_S} (hd : 0 ≤ d) (hw : 0 ≤ w) (K : ∀ v S₉, S₉ = S → (True) → Q (.inl (some (.inl v))) S₉) : ∀ (n : Nat) (l1 : Int32) (l2 : Int32), (375 - l2.toInt).toNat = n → zJ82 f r C Z N S → (0 ≤ l2.toInt) → ma_wp X d w 20 4 [(0, .inr (.inr (some 82))), (1, .inl l1), (2, .inl l2)] [] S Q := by
  intro n
  induction n using Nat.strongRecOn with
  | _ n IH =>
    intro l1 l2 hmu hI  hi0
    refine g_20_82_s_4 l1 l2 (by omega) (by omega) (zG_T hI) ?_
    have li1 : (375 : Int32).toInt = 375 := rfl
    have b2 := i_bd l2
    refine zd (fun h3 => ?_) (fun h3 => ?_)
    · skip
      have g4 := i_le h3
      have b5 := i_bd l1
      exact K (l1) _ rfl trivial
    · skip
      have g6 := i_nle h3
      refine ⟨i_ix (by omega) (by omega), ?_⟩
      have b7 := i_bd l1
      have b8 := i_bd (mI S 83 l2.toNatClampNeg)
      first | have e9 : (l1 + (mI S 83 l2.toNatClampNeg)).toInt = l1.toInt + (mI S 83 l2.toNatClampNeg).toInt := i_add (by omega) (by omega) | have b10 := i_bd (l1 + (mI S 83 l2.toNatClampNeg))
      first | have e11 : (l2 + (1 : Int32)).toInt = l2.toInt + (1) := i_addk rfl (by omega) (by omega) | have b12 := i_bd (l2 + (1 : Int32))
      exact IH _ (by omega) ((l1 + (mI S 83 l2.toNatClampNeg))) ((l2 + (1 : Int32))) rfl hI (by omega)
theorem sp_20_82_s {X : Nat × (Nat → Int32)} {d w : Nat} {f : Nat → Nat → Int32} {r : Nat → Nat → Option Nat} {C Z N : Nat} {Q : Option ma_V ⊕ Nat → ma_S → Prop} {S : ma_S}  (hd : 0 ≤ d) (hw : 0 ≤ w) (hI : zJ82 f r C Z N S)  (K : ∀ v S₉, S₉ = S → (True) → Q (.inl (some (.inl v))) S₉) : ma_wp X d w 20 0 [(0, .inr (.inr (some 82)))] [] S Q := by
  refine g_20_82_s_0  (by omega) (by omega) (zG_T hI) ?_
  have li1 : (0 : Int32).toInt = 0 := rfl
  exact lp_20_82_s_4 (by omega) (by omega) K _ ((0 : Int32)) ((0 : Int32)) rfl hI (by omega)
theorem g_21_82_s_0 {X : Nat × (Nat → Int32)} {d w : Nat} {S : ma_S} {Q : Option ma_V ⊕ Nat → ma_S → Prop}  (hd : 0 ≤ d) (hw : 0 ≤ w) (hS : zT S) (h : Q (.inl (some (.inl (mI S 82 8)))) S) : ma_wp X d w 21 0 [(0, .inr (.inr (some 82)))] [] S Q := by
  refine zw_push hm_21 dX0_topPlace_0 (v := .inr (.inr (some 82))) rfl ?_
  refine zw_gf hm_21 dX0_topPlace_1 (v := .inl (mI S 82 8)) (zT_is hS s_82) (zT_t hS s_82) rfl f_1_34_1 rfl ?_
  exact zw_iret hm_21 dX0_topPlace_4 h
theorem sp_21_82_s {X : Nat × (Nat → Int32)} {d w : Nat} {f : Nat → Nat → Int32} {r : Nat → Nat → Option Nat} {C Z N : Nat} {Q : Option ma_V ⊕ Nat → ma_S → Prop} {S : ma_S}  (hd : 0 ≤ d) (hw : 0 ≤ w) (hI : zJ82 f r C Z N S)  (K : ∀ v S₉, S₉ = S → (True) → Q (.inl (some (.inl v))) S₉) : ma_wp X d w 21 0 [(0, .inr (.inr (some 82)))] [] S Q := by
  refine g_21_82_s_0  (by omega) (by omega) (zG_T hI) ?_
  have f1 := zG_s hI (0) (400000) (c := 82) (k := 8) (by decide)
  exact K ((mI S 82 8)) _ rfl trivial
theorem g_22_82_s_0 {X : Nat × (Nat → Int32)} {d w : Nat} {S : ma_S} {Q : Option ma_V ⊕ Nat → ma_S → Prop}  (hd : 0 ≤ d) (hw : 0 ≤ w) (hS : zT S) (h : Q (.inl (some (.inl (mI S 82 6)))) S) : ma_wp X d w 22 0 [(0, .inr (.inr (some 82)))] [] S Q := by
  refine zw_push hm_22 dX0_oldTopOrRegion_0 (v := .inr (.inr (some 82))) rfl ?_
  refine zw_gf hm_22 dX0_oldTopOrRegion_1 (v := .inl (mI S 82 6)) (zT_is hS s_82) (zT_t hS s_82) rfl f_1_28_1 rfl ?_
  exact zw_iret hm_22 dX0_oldTopOrRegion_4 h
theorem sp_22_82_s {X : Nat × (Nat → Int32)} {d w : Nat} {f : Nat → Nat → Int32} {r : Nat → Nat → Option Nat} {C Z N : Nat} {Q : Option ma_V ⊕ Nat → ma_S → Prop} {S : ma_S}  (hd : 0 ≤ d) (hw : 0 ≤ w) (hI : zJ82 f r C Z N S)  (K : ∀ v S₉, S₉ = S → (True) → Q (.inl (some (.inl v))) S₉) : ma_wp X d w 22 0 [(0, .inr (.inr (some 82)))] [] S Q := by
  refine g_22_82_s_0  (by omega) (by omega) (zG_T hI) ?_
  have f1 := zG_s hI (0) (400000) (c := 82) (k := 6) (by decide)
  exact K ((mI S 82 6)) _ rfl trivial
theorem g_145_64_82_sm_0 {X : Nat × (Nat → Int32)} {d w : Nat} {S : ma_S} {Q : Option ma_V ⊕ Nat → ma_S → Prop} (i : Int32) (x : Option Nat) (hd : 5 ≤ d) (hw : 110 ≤ w) (hS : zT S) (h : ma_wp X (d - 1) (w - 23) 92 0 [(0, .inr (.inr (some 69))), (1, .inl i), (2, .inr (.inr x))] [] S (zo (fun v2 S1 => zT S1 ∧ (Q (.inl (some (.inr (.inr v2)))) S1)) (fun x S9 => Q (.inr x) S9))) : ma_wp X d w 145 0 [(0, .inr (.inr (some 64))), (1, .inr (.inr (some 82))), (2, .inl i), (3, .inr (.inr x))] [] S Q := by
  refine zw_push hm_145 dX11_changeRoot_0 (v := .inr (.inr (some 64))) rfl ?_
  refine zw_gf hm_145 dX11_changeRoot_1 (v := .inr (.inr (some 69))) (zT_is hS s_64) (zT_t hS s_64) rfl f_11_26_11 (zT_f hS r_64_8) ?_
  refine zw_push hm_145 dX11_changeRoot_4 (v := .inl i) rfl ?_
  refine zw_push hm_145 dX11_changeRoot_5 (v := .inr (.inr x)) rfl ?_
  refine zw_cv hm_145 dX11_changeRoot_6 v_11_379_7 hm_92 [.inr (.inr x), .inl i] [] rfl (zT_rt hS s_69 rfl) ⟨by omega, by omega⟩ rfl (zw_mono h (zo_go ?_ ?_))
  · intro v2 S1 hv
    obtain ⟨hS1, h⟩ := hv
    refine zw_sto hm_145 dX11_changeRoot_9 [(4, .inr (.inr v2)), (0, .inr (.inr (some 64))), (1, .inr (.inr (some 82))), (2, .inl i), (3, .inr (.inr x))] rfl rfl rfl ?_
    refine zw_push hm_145 dX11_changeRoot_11 (v := .inr (.inr (some 82))) rfl ?_
    refine zw_push hm_145 dX11_changeRoot_12 (v := .inr (.inr v2)) rfl ?_
    refine zw_push hm_145 dX11_changeRoot_14 (v := .inr (.inr x)) rfl ?_
    refine zw_cv hm_145 dX11_changeRoot_15 v_11_153_1 hm_265 [.inr (.inr x), .inr (.inr v2)] [] rfl (zT_rt hS1 s_82 rfl) ⟨by omega, by omega⟩ rfl ?_
    show ma_wp X (d - 1) (w - 22) 265 0 [(0, .inr (.inr (some 82))), (1, .inr (.inr v2)), (2, .inr (.inr x))] [] S1 _
    refine zw_vret hm_265 dX1_noteChange_0 ?_
    show ma_wp X d w 145 18 [(4, .inr (.inr v2)), (0, .inr (.inr (some 64))), (1, .inr (.inr (some 82))), (2, .inl i), (3, .inr (.inr x))] [] S1 _
    refine zw_push hm_145 dX11_changeRoot_18 (v := .inr (.inr (some 82))) rfl ?_
    refine zw_push hm_145 dX11_changeRoot_19 (v := .inr (.inr v2)) rfl ?_
    refine zw_cv hm_145 dX11_changeRoot_21 v_11_157_1 hm_266 [.inr (.inr v2)] [] rfl (zT_rt hS1 s_82 rfl) ⟨by omega, by omega⟩ rfl ?_
    show ma_wp X (d - 1) (w - 21) 266 0 [(0, .inr (.inr (some 82))), (1, .inr (.inr v2))] [] S1 _
    refine zw_vret hm_266 dX1_noteFewer_0 ?_
    show ma_wp X d w 145 24 [(4, .inr (.inr v2)), (0, .inr (.inr (some 64))), (1, .inr (.inr (some 82))), (2, .inl i), (3, .inr (.inr x))] [] S1 _
    refine zw_push hm_145 dX11_changeRoot_24 (v := .inr (.inr v2)) rfl ?_
    exact zw_aret hm_145 dX11_changeRoot_26 h
  · intro x S9 hx
    exact ⟨by decide, hx⟩
theorem sp_145_64_82_sm {X : Nat × (Nat → Int32)} {d w : Nat} {f : Nat → Nat → Int32} {r : Nat → Nat → Option Nat} {C Z N : Nat} {Q : Option ma_V ⊕ Nat → ma_S → Prop} {ab : Nat→Nat→Int32} {R : zRT} {y : Int32} {fp82 : Nat→Int32} {fp83 : Nat→Int32} {S : ma_S} (i : Int32) (x : Option Nat) (hd : 5 ≤ d) (hw : 110 ≤ w) (hI : zJ82 f r C Z N S) (hq_x : ∀ c, x = some c → 126 ≤ c ∧ c < N) (hpre0 : xB S R) (hpre1 : aS 88 S = ab) (hpre2 : x = zTa R y) (hpre3 : 0 ≤ i.toInt) (hpre4 : i.toInt ≤ 15) (hpre5 : (mI S 82) = fp82) (hpre6 : (mI S 83) = fp83) (K : ∀ v S₉, zJ82 f r C Z N S₉ → (∀ c, v = some c → 126 ≤ c ∧ c < N) → (xB S₉ R) → (aS 88 S₉ = aR0 ab i y) → (v = zTa R (ab 72 i.toNatClampNeg)) → ((mI S₉ 82) = fp82) → ((mI S₉ 83) = fp83) → Q (.inl (some (.inr (.inr v)))) S₉) : ma_wp X d w 145 0 [(0, .inr (.inr (some 64))), (1, .inr (.inr (some 82))), (2, .inl i), (3, .inr (.inr x))] [] S Q := by
  refine g_145_64_82_sm_0 i x (by omega) (by omega) (zG_T hI) ?_
  have b1 := i_bd i
  refine sp_92_69_s (ab := (aS 88 S)) (R := R) (W := 88) (y := (y)) (i) (x) (by omega) (by omega) (zJ82_dn hI) hq_x (show xB S R from by first | (exact (xC_o (W := 75) hpre0).2)) (show aS 88 S = (aS 88 S) from by first | (exact rfl)) (show xW 88 from by first | (exact xW88) | (exact xW75)) (show x = zTa R (y) from by first | (exact hpre2)) (by omega) (by omega) (fun v2 S1 hL_S1 hq_v2 rp0_S1 rp1_S1 rp2_S1 => zo_n ⟨zG_T hL_S1, ?_⟩)
  have hI_S1 := zJ82_up hI hL_S1
  have rp0_S1 : xB S1 R := by
    have z := rp0_S1
    (try rw [show mI S 65 = f 65 from funext (fun k => zG_z hI rfl)] at z)
    (try rw [show mI S 64 1 = f 64 1 from zG_z hI rfl] at z)
    exact z
  have rp1_S1 : aS 88 S1 = ma_u (aS 88 S) 72 i.toNatClampNeg (aNm (aS 88 S) (y)) := by
    have z := rp1_S1
    (try rw [show mI S 65 = f 65 from funext (fun k => zG_z hI rfl)] at z)
    (try rw [show mI S 64 1 = f 64 1 from zG_z hI rfl] at z)
    exact z
  have rp2_S1 : v2 = zTa R ((aS 88 S) 72 i.toNatClampNeg) := by
    have z := rp2_S1
    (try rw [show mI S 65 = f 65 from funext (fun k => zG_z hI rfl)] at z)
    (try rw [show mI S 64 1 = f 64 1 from zG_z hI rfl] at z)
    exact z
  exact K (v2) _ hI_S1 hq_v2 (show xB S1 R from by first | (exact (xC_o (W := 75) rp0_S1).2)) (show aS 88 S1 = aR0 ab i y from by first | (rw [rp1_S1, hpre1]; rfl)) (show v2 = zTa R (ab 72 i.toNatClampNeg) from by first | (rw [← hpre1]; exact rp2_S1)) (show (mI S1 82) = fp82 from by first | (exact ((show mI S1 82 = mI S 82 from funext (fun _ => zG_z hL_S1 rfl)).trans hpre5))) (show (mI S1 83) = fp83 from by first | (exact ((show mI S1 83 = mI S 83 from funext (fun _ => zG_z hL_S1 rfl)).trans hpre6)))

/-! from 95.u32 -/
/-! AGES, the class (written by wip/tools/gen15y.py) -/
theorem g_148_64_sm_p82_0 {X : Nat × (Nat → Int32)} {d w : Nat} {S : ma_S} {Q : Option ma_V ⊕ Nat → ma_S → Prop} (o : Int32) (i : Int32) (x : Int32) (hd : 7 ≤ d) (hw : 111 ≤ w) (hS : zT S) (h : mR S 64 11 = some 82 ∧ (mR S 64 11 = some 82 ∧ (ma_wp X (d - 1) (w - 22) 149 0 [(0, .inr (.inr (some 64))), (1, .inl o)] [] S (zo (fun v2 S1 => zT S1 ∧ ((∃ c3, v2 = some c3 ∧ ((126 ≤ c3 ∧ c3 < mN S1) ∧ (if i < 0 then (Q (.inr 1) (ma_bump S1)) else ((126 ≤ c3 ∧ c3 < mN S1) ∧ (if ((mI S1 c3 2) - (1 : Int32)) ≤ i then (Q (.inr 1) (ma_bump S1)) else ((126 ≤ c3 ∧ c3 < mN S1) ∧ ((126 ≤ c3 ∧ c3 < mN S1) ∧ (if i < 0 then (ma_wp X (d - 1) (w - 25) 95 0 [(0, .inr (.inr (some 69))), (1, .inr (.inr (some c3))), (2, .inl i), (3, .inl x)] [] S1 (zi (fun v5 S4 => zT S4 ∧ (Q (.inl (some (.inl v5))) S4)) (fun x S9 => Q (.inr x) S9))) else ((126 ≤ c3 ∧ c3 < mN S1) ∧ (if ((mI S1 c3 2) - (1 : Int32)) ≤ i then (ma_wp X (d - 1) (w - 25) 95 0 [(0, .inr (.inr (some 69))), (1, .inr (.inr (some c3))), (2, .inl i), (3, .inl x)] [] S1 (zi (fun v7 S6 => zT S6 ∧ (Q (.inl (some (.inl v7))) S6)) (fun x S9 => Q (.inr x) S9))) else ((126 ≤ c3 ∧ c3 < mN S1) ∧ (if (lg_cmp ((((mL S1 c3 3).toUInt64 >>> (i.toInt64.toUInt64 &&& Int64.toUInt64 63)).toInt64) &&& (1 : Int64)) (0 : Int64)) = 0 then (ma_wp X (d - 1) (w - 25) 95 0 [(0, .inr (.inr (some 69))), (1, .inr (.inr (some c3))), (2, .inl i), (3, .inl x)] [] S1 (zi (fun v9 S8 => zT S8 ∧ (Q (.inl (some (.inl v9))) S8)) (fun x S9 => Q (.inr x) S9))) else (Q (.inr 5) (ma_bump S1)))))))))))))))) (fun x S9 => Q (.inr x) S9))))) : ma_wp X d w 148 0 [(0, .inr (.inr (some 64))), (1, .inl o), (2, .inl i), (3, .inl x)] [] S Q := by
  refine zw_push hm_148 dX11_put_0 (v := .inr (.inr (some 64))) rfl ?_
  refine zw_cv hm_148 dX11_put_1 v_11_119_11 hm_144 [] [] rfl (zT_rt hS s_64 rfl) ⟨by omega, by omega⟩ rfl ?_
  show ma_wp X (d - 1) (w - 20) 144 0 [(0, .inr (.inr (some 64)))] [] S _
  refine zw_push hm_144 dX11_needCollector_0 (v := .inr (.inr (some 64))) rfl ?_
  obtain ⟨hg, h⟩ := h
  refine zw_gf hm_144 dX11_needCollector_1 (v := .inr (.inr (some 82))) (zT_is hS s_64) (zT_t hS s_64) rfl f_11_98_11 (congrArg (fun z => Sum.inr (Sum.inr z)) hg) ?_
  refine zw_ifnonnull hm_144 dX11_needCollector_4 (t := 15) rfl (fun z => by cases z) (fun _ _ => ?_)
  refine zw_push hm_144 dX11_needCollector_15 (v := .inr (.inr (some 64))) rfl ?_
  obtain ⟨hg, h⟩ := h
  refine zw_gf hm_144 dX11_needCollector_16 (v := .inr (.inr (some 82))) (zT_is hS s_64) (zT_t hS s_64) rfl f_11_98_11 (congrArg (fun z => Sum.inr (Sum.inr z)) hg) ?_
  refine zw_aret hm_144 dX11_needCollector_19 ?_
  show ma_wp X d w 148 4 [(0, .inr (.inr (some 64))), (1, .inl o), (2, .inl i), (3, .inl x)] [.inr (.inr (some 82))] S _
  refine zw_stk hm_148 dX11_put_4 (st₉ := []) rfl rfl ?_
  refine zw_push hm_148 dX11_put_5 (v := .inr (.inr (some 64))) rfl ?_
  refine zw_push hm_148 dX11_put_6 (v := .inl o) rfl ?_
  refine zw_cv hm_148 dX11_put_7 v_11_123_11 hm_149 [.inl o] [] rfl (zT_rt hS s_64 rfl) ⟨by omega, by omega⟩ rfl (zw_mono h (zo_go ?_ ?_))
  · intro v2 S1 hv
    obtain ⟨hS1, h⟩ := hv
    obtain ⟨c3, hc, h⟩ := h
    subst hc
    show ma_wp X d w 148 10 [(0, .inr (.inr (some 64))), (1, .inl o), (2, .inl i), (3, .inl x)] [.inr (.inr (some c3))] S1 _
    refine zw_sto hm_148 dX11_put_10 [(4, .inr (.inr (some c3))), (0, .inr (.inr (some 64))), (1, .inl o), (2, .inl i), (3, .inl x)] rfl rfl rfl ?_
    refine zw_push hm_148 dX11_put_12 (v := .inr (.inr (some c3))) rfl ?_
    refine zw_push hm_148 dX11_put_14 (v := .inl i) rfl ?_
    obtain ⟨hg, h⟩ := h
    refine zw_cv hm_148 dX11_put_15 v_11_127_9 hm_114 [.inl i] [] rfl (zT_trt hS1 hg) ⟨by omega, by omega⟩ rfl ?_
    show ma_wp X (d - 1) (w - 21) 114 0 [(0, .inr (.inr (some c3))), (1, .inl i)] [] S1 _
    refine zw_push hm_114 dX9_hasWord_0 (v := .inl i) rfl ?_
    refine zw_if0 hm_114 dX9_hasWord_1 (t := 18) rfl zc0_lt ?_ ?_
    · intro hc
      rw [if_pos hc] at h
      refine zw_push hm_114 dX9_hasWord_18 (v := .inl (0 : Int32)) rfl ?_
      refine zw_bret hm_114 dX9_hasWord_19 (by decide) ?_
      show ma_wp X d w 148 18 [(4, .inr (.inr (some c3))), (0, .inr (.inr (some 64))), (1, .inl o), (2, .inl i), (3, .inl x)] [.inl (0 : Int32)] S1 _
      refine zw_if0 hm_148 dX11_put_18 (t := 29) rfl zc0_ne (fun hc => absurd hc (by decide)) (fun _ => ?_)
      exact zw_thr hm_148 dX11_put_21 dX11_put_24 dX11_put_25 dX11_put_28 x_11_72_74 n_11_72 (by omega) (by show 0 + 81 ≤ w; omega) h
    · intro hc
      rw [if_neg hc] at h
      refine zw_push hm_114 dX9_hasWord_4 (v := .inl i) rfl ?_
      refine zw_push hm_114 dX9_hasWord_5 (v := .inr (.inr (some c3))) rfl ?_
      obtain ⟨hg, h⟩ := h
      refine zw_gf hm_114 dX9_hasWord_6 (v := .inl (mI S1 c3 2)) (zT_tis hS1 hg) (zT_tt hS1 hg) rfl f_9_16_9 rfl ?_
      refine zw_push hm_114 dX9_hasWord_9 (v := .inl (1 : Int32)) rfl ?_
      refine zw_stk hm_114 dX9_hasWord_10 (st₉ := [.inl ((mI S1 c3 2) - (1 : Int32)), .inl i]) rfl rfl ?_
      refine zw_if2 hm_114 dX9_hasWord_11 (t := 18) rfl zc2_ge ?_ ?_
      · intro hc
        rw [if_pos hc] at h
        refine zw_push hm_114 dX9_hasWord_18 (v := .inl (0 : Int32)) rfl ?_
        refine zw_bret hm_114 dX9_hasWord_19 (by decide) ?_
        show ma_wp X d w 148 18 [(4, .inr (.inr (some c3))), (0, .inr (.inr (some 64))), (1, .inl o), (2, .inl i), (3, .inl x)] [.inl (0 : Int32)] S1 _
        refine zw_if0 hm_148 dX11_put_18 (t := 29) rfl zc0_ne (fun hc => absurd hc (by decide)) (fun _ => ?_)
        exact zw_thr hm_148 dX11_put_21 dX11_put_24 dX11_put_25 dX11_put_28 x_11_72_74 n_11_72 (by omega) (by show 0 + 81 ≤ w; omega) h
      · intro hc
        rw [if_neg hc] at h
        refine zw_push hm_114 dX9_hasWord_14 (v := .inl (1 : Int32)) rfl ?_
        refine zw_goto hm_114 dX9_hasWord_15 (t := 19) rfl ?_
        refine zw_bret hm_114 dX9_hasWord_19 (by decide) ?_
        show ma_wp X d w 148 18 [(4, .inr (.inr (some c3))), (0, .inr (.inr (some 64))), (1, .inl o), (2, .inl i), (3, .inl x)] [.inl (1 : Int32)] S1 _
        refine zw_if0 hm_148 dX11_put_18 (t := 29) rfl zc0_ne (fun _ => ?_) (fun hc => absurd (by decide) hc)
        refine zw_push hm_148 dX11_put_29 (v := .inr (.inr (some c3))) rfl ?_
        refine zw_push hm_148 dX11_put_31 (v := .inl i) rfl ?_
        obtain ⟨hg, h⟩ := h
        refine zw_cv hm_148 dX11_put_32 v_11_132_9 hm_113 [.inl i] [] rfl (zT_trt hS1 hg) ⟨by omega, by omega⟩ rfl ?_
        show ma_wp X (d - 1) (w - 21) 113 0 [(0, .inr (.inr (some c3))), (1, .inl i)] [] S1 _
        refine zw_push hm_113 dX9_isReference_0 (v := .inr (.inr (some c3))) rfl ?_
        refine zw_push hm_113 dX9_isReference_1 (v := .inl i) rfl ?_
        obtain ⟨hg, h⟩ := h
        refine zw_cv hm_113 dX9_isReference_2 v_9_26_9 hm_114 [.inl i] [] rfl (zT_trt hS1 hg) ⟨by omega, by omega⟩ rfl ?_
        show ma_wp X ((d - 1) - 1) ((w - 21) - 21) 114 0 [(0, .inr (.inr (some c3))), (1, .inl i)] [] S1 _
        refine zw_push hm_114 dX9_hasWord_0 (v := .inl i) rfl ?_
        refine zw_if0 hm_114 dX9_hasWord_1 (t := 18) rfl zc0_lt ?_ ?_
        · intro hc
          rw [if_pos hc] at h
          refine zw_push hm_114 dX9_hasWord_18 (v := .inl (0 : Int32)) rfl ?_
          refine zw_bret hm_114 dX9_hasWord_19 (by decide) ?_
          show ma_wp X (d - 1) (w - 21) 113 5 [(0, .inr (.inr (some c3))), (1, .inl i)] [.inl (0 : Int32)] S1 _
          refine zw_if0 hm_113 dX9_isReference_5 (t := 25) rfl zc0_eq (fun _ => ?_) (fun hc => absurd (by decide) hc)
          refine zw_push hm_113 dX9_isReference_25 (v := .inl (0 : Int32)) rfl ?_
          refine zw_bret hm_113 dX9_isReference_26 (by decide) ?_
          show ma_wp X d w 148 35 [(4, .inr (.inr (some c3))), (0, .inr (.inr (some 64))), (1, .inl o), (2, .inl i), (3, .inl x)] [.inl (0 : Int32)] S1 _
          refine zw_if0 hm_148 dX11_put_35 (t := 46) rfl zc0_eq (fun _ => ?_) (fun hc => absurd (by decide) hc)
          refine zw_push hm_148 dX11_put_46 (v := .inr (.inr (some 64))) rfl ?_
          refine zw_gf hm_148 dX11_put_47 (v := .inr (.inr (some 69))) (zT_is hS1 s_64) (zT_t hS1 s_64) rfl f_11_26_11 (zT_f hS1 r_64_8) ?_
          refine zw_push hm_148 dX11_put_50 (v := .inr (.inr (some c3))) rfl ?_
          refine zw_push hm_148 dX11_put_52 (v := .inl i) rfl ?_
          refine zw_push hm_148 dX11_put_53 (v := .inl x) rfl ?_
          refine zw_cv hm_148 dX11_put_54 v_11_138_7 hm_95 [.inl x, .inl i, .inr (.inr (some c3))] [] rfl (zT_rt hS1 s_69 rfl) ⟨by omega, by omega⟩ rfl (zw_mono h (zi_go ?_ ?_))
          · intro v5 S4 hv
            obtain ⟨hS4, h⟩ := hv
            exact zw_iret hm_148 dX11_put_57 h
          · intro x S9 hx
            exact ⟨by decide, hx⟩
        · intro hc
          rw [if_neg hc] at h
          refine zw_push hm_114 dX9_hasWord_4 (v := .inl i) rfl ?_
          refine zw_push hm_114 dX9_hasWord_5 (v := .inr (.inr (some c3))) rfl ?_
          obtain ⟨hg, h⟩ := h
          refine zw_gf hm_114 dX9_hasWord_6 (v := .inl (mI S1 c3 2)) (zT_tis hS1 hg) (zT_tt hS1 hg) rfl f_9_16_9 rfl ?_
          refine zw_push hm_114 dX9_hasWord_9 (v := .inl (1 : Int32)) rfl ?_
          refine zw_stk hm_114 dX9_hasWord_10 (st₉ := [.inl ((mI S1 c3 2) - (1 : Int32)), .inl i]) rfl rfl ?_
          refine zw_if2 hm_114 dX9_hasWord_11 (t := 18) rfl zc2_ge ?_ ?_
          · intro hc
            rw [if_pos hc] at h
            refine zw_push hm_114 dX9_hasWord_18 (v := .inl (0 : Int32)) rfl ?_
            refine zw_bret hm_114 dX9_hasWord_19 (by decide) ?_
            show ma_wp X (d - 1) (w - 21) 113 5 [(0, .inr (.inr (some c3))), (1, .inl i)] [.inl (0 : Int32)] S1 _
            refine zw_if0 hm_113 dX9_isReference_5 (t := 25) rfl zc0_eq (fun _ => ?_) (fun hc => absurd (by decide) hc)
            refine zw_push hm_113 dX9_isReference_25 (v := .inl (0 : Int32)) rfl ?_
            refine zw_bret hm_113 dX9_isReference_26 (by decide) ?_
            show ma_wp X d w 148 35 [(4, .inr (.inr (some c3))), (0, .inr (.inr (some 64))), (1, .inl o), (2, .inl i), (3, .inl x)] [.inl (0 : Int32)] S1 _
            refine zw_if0 hm_148 dX11_put_35 (t := 46) rfl zc0_eq (fun _ => ?_) (fun hc => absurd (by decide) hc)
            refine zw_push hm_148 dX11_put_46 (v := .inr (.inr (some 64))) rfl ?_
            refine zw_gf hm_148 dX11_put_47 (v := .inr (.inr (some 69))) (zT_is hS1 s_64) (zT_t hS1 s_64) rfl f_11_26_11 (zT_f hS1 r_64_8) ?_
            refine zw_push hm_148 dX11_put_50 (v := .inr (.inr (some c3))) rfl ?_
            refine zw_push hm_148 dX11_put_52 (v := .inl i) rfl ?_
            refine zw_push hm_148 dX11_put_53 (v := .inl x) rfl ?_
            refine zw_cv hm_148 dX11_put_54 v_11_138_7 hm_95 [.inl x, .inl i, .inr (.inr (some c3))] [] rfl (zT_rt hS1 s_69 rfl) ⟨by omega, by omega⟩ rfl (zw_mono h (zi_go ?_ ?_))
            · intro v7 S6 hv
              obtain ⟨hS6, h⟩ := hv
              exact zw_iret hm_148 dX11_put_57 h
            · intro x S9 hx
              exact ⟨by decide, hx⟩
          · intro hc
            rw [if_neg hc] at h
            refine zw_push hm_114 dX9_hasWord_14 (v := .inl (1 : Int32)) rfl ?_
            refine zw_goto hm_114 dX9_hasWord_15 (t := 19) rfl ?_
            refine zw_bret hm_114 dX9_hasWord_19 (by decide) ?_
            show ma_wp X (d - 1) (w - 21) 113 5 [(0, .inr (.inr (some c3))), (1, .inl i)] [.inl (1 : Int32)] S1 _
            refine zw_if0 hm_113 dX9_isReference_5 (t := 25) rfl zc0_eq (fun hc => absurd hc (by decide)) (fun _ => ?_)
            refine zw_push hm_113 dX9_isReference_8 (v := .inr (.inr (some c3))) rfl ?_
            obtain ⟨hg, h⟩ := h
            refine zw_gf hm_113 dX9_isReference_9 (v := .inr (.inl (mL S1 c3 3))) (zT_tis hS1 hg) (zT_tt hS1 hg) rfl f_9_19_9 rfl ?_
            refine zw_push hm_113 dX9_isReference_12 (v := .inl i) rfl ?_
            refine zw_stk hm_113 dX9_isReference_13 (st₉ := [.inr (.inl (((mL S1 c3 3).toUInt64 >>> (i.toInt64.toUInt64 &&& Int64.toUInt64 63)).toInt64))]) rfl rfl ?_
            refine zw_push hm_113 dX9_isReference_14 (v := .inr (.inl (1 : Int64))) rfl ?_
            refine zw_stk hm_113 dX9_isReference_15 (st₉ := [.inr (.inl ((((mL S1 c3 3).toUInt64 >>> (i.toInt64.toUInt64 &&& Int64.toUInt64 63)).toInt64) &&& (1 : Int64)))]) rfl rfl ?_
            refine zw_push hm_113 dX9_isReference_16 (v := .inr (.inl (0 : Int64))) rfl ?_
            refine zw_stk hm_113 dX9_isReference_17 (st₉ := [.inl (lg_cmp ((((mL S1 c3 3).toUInt64 >>> (i.toInt64.toUInt64 &&& Int64.toUInt64 63)).toInt64) &&& (1 : Int64)) (0 : Int64))]) rfl rfl ?_
            refine zw_if0 hm_113 dX9_isReference_18 (t := 25) rfl zc0_eq ?_ ?_
            · intro hc
              rw [if_pos hc] at h
              refine zw_push hm_113 dX9_isReference_25 (v := .inl (0 : Int32)) rfl ?_
              refine zw_bret hm_113 dX9_isReference_26 (by decide) ?_
              show ma_wp X d w 148 35 [(4, .inr (.inr (some c3))), (0, .inr (.inr (some 64))), (1, .inl o), (2, .inl i), (3, .inl x)] [.inl (0 : Int32)] S1 _
              refine zw_if0 hm_148 dX11_put_35 (t := 46) rfl zc0_eq (fun _ => ?_) (fun hc => absurd (by decide) hc)
              refine zw_push hm_148 dX11_put_46 (v := .inr (.inr (some 64))) rfl ?_
              refine zw_gf hm_148 dX11_put_47 (v := .inr (.inr (some 69))) (zT_is hS1 s_64) (zT_t hS1 s_64) rfl f_11_26_11 (zT_f hS1 r_64_8) ?_
              refine zw_push hm_148 dX11_put_50 (v := .inr (.inr (some c3))) rfl ?_
              refine zw_push hm_148 dX11_put_52 (v := .inl i) rfl ?_
              refine zw_push hm_148 dX11_put_53 (v := .inl x) rfl ?_
              refine zw_cv hm_148 dX11_put_54 v_11_138_7 hm_95 [.inl x, .inl i, .inr (.inr (some c3))] [] rfl (zT_rt hS1 s_69 rfl) ⟨by omega, by omega⟩ rfl (zw_mono h (zi_go ?_ ?_))
              · intro v9 S8 hv
                obtain ⟨hS8, h⟩ := hv
                exact zw_iret hm_148 dX11_put_57 h
              · intro x S9 hx
                exact ⟨by decide, hx⟩
            · intro hc
              rw [if_neg hc] at h
              refine zw_push hm_113 dX9_isReference_21 (v := .inl (1 : Int32)) rfl ?_
              refine zw_goto hm_113 dX9_isReference_22 (t := 26) rfl ?_
              refine zw_bret hm_113 dX9_isReference_26 (by decide) ?_
              show ma_wp X d w 148 35 [(4, .inr (.inr (some c3))), (0, .inr (.inr (some 64))), (1, .inl o), (2, .inl i), (3, .inl x)] [.inl (1 : Int32)] S1 _
              refine zw_if0 hm_148 dX11_put_35 (t := 46) rfl zc0_eq (fun hc => absurd hc (by decide)) (fun _ => ?_)
              exact zw_thr hm_148 dX11_put_38 dX11_put_41 dX11_put_42 dX11_put_45 x_11_135_137 n_11_135 (by omega) (by show 0 + 81 ≤ w; omega) h
  · intro x S9 hx
    exact ⟨by decide, hx⟩
theorem sp_148_64_sm_p82 {X : Nat × (Nat → Int32)} {d w : Nat} {f : Nat → Nat → Int32} {r : Nat → Nat → Option Nat} {C Z N : Nat} {Q : Option ma_V ⊕ Nat → ma_S → Prop} {ab : Nat→Nat→Int32} {fp82 : Nat→Int32} {fp83 : Nat→Int32} {S : ma_S} (o : Int32) (i : Int32) (x : Int32) (hd : 7 ≤ d) (hw : 111 ≤ w) (hI : zB f r C Z N S) (hr : r 64 11 = some 82) (hpre0 : xB S (mR S 70)) (hpre1 : aS 88 S = ab) (hpre2 : (mI S 82) = fp82) (hpre3 : (mI S 83) = fp83) (K : ∀ v S₉, zB f r C Z N S₉ → (True) → (xB S₉ (mR S₉ 70)) → (zRq ab o ∧ zHw ab o i ∧ ¬ zIr ab o i ∧ aS 88 S₉ = aCi ab o.toNatClampNeg i x ∧ v = aWo ab o.toNatClampNeg i) → ((mI S₉ 82) = fp82) → ((mI S₉ 83) = fp83) → Q (.inl (some (.inl v))) S₉) (KX : ∀ x S₉, (x = 1 ∨ x = 4 ∨ x = 5) → zB f r C Z N S₉ → (xB S₉ (mR S₉ 70)) → (aS 88 S₉ = ab) → ((x = 4 ∧ ¬ zRq ab o) ∨ (x = 1 ∧ zRq ab o ∧ ¬ zHw ab o i) ∨ (x = 5 ∧ zRq ab o ∧ zHw ab o i ∧ zIr ab o i)) → ((mI S₉ 82) = fp82) → ((mI S₉ 83) = fp83) → Q (.inr x) (ma_bump S₉)) : ma_wp X d w 148 0 [(0, .inr (.inr (some 64))), (1, .inl o), (2, .inl i), (3, .inl x)] [] S Q := by
  refine g_148_64_sm_p82_0 o i x (by omega) (by omega) (zG_T hI) ?_
  refine ⟨((zG_r hI (by decide)).trans hr), ?_⟩
  refine ⟨((zG_r hI (by decide)).trans hr), ?_⟩
  have b1 := i_bd o
  refine sp_149_64_s (R := (mR S 70)) (a7 := (aS 75 S)) (a8 := (aS 88 S)) (o) (by omega) (by omega) (zB_dn_zI hI) (show xB S (mR S 70) from by first | (exact (xC_o (W := 75) hpre0).2)) (show aS 75 S = (aS 75 S) from by first | (exact rfl)) (show aS 88 S = (aS 88 S) from by first | (exact rfl)) (fun v2 S1 hL_S1 hq_v2 rp0_S1 rp1_S1 rp2_S1 rp3_S1 => zo_n ⟨zG_T hL_S1, ?_⟩) (fun x S9 hx h9 rx0 rx1 rx2 => by have h9u := (zB_up_zI hI h9); exact zo_x (KX x S9 (by omega) h9u (show xB S9 (mR S9 70) from by first | (exact xB_x (xC_o (W := 75) rx0).2)) (show aS 88 S9 = ab from by first | (exact rx1.trans hpre1)) (show (x = 4 ∧ ¬ zRq ab o) ∨ (x = 1 ∧ zRq ab o ∧ ¬ zHw ab o i) ∨ (x = 5 ∧ zRq ab o ∧ zHw ab o i ∧ zIr ab o i) from by first | (exact Or.inl ⟨rx2.1, rq_no rx2.2 hpre1⟩)) (show (mI S9 82) = fp82 from by first | (exact ((show mI _ 82 = mI _ 82 from funext (fun _ => zG_z h9 rfl)).trans hpre2))) (show (mI S9 83) = fp83 from by first | (exact ((show mI _ 83 = mI _ 83 from funext (fun _ => zG_z h9 rfl)).trans hpre3)))))
  have hI_S1 := zB_up_zI hI hL_S1
  have rp0_S1 : xB S1 (mR S 70) := by
    have z := rp0_S1
    (try rw [show mI S 65 = f 65 from funext (fun k => zG_z hI rfl)] at z)
    (try rw [show mI S 64 1 = f 64 1 from zG_z hI rfl] at z)
    exact z
  have rp1_S1 : aS 88 S1 = (aS 88 S) := by
    have z := rp1_S1
    (try rw [show mI S 65 = f 65 from funext (fun k => zG_z hI rfl)] at z)
    (try rw [show mI S 64 1 = f 64 1 from zG_z hI rfl] at z)
    exact z
  have rp2_S1 : v2 = zTa (mR S 70) o := by
    have z := rp2_S1
    (try rw [show mI S 65 = f 65 from funext (fun k => zG_z hI rfl)] at z)
    (try rw [show mI S 64 1 = f 64 1 from zG_z hI rfl] at z)
    exact z
  have rp3_S1 : zRq (aS 75 S) o := by
    have z := rp3_S1
    (try rw [show mI S 65 = f 65 from funext (fun k => zG_z hI rfl)] at z)
    (try rw [show mI S 64 1 = f 64 1 from zG_z hI rfl] at z)
    exact z
  obtain ⟨c3, hc, th_c3⟩ := hq_v2
  have rg_c3 : zTa (mR S 70) o = some c3 := rp2_S1.symm.trans hc
  refine ⟨c3, hc, ?_⟩
  refine ⟨zG_n hI_S1 th_c3, ?_⟩
  have b2 := i_bd i
  have li3 : (0 : Int32).toInt = 0 := rfl
  refine zd (fun h4 => ?_) (fun h4 => ?_)
  · skip
    have g5 := i_lt h4
    exact KX 1 _ (by decide) hI_S1 (show xB S1 (mR S1 70) from by first | (exact xB_x (xC_o (W := 75) rp0_S1).2)) (show aS 88 S1 = ab from by first | (exact (xC_o (W := 88) rp0_S1).1.trans (rp1_S1.trans hpre1))) (show (1 = 4 ∧ ¬ zRq ab o) ∨ (1 = 1 ∧ zRq ab o ∧ ¬ zHw ab o i) ∨ (1 = 5 ∧ zRq ab o ∧ zHw ab o i ∧ zIr ab o i) from by first | (have ty := xB_th (W := 88) rp0_S1 rg_c3; have z2 := congrArg Int32.toInt ty.2.2.2.2.1; rw [(rp1_S1.trans hpre1)] at z2; exact Or.inr (Or.inl ⟨rfl, (rq_up rp3_S1 hpre1), fun w => by have w1 := w.1; have w2 := w.2; omega⟩))) (show (mI S1 82) = fp82 from by first | (exact ((show mI S1 82 = mI S 82 from funext (fun _ => zG_z hL_S1 rfl)).trans hpre2))) (show (mI S1 83) = fp83 from by first | (exact ((show mI S1 83 = mI S 83 from funext (fun _ => zG_z hL_S1 rfl)).trans hpre3)))
  · skip
    have g6 := i_nlt h4
    refine ⟨zG_n hI_S1 th_c3, ?_⟩
    have f7 := zG_th hI_S1 th_c3
    first | have e8 : ((mI S1 c3 2) - (1 : Int32)).toInt = (mI S1 c3 2).toInt - (1) := i_subk rfl (by omega) (by omega) | have b9 := i_bd ((mI S1 c3 2) - (1 : Int32))
    refine zd (fun h10 => ?_) (fun h10 => ?_)
    · skip
      have g11 := i_le h10
      exact KX 1 _ (by decide) hI_S1 (show xB S1 (mR S1 70) from by first | (exact xB_x (xC_o (W := 75) rp0_S1).2)) (show aS 88 S1 = ab from by first | (exact (xC_o (W := 88) rp0_S1).1.trans (rp1_S1.trans hpre1))) (show (1 = 4 ∧ ¬ zRq ab o) ∨ (1 = 1 ∧ zRq ab o ∧ ¬ zHw ab o i) ∨ (1 = 5 ∧ zRq ab o ∧ zHw ab o i ∧ zIr ab o i) from by first | (have ty := xB_th (W := 88) rp0_S1 rg_c3; have z2 := congrArg Int32.toInt ty.2.2.2.2.1; rw [(rp1_S1.trans hpre1)] at z2; exact Or.inr (Or.inl ⟨rfl, (rq_up rp3_S1 hpre1), fun w => by have w1 := w.1; have w2 := w.2; omega⟩))) (show (mI S1 82) = fp82 from by first | (exact ((show mI S1 82 = mI S 82 from funext (fun _ => zG_z hL_S1 rfl)).trans hpre2))) (show (mI S1 83) = fp83 from by first | (exact ((show mI S1 83 = mI S 83 from funext (fun _ => zG_z hL_S1 rfl)).trans hpre3)))
    · skip
      have g12 := i_nle h10
      refine ⟨zG_n hI_S1 th_c3, ?_⟩
      refine ⟨zG_n hI_S1 th_c3, ?_⟩
      refine zd (fun h13 => ?_) (fun h13 => ?_)
      · skip
        have g14 := i_lt h13
        have b15 := i_bd x
        refine sp_95_69_s (ab := (aS 88 S1)) (R := (mR S 70)) (W := 88) (y := (o)) c3 (i) (x) (by omega) (by omega) (zB_dn_zI hI_S1) th_c3 (show xB S1 (mR S 70) from by first | (exact (xC_o (W := 75) rp0_S1).2)) (show aS 88 S1 = (aS 88 S1) from by first | (exact rfl)) (show xW 88 from by first | (exact xW88) | (exact xW75)) (show zTa (mR S 70) (o) = some c3 from by first | (exact rg_c3)) (fun v5 S4 hL_S4 hp_v5 rp0_S4 rp1_S4 => zi_n ⟨zG_T hL_S4, ?_⟩)
        have hI_S4 := zB_up_zI hI_S1 hL_S4
        have rp0_S4 : xB S4 (mR S 70) := by
          have z := rp0_S4
          (try rw [show mI S1 65 = f 65 from funext (fun k => zG_z hI_S1 rfl)] at z)
          (try rw [show mI S1 64 1 = f 64 1 from zG_z hI_S1 rfl] at z)
          exact z
        have rp1_S4 : aS 88 S4 = aCi (aS 88 S1) (o).toNatClampNeg i x ∧ v5 = aWo (aS 88 S1) (o).toNatClampNeg i := by
          have z := rp1_S4
          (try rw [show mI S1 65 = f 65 from funext (fun k => zG_z hI_S1 rfl)] at z)
          (try rw [show mI S1 64 1 = f 64 1 from zG_z hI_S1 rfl] at z)
          exact z
        have b16 := i_bd v5
        exact K (v5) _ hI_S4 trivial (show xB S4 (mR S4 70) from by first | (exact xB_x (xC_o (W := 75) rp0_S4).2)) (show zRq ab o ∧ zHw ab o i ∧ ¬ zIr ab o i ∧ aS 88 S4 = aCi ab o.toNatClampNeg i x ∧ v5 = aWo ab o.toNatClampNeg i from by first | (exfalso; omega) | (have ty := xB_th (W := 88) rp0_S1 rg_c3; have z2 := congrArg Int32.toInt ty.2.2.2.2.1; rw [(rp1_S1.trans hpre1)] at z2; have ci := rp1_S4; rw [(rp1_S1.trans hpre1)] at ci; exact ⟨(rq_up rp3_S1 hpre1), ⟨by omega, by omega⟩, ir_n rp0_S1 rg_c3 (rp1_S1.trans hpre1) (by omega) (by assumption), ci.1, ci.2⟩)) (show (mI S4 82) = fp82 from by first | (exact ((show mI S4 82 = mI S1 82 from funext (fun _ => zG_z hL_S4 rfl)).trans ((show mI S1 82 = mI S 82 from funext (fun _ => zG_z hL_S1 rfl)).trans hpre2)))) (show (mI S4 83) = fp83 from by first | (exact ((show mI S4 83 = mI S1 83 from funext (fun _ => zG_z hL_S4 rfl)).trans ((show mI S1 83 = mI S 83 from funext (fun _ => zG_z hL_S1 rfl)).trans hpre3))))
      · skip
        have g17 := i_nlt h13
        refine ⟨zG_n hI_S1 th_c3, ?_⟩
        refine zd (fun h18 => ?_) (fun h18 => ?_)
        · skip
          have g19 := i_le h18
          have b20 := i_bd x
          refine sp_95_69_s (ab := (aS 88 S1)) (R := (mR S 70)) (W := 88) (y := (o)) c3 (i) (x) (by omega) (by omega) (zB_dn_zI hI_S1) th_c3 (show xB S1 (mR S 70) from by first | (exact (xC_o (W := 75) rp0_S1).2)) (show aS 88 S1 = (aS 88 S1) from by first | (exact rfl)) (show xW 88 from by first | (exact xW88) | (exact xW75)) (show zTa (mR S 70) (o) = some c3 from by first | (exact rg_c3)) (fun v7 S6 hL_S6 hp_v7 rp0_S6 rp1_S6 => zi_n ⟨zG_T hL_S6, ?_⟩)
          have hI_S6 := zB_up_zI hI_S1 hL_S6
          have rp0_S6 : xB S6 (mR S 70) := by
            have z := rp0_S6
            (try rw [show mI S1 65 = f 65 from funext (fun k => zG_z hI_S1 rfl)] at z)
            (try rw [show mI S1 64 1 = f 64 1 from zG_z hI_S1 rfl] at z)
            exact z
          have rp1_S6 : aS 88 S6 = aCi (aS 88 S1) (o).toNatClampNeg i x ∧ v7 = aWo (aS 88 S1) (o).toNatClampNeg i := by
            have z := rp1_S6
            (try rw [show mI S1 65 = f 65 from funext (fun k => zG_z hI_S1 rfl)] at z)
            (try rw [show mI S1 64 1 = f 64 1 from zG_z hI_S1 rfl] at z)
            exact z
          have b21 := i_bd v7
          exact K (v7) _ hI_S6 trivial (show xB S6 (mR S6 70) from by first | (exact xB_x (xC_o (W := 75) rp0_S6).2)) (show zRq ab o ∧ zHw ab o i ∧ ¬ zIr ab o i ∧ aS 88 S6 = aCi ab o.toNatClampNeg i x ∧ v7 = aWo ab o.toNatClampNeg i from by first | (exfalso; omega) | (have ty := xB_th (W := 88) rp0_S1 rg_c3; have z2 := congrArg Int32.toInt ty.2.2.2.2.1; rw [(rp1_S1.trans hpre1)] at z2; have ci := rp1_S6; rw [(rp1_S1.trans hpre1)] at ci; exact ⟨(rq_up rp3_S1 hpre1), ⟨by omega, by omega⟩, ir_n rp0_S1 rg_c3 (rp1_S1.trans hpre1) (by omega) (by assumption), ci.1, ci.2⟩)) (show (mI S6 82) = fp82 from by first | (exact ((show mI S6 82 = mI S1 82 from funext (fun _ => zG_z hL_S6 rfl)).trans ((show mI S1 82 = mI S 82 from funext (fun _ => zG_z hL_S1 rfl)).trans hpre2)))) (show (mI S6 83) = fp83 from by first | (exact ((show mI S6 83 = mI S1 83 from funext (fun _ => zG_z hL_S6 rfl)).trans ((show mI S1 83 = mI S 83 from funext (fun _ => zG_z hL_S1 rfl)).trans hpre3))))
        · skip
          have g22 := i_nle h18
          refine ⟨zG_n hI_S1 th_c3, ?_⟩
          have b23 := i_bd (lg_cmp ((((mL S1 c3 3).toUInt64 >>> (i.toInt64.toUInt64 &&& Int64.toUInt64 63)).toInt64) &&& (1 : Int64)) (0 : Int64))
          refine zd (fun h24 => ?_) (fun h24 => ?_)
          · skip
            have g25 := i_eq h24
            have b26 := i_bd x
            refine sp_95_69_s (ab := (aS 88 S1)) (R := (mR S 70)) (W := 88) (y := (o)) c3 (i) (x) (by omega) (by omega) (zB_dn_zI hI_S1) th_c3 (show xB S1 (mR S 70) from by first | (exact (xC_o (W := 75) rp0_S1).2)) (show aS 88 S1 = (aS 88 S1) from by first | (exact rfl)) (show xW 88 from by first | (exact xW88) | (exact xW75)) (show zTa (mR S 70) (o) = some c3 from by first | (exact rg_c3)) (fun v9 S8 hL_S8 hp_v9 rp0_S8 rp1_S8 => zi_n ⟨zG_T hL_S8, ?_⟩)
            have hI_S8 := zB_up_zI hI_S1 hL_S8
            have rp0_S8 : xB S8 (mR S 70) := by
              have z := rp0_S8
              (try rw [show mI S1 65 = f 65 from funext (fun k => zG_z hI_S1 rfl)] at z)
              (try rw [show mI S1 64 1 = f 64 1 from zG_z hI_S1 rfl] at z)
              exact z
            have rp1_S8 : aS 88 S8 = aCi (aS 88 S1) (o).toNatClampNeg i x ∧ v9 = aWo (aS 88 S1) (o).toNatClampNeg i := by
              have z := rp1_S8
              (try rw [show mI S1 65 = f 65 from funext (fun k => zG_z hI_S1 rfl)] at z)
              (try rw [show mI S1 64 1 = f 64 1 from zG_z hI_S1 rfl] at z)
              exact z
            have b27 := i_bd v9
            exact K (v9) _ hI_S8 trivial (show xB S8 (mR S8 70) from by first | (exact xB_x (xC_o (W := 75) rp0_S8).2)) (show zRq ab o ∧ zHw ab o i ∧ ¬ zIr ab o i ∧ aS 88 S8 = aCi ab o.toNatClampNeg i x ∧ v9 = aWo ab o.toNatClampNeg i from by first | (exfalso; omega) | (have ty := xB_th (W := 88) rp0_S1 rg_c3; have z2 := congrArg Int32.toInt ty.2.2.2.2.1; rw [(rp1_S1.trans hpre1)] at z2; have ci := rp1_S8; rw [(rp1_S1.trans hpre1)] at ci; exact ⟨(rq_up rp3_S1 hpre1), ⟨by omega, by omega⟩, ir_n rp0_S1 rg_c3 (rp1_S1.trans hpre1) (by omega) (by assumption), ci.1, ci.2⟩)) (show (mI S8 82) = fp82 from by first | (exact ((show mI S8 82 = mI S1 82 from funext (fun _ => zG_z hL_S8 rfl)).trans ((show mI S1 82 = mI S 82 from funext (fun _ => zG_z hL_S1 rfl)).trans hpre2)))) (show (mI S8 83) = fp83 from by first | (exact ((show mI S8 83 = mI S1 83 from funext (fun _ => zG_z hL_S8 rfl)).trans ((show mI S1 83 = mI S 83 from funext (fun _ => zG_z hL_S1 rfl)).trans hpre3))))
          · skip
            have g28 := i_ne h24
            exact KX 5 _ (by decide) hI_S1 (show xB S1 (mR S1 70) from by first | (exact xB_x (xC_o (W := 75) rp0_S1).2)) (show aS 88 S1 = ab from by first | (exact (xC_o (W := 88) rp0_S1).1.trans (rp1_S1.trans hpre1))) (show (5 = 4 ∧ ¬ zRq ab o) ∨ (5 = 1 ∧ zRq ab o ∧ ¬ zHw ab o i) ∨ (5 = 5 ∧ zRq ab o ∧ zHw ab o i ∧ zIr ab o i) from by first | (have ty := xB_th (W := 88) rp0_S1 rg_c3; have z2 := congrArg Int32.toInt ty.2.2.2.2.1; rw [(rp1_S1.trans hpre1)] at z2; exact Or.inr (Or.inr ⟨rfl, (rq_up rp3_S1 hpre1), ⟨by omega, by omega⟩, ir_y rp0_S1 rg_c3 (rp1_S1.trans hpre1) (by omega) (by assumption)⟩))) (show (mI S1 82) = fp82 from by first | (exact ((show mI S1 82 = mI S 82 from funext (fun _ => zG_z hL_S1 rfl)).trans hpre2))) (show (mI S1 83) = fp83 from by first | (exact ((show mI S1 83 = mI S 83 from funext (fun _ => zG_z hL_S1 rfl)).trans hpre3)))

/-! from 95.u33 -/
/-! AGES, the class (written by wip/tools/gen15y.py) -/
theorem g_152_64_sm_p82_0 {X : Nat × (Nat → Int32)} {d w : Nat} {S : ma_S} {Q : Option ma_V ⊕ Nat → ma_S → Prop} (o : Int32) (i : Int32) (hd : 7 ≤ d) (hw : 111 ≤ w) (hS : zT S) (h : mR S 64 11 = some 82 ∧ (mR S 64 11 = some 82 ∧ (ma_wp X (d - 1) (w - 22) 149 0 [(0, .inr (.inr (some 64))), (1, .inl o)] [] S (zo (fun v2 S1 => zT S1 ∧ ((∃ c3, v2 = some c3 ∧ ((126 ≤ c3 ∧ c3 < mN S1) ∧ (if i < 0 then (Q (.inr 1) (ma_bump S1)) else ((126 ≤ c3 ∧ c3 < mN S1) ∧ (if ((mI S1 c3 2) - (1 : Int32)) ≤ i then (Q (.inr 1) (ma_bump S1)) else (ma_wp X (d - 1) (w - 23) 96 0 [(0, .inr (.inr (some 69))), (1, .inr (.inr (some c3))), (2, .inl i)] [] S1 (zi (fun v5 S4 => zT S4 ∧ (Q (.inl (some (.inl v5))) S4)) (fun x S9 => Q (.inr x) S9)))))))))) (fun x S9 => Q (.inr x) S9))))) : ma_wp X d w 152 0 [(0, .inr (.inr (some 64))), (1, .inl o), (2, .inl i)] [] S Q := by
  refine zw_push hm_152 dX11_get_0 (v := .inr (.inr (some 64))) rfl ?_
  refine zw_cv hm_152 dX11_get_1 v_11_119_11 hm_144 [] [] rfl (zT_rt hS s_64 rfl) ⟨by omega, by omega⟩ rfl ?_
  show ma_wp X (d - 1) (w - 20) 144 0 [(0, .inr (.inr (some 64)))] [] S _
  refine zw_push hm_144 dX11_needCollector_0 (v := .inr (.inr (some 64))) rfl ?_
  obtain ⟨hg, h⟩ := h
  refine zw_gf hm_144 dX11_needCollector_1 (v := .inr (.inr (some 82))) (zT_is hS s_64) (zT_t hS s_64) rfl f_11_98_11 (congrArg (fun z => Sum.inr (Sum.inr z)) hg) ?_
  refine zw_ifnonnull hm_144 dX11_needCollector_4 (t := 15) rfl (fun z => by cases z) (fun _ _ => ?_)
  refine zw_push hm_144 dX11_needCollector_15 (v := .inr (.inr (some 64))) rfl ?_
  obtain ⟨hg, h⟩ := h
  refine zw_gf hm_144 dX11_needCollector_16 (v := .inr (.inr (some 82))) (zT_is hS s_64) (zT_t hS s_64) rfl f_11_98_11 (congrArg (fun z => Sum.inr (Sum.inr z)) hg) ?_
  refine zw_aret hm_144 dX11_needCollector_19 ?_
  show ma_wp X d w 152 4 [(0, .inr (.inr (some 64))), (1, .inl o), (2, .inl i)] [.inr (.inr (some 82))] S _
  refine zw_stk hm_152 dX11_get_4 (st₉ := []) rfl rfl ?_
  refine zw_push hm_152 dX11_get_5 (v := .inr (.inr (some 64))) rfl ?_
  refine zw_push hm_152 dX11_get_6 (v := .inl o) rfl ?_
  refine zw_cv hm_152 dX11_get_7 v_11_123_11 hm_149 [.inl o] [] rfl (zT_rt hS s_64 rfl) ⟨by omega, by omega⟩ rfl (zw_mono h (zo_go ?_ ?_))
  · intro v2 S1 hv
    obtain ⟨hS1, h⟩ := hv
    obtain ⟨c3, hc, h⟩ := h
    subst hc
    show ma_wp X d w 152 10 [(0, .inr (.inr (some 64))), (1, .inl o), (2, .inl i)] [.inr (.inr (some c3))] S1 _
    refine zw_sto hm_152 dX11_get_10 [(3, .inr (.inr (some c3))), (0, .inr (.inr (some 64))), (1, .inl o), (2, .inl i)] rfl rfl rfl ?_
    refine zw_push hm_152 dX11_get_11 (v := .inr (.inr (some c3))) rfl ?_
    refine zw_push hm_152 dX11_get_12 (v := .inl i) rfl ?_
    obtain ⟨hg, h⟩ := h
    refine zw_cv hm_152 dX11_get_13 v_11_127_9 hm_114 [.inl i] [] rfl (zT_trt hS1 hg) ⟨by omega, by omega⟩ rfl ?_
    show ma_wp X (d - 1) (w - 21) 114 0 [(0, .inr (.inr (some c3))), (1, .inl i)] [] S1 _
    refine zw_push hm_114 dX9_hasWord_0 (v := .inl i) rfl ?_
    refine zw_if0 hm_114 dX9_hasWord_1 (t := 18) rfl zc0_lt ?_ ?_
    · intro hc
      rw [if_pos hc] at h
      refine zw_push hm_114 dX9_hasWord_18 (v := .inl (0 : Int32)) rfl ?_
      refine zw_bret hm_114 dX9_hasWord_19 (by decide) ?_
      show ma_wp X d w 152 16 [(3, .inr (.inr (some c3))), (0, .inr (.inr (some 64))), (1, .inl o), (2, .inl i)] [.inl (0 : Int32)] S1 _
      refine zw_if0 hm_152 dX11_get_16 (t := 27) rfl zc0_ne (fun hc => absurd hc (by decide)) (fun _ => ?_)
      exact zw_thr hm_152 dX11_get_19 dX11_get_22 dX11_get_23 dX11_get_26 x_11_72_74 n_11_72 (by omega) (by show 0 + 81 ≤ w; omega) h
    · intro hc
      rw [if_neg hc] at h
      refine zw_push hm_114 dX9_hasWord_4 (v := .inl i) rfl ?_
      refine zw_push hm_114 dX9_hasWord_5 (v := .inr (.inr (some c3))) rfl ?_
      obtain ⟨hg, h⟩ := h
      refine zw_gf hm_114 dX9_hasWord_6 (v := .inl (mI S1 c3 2)) (zT_tis hS1 hg) (zT_tt hS1 hg) rfl f_9_16_9 rfl ?_
      refine zw_push hm_114 dX9_hasWord_9 (v := .inl (1 : Int32)) rfl ?_
      refine zw_stk hm_114 dX9_hasWord_10 (st₉ := [.inl ((mI S1 c3 2) - (1 : Int32)), .inl i]) rfl rfl ?_
      refine zw_if2 hm_114 dX9_hasWord_11 (t := 18) rfl zc2_ge ?_ ?_
      · intro hc
        rw [if_pos hc] at h
        refine zw_push hm_114 dX9_hasWord_18 (v := .inl (0 : Int32)) rfl ?_
        refine zw_bret hm_114 dX9_hasWord_19 (by decide) ?_
        show ma_wp X d w 152 16 [(3, .inr (.inr (some c3))), (0, .inr (.inr (some 64))), (1, .inl o), (2, .inl i)] [.inl (0 : Int32)] S1 _
        refine zw_if0 hm_152 dX11_get_16 (t := 27) rfl zc0_ne (fun hc => absurd hc (by decide)) (fun _ => ?_)
        exact zw_thr hm_152 dX11_get_19 dX11_get_22 dX11_get_23 dX11_get_26 x_11_72_74 n_11_72 (by omega) (by show 0 + 81 ≤ w; omega) h
      · intro hc
        rw [if_neg hc] at h
        refine zw_push hm_114 dX9_hasWord_14 (v := .inl (1 : Int32)) rfl ?_
        refine zw_goto hm_114 dX9_hasWord_15 (t := 19) rfl ?_
        refine zw_bret hm_114 dX9_hasWord_19 (by decide) ?_
        show ma_wp X d w 152 16 [(3, .inr (.inr (some c3))), (0, .inr (.inr (some 64))), (1, .inl o), (2, .inl i)] [.inl (1 : Int32)] S1 _
        refine zw_if0 hm_152 dX11_get_16 (t := 27) rfl zc0_ne (fun _ => ?_) (fun hc => absurd (by decide) hc)
        refine zw_push hm_152 dX11_get_27 (v := .inr (.inr (some 64))) rfl ?_
        refine zw_gf hm_152 dX11_get_28 (v := .inr (.inr (some 69))) (zT_is hS1 s_64) (zT_t hS1 s_64) rfl f_11_26_11 (zT_f hS1 r_64_8) ?_
        refine zw_push hm_152 dX11_get_31 (v := .inr (.inr (some c3))) rfl ?_
        refine zw_push hm_152 dX11_get_32 (v := .inl i) rfl ?_
        refine zw_cv hm_152 dX11_get_33 v_11_165_7 hm_96 [.inl i, .inr (.inr (some c3))] [] rfl (zT_rt hS1 s_69 rfl) ⟨by omega, by omega⟩ rfl (zw_mono h (zi_go ?_ ?_))
        · intro v5 S4 hv
          obtain ⟨hS4, h⟩ := hv
          exact zw_iret hm_152 dX11_get_36 h
        · intro x S9 hx
          exact ⟨by decide, hx⟩
  · intro x S9 hx
    exact ⟨by decide, hx⟩
theorem sp_152_64_sm_p82 {X : Nat × (Nat → Int32)} {d w : Nat} {f : Nat → Nat → Int32} {r : Nat → Nat → Option Nat} {C Z N : Nat} {Q : Option ma_V ⊕ Nat → ma_S → Prop} {ab : Nat→Nat→Int32} {fp82 : Nat→Int32} {fp83 : Nat→Int32} {S : ma_S} (o : Int32) (i : Int32) (hd : 7 ≤ d) (hw : 111 ≤ w) (hI : zB f r C Z N S) (hr : r 64 11 = some 82) (hpre0 : xB S (mR S 70)) (hpre1 : aS 88 S = ab) (hpre2 : (mI S 82) = fp82) (hpre3 : (mI S 83) = fp83) (K : ∀ v S₉, zB f r C Z N S₉ → (True) → (xB S₉ (mR S₉ 70)) → (zRq ab o ∧ zHw ab o i ∧ aS 88 S₉ = ab ∧ v = aWo ab o.toNatClampNeg i) → ((mI S₉ 82) = fp82) → ((mI S₉ 83) = fp83) → Q (.inl (some (.inl v))) S₉) (KX : ∀ x S₉, (x = 1 ∨ x = 4) → zB f r C Z N S₉ → (xB S₉ (mR S₉ 70)) → (aS 88 S₉ = ab) → ((x = 4 ∧ ¬ zRq ab o) ∨ (x = 1 ∧ zRq ab o ∧ ¬ zHw ab o i)) → ((mI S₉ 82) = fp82) → ((mI S₉ 83) = fp83) → Q (.inr x) (ma_bump S₉)) : ma_wp X d w 152 0 [(0, .inr (.inr (some 64))), (1, .inl o), (2, .inl i)] [] S Q := by
  refine g_152_64_sm_p82_0 o i (by omega) (by omega) (zG_T hI) ?_
  refine ⟨((zG_r hI (by decide)).trans hr), ?_⟩
  refine ⟨((zG_r hI (by decide)).trans hr), ?_⟩
  have b1 := i_bd o
  refine sp_149_64_s (R := (mR S 70)) (a7 := (aS 75 S)) (a8 := (aS 88 S)) (o) (by omega) (by omega) (zB_dn_zI hI) (show xB S (mR S 70) from by first | (exact (xC_o (W := 75) hpre0).2)) (show aS 75 S = (aS 75 S) from by first | (exact rfl)) (show aS 88 S = (aS 88 S) from by first | (exact rfl)) (fun v2 S1 hL_S1 hq_v2 rp0_S1 rp1_S1 rp2_S1 rp3_S1 => zo_n ⟨zG_T hL_S1, ?_⟩) (fun x S9 hx h9 rx0 rx1 rx2 => by have h9u := (zB_up_zI hI h9); exact zo_x (KX x S9 (by omega) h9u (show xB S9 (mR S9 70) from by first | (exact xB_x (xC_o (W := 75) rx0).2)) (show aS 88 S9 = ab from by first | (exact rx1.trans hpre1)) (show (x = 4 ∧ ¬ zRq ab o) ∨ (x = 1 ∧ zRq ab o ∧ ¬ zHw ab o i) from by first | (exact Or.inl ⟨rx2.1, rq_no rx2.2 hpre1⟩)) (show (mI S9 82) = fp82 from by first | (exact ((show mI _ 82 = mI _ 82 from funext (fun _ => zG_z h9 rfl)).trans hpre2))) (show (mI S9 83) = fp83 from by first | (exact ((show mI _ 83 = mI _ 83 from funext (fun _ => zG_z h9 rfl)).trans hpre3)))))
  have hI_S1 := zB_up_zI hI hL_S1
  have rp0_S1 : xB S1 (mR S 70) := by
    have z := rp0_S1
    (try rw [show mI S 65 = f 65 from funext (fun k => zG_z hI rfl)] at z)
    (try rw [show mI S 64 1 = f 64 1 from zG_z hI rfl] at z)
    exact z
  have rp1_S1 : aS 88 S1 = (aS 88 S) := by
    have z := rp1_S1
    (try rw [show mI S 65 = f 65 from funext (fun k => zG_z hI rfl)] at z)
    (try rw [show mI S 64 1 = f 64 1 from zG_z hI rfl] at z)
    exact z
  have rp2_S1 : v2 = zTa (mR S 70) o := by
    have z := rp2_S1
    (try rw [show mI S 65 = f 65 from funext (fun k => zG_z hI rfl)] at z)
    (try rw [show mI S 64 1 = f 64 1 from zG_z hI rfl] at z)
    exact z
  have rp3_S1 : zRq (aS 75 S) o := by
    have z := rp3_S1
    (try rw [show mI S 65 = f 65 from funext (fun k => zG_z hI rfl)] at z)
    (try rw [show mI S 64 1 = f 64 1 from zG_z hI rfl] at z)
    exact z
  obtain ⟨c3, hc, th_c3⟩ := hq_v2
  have rg_c3 : zTa (mR S 70) o = some c3 := rp2_S1.symm.trans hc
  refine ⟨c3, hc, ?_⟩
  refine ⟨zG_n hI_S1 th_c3, ?_⟩
  have b2 := i_bd i
  have li3 : (0 : Int32).toInt = 0 := rfl
  refine zd (fun h4 => ?_) (fun h4 => ?_)
  · skip
    have g5 := i_lt h4
    exact KX 1 _ (by decide) hI_S1 (show xB S1 (mR S1 70) from by first | (exact xB_x (xC_o (W := 75) rp0_S1).2)) (show aS 88 S1 = ab from by first | (exact (xC_o (W := 88) rp0_S1).1.trans (rp1_S1.trans hpre1))) (show (1 = 4 ∧ ¬ zRq ab o) ∨ (1 = 1 ∧ zRq ab o ∧ ¬ zHw ab o i) from by first | (have ty := xB_th (W := 88) rp0_S1 rg_c3; have z2 := congrArg Int32.toInt ty.2.2.2.2.1; rw [(rp1_S1.trans hpre1)] at z2; exact Or.inr ⟨rfl, (rq_up rp3_S1 hpre1), fun w => by have w1 := w.1; have w2 := w.2; omega⟩)) (show (mI S1 82) = fp82 from by first | (exact ((show mI S1 82 = mI S 82 from funext (fun _ => zG_z hL_S1 rfl)).trans hpre2))) (show (mI S1 83) = fp83 from by first | (exact ((show mI S1 83 = mI S 83 from funext (fun _ => zG_z hL_S1 rfl)).trans hpre3)))
  · skip
    have g6 := i_nlt h4
    refine ⟨zG_n hI_S1 th_c3, ?_⟩
    have f7 := zG_th hI_S1 th_c3
    first | have e8 : ((mI S1 c3 2) - (1 : Int32)).toInt = (mI S1 c3 2).toInt - (1) := i_subk rfl (by omega) (by omega) | have b9 := i_bd ((mI S1 c3 2) - (1 : Int32))
    refine zd (fun h10 => ?_) (fun h10 => ?_)
    · skip
      have g11 := i_le h10
      exact KX 1 _ (by decide) hI_S1 (show xB S1 (mR S1 70) from by first | (exact xB_x (xC_o (W := 75) rp0_S1).2)) (show aS 88 S1 = ab from by first | (exact (xC_o (W := 88) rp0_S1).1.trans (rp1_S1.trans hpre1))) (show (1 = 4 ∧ ¬ zRq ab o) ∨ (1 = 1 ∧ zRq ab o ∧ ¬ zHw ab o i) from by first | (have ty := xB_th (W := 88) rp0_S1 rg_c3; have z2 := congrArg Int32.toInt ty.2.2.2.2.1; rw [(rp1_S1.trans hpre1)] at z2; exact Or.inr ⟨rfl, (rq_up rp3_S1 hpre1), fun w => by have w1 := w.1; have w2 := w.2; omega⟩)) (show (mI S1 82) = fp82 from by first | (exact ((show mI S1 82 = mI S 82 from funext (fun _ => zG_z hL_S1 rfl)).trans hpre2))) (show (mI S1 83) = fp83 from by first | (exact ((show mI S1 83 = mI S 83 from funext (fun _ => zG_z hL_S1 rfl)).trans hpre3)))
    · skip
      have g12 := i_nle h10
      refine sp_96_69_s (ab := (aS 88 S1)) (R := (mR S 70)) (W := 88) (y := (o)) c3 (i) (by omega) (by omega) (zB_dn_zI hI_S1) th_c3 (show xB S1 (mR S 70) from by first | (exact (xC_o (W := 75) rp0_S1).2)) (show aS 88 S1 = (aS 88 S1) from by first | (exact rfl)) (show xW 88 from by first | (exact xW88) | (exact xW75)) (show zTa (mR S 70) (o) = some c3 from by first | (exact rg_c3)) (fun v5 S4 hL_S4 hp_v5 rp0_S4 rp1_S4 rp2_S4 => zi_n ⟨zG_T hL_S4, ?_⟩)
      have hI_S4 := zB_up_zI hI_S1 hL_S4
      have rp0_S4 : xB S4 (mR S 70) := by
        have z := rp0_S4
        (try rw [show mI S1 65 = f 65 from funext (fun k => zG_z hI_S1 rfl)] at z)
        (try rw [show mI S1 64 1 = f 64 1 from zG_z hI_S1 rfl] at z)
        exact z
      have rp1_S4 : aS 88 S4 = (aS 88 S1) := by
        have z := rp1_S4
        (try rw [show mI S1 65 = f 65 from funext (fun k => zG_z hI_S1 rfl)] at z)
        (try rw [show mI S1 64 1 = f 64 1 from zG_z hI_S1 rfl] at z)
        exact z
      have rp2_S4 : v5 = aWo (aS 88 S1) (o).toNatClampNeg i := by
        have z := rp2_S4
        (try rw [show mI S1 65 = f 65 from funext (fun k => zG_z hI_S1 rfl)] at z)
        (try rw [show mI S1 64 1 = f 64 1 from zG_z hI_S1 rfl] at z)
        exact z
      have b13 := i_bd v5
      exact K (v5) _ hI_S4 trivial (show xB S4 (mR S4 70) from by first | (exact xB_x (xC_o (W := 75) rp0_S4).2)) (show zRq ab o ∧ zHw ab o i ∧ aS 88 S4 = ab ∧ v5 = aWo ab o.toNatClampNeg i from by first | (exfalso; omega) | (have ty := xB_th (W := 88) rp0_S1 rg_c3; have z2 := congrArg Int32.toInt ty.2.2.2.2.1; rw [(rp1_S1.trans hpre1)] at z2; have wo := rp2_S4; rw [(rp1_S1.trans hpre1)] at wo; exact ⟨(rq_up rp3_S1 hpre1), ⟨by omega, by omega⟩, rp1_S4.trans (rp1_S1.trans hpre1), wo⟩)) (show (mI S4 82) = fp82 from by first | (exact ((show mI S4 82 = mI S1 82 from funext (fun _ => zG_z hL_S4 rfl)).trans ((show mI S1 82 = mI S 82 from funext (fun _ => zG_z hL_S1 rfl)).trans hpre2)))) (show (mI S4 83) = fp83 from by first | (exact ((show mI S4 83 = mI S1 83 from funext (fun _ => zG_z hL_S4 rfl)).trans ((show mI S1 83 = mI S 83 from funext (fun _ => zG_z hL_S1 rfl)).trans hpre3))))
theorem g_154_64_sm_p82_0 {X : Nat × (Nat → Int32)} {d w : Nat} {S : ma_S} {Q : Option ma_V ⊕ Nat → ma_S → Prop} (i : Int32) (o : Int32) (hd : 8 ≤ d) (hw : 132 ≤ w) (hS : zT S) (h : if i < 0 then (Q (.inr 2) (ma_bump S)) else (if (16 : Int32) ≤ i then (Q (.inr 2) (ma_bump S)) else (mR S 64 11 = some 82 ∧ (mR S 64 11 = some 82 ∧ (ma_wp X (d - 1) (w - 21) 151 0 [(0, .inr (.inr (some 64))), (1, .inl o)] [] S (zo (fun v2 S1 => zT S1 ∧ ((0 ≤ i ∧ i.toNatClampNeg < 16) ∧ ((v2 = none → (0 ≤ i ∧ i.toNatClampNeg < 16) ∧ (Q (.inl (some (.inl (mI S1 73 i.toNatClampNeg)))) (ma_put S1 73 i.toNatClampNeg (.inl (-1 : Int32))))) ∧ (∀ c3, v2 = some c3 → (126 ≤ c3 ∧ c3 < mN S1) ∧ ((0 ≤ i ∧ i.toNatClampNeg < 16) ∧ (Q (.inl (some (.inl (mI S1 73 i.toNatClampNeg)))) (ma_put S1 73 i.toNatClampNeg (.inl (mI S1 c3 0))))))))) (fun x S9 => Q (.inr x) S9))))))) : ma_wp X d w 154 0 [(0, .inr (.inr (some 64))), (1, .inl i), (2, .inl o)] [] S Q := by
  refine zw_push hm_154 dX11_weak_0 (v := .inl i) rfl ?_
  refine zw_cs hm_154 dX11_weak_1 pn_11_109 sl_11_109 hm_142 [.inl i] [] rfl ⟨by omega, by omega⟩ rfl ?_
  show ma_wp X (d - 1) (w - 20) 142 0 [(0, .inl i)] [] S _
  refine zw_push hm_142 dX11_isSlot_0 (v := .inl i) rfl ?_
  refine zw_if0 hm_142 dX11_isSlot_1 (t := 14) rfl zc0_lt ?_ ?_
  · intro hc
    rw [if_pos hc] at h
    refine zw_push hm_142 dX11_isSlot_14 (v := .inl (0 : Int32)) rfl ?_
    refine zw_bret hm_142 dX11_isSlot_15 (by decide) ?_
    show ma_wp X d w 154 4 [(0, .inr (.inr (some 64))), (1, .inl i), (2, .inl o)] [.inl (0 : Int32)] S _
    refine zw_if0 hm_154 dX11_weak_4 (t := 15) rfl zc0_ne (fun hc => absurd hc (by decide)) (fun _ => ?_)
    exact zw_thr hm_154 dX11_weak_7 dX11_weak_10 dX11_weak_11 dX11_weak_14 x_11_79_81 n_11_79 (by omega) (by show 0 + 81 ≤ w; omega) h
  · intro hc
    rw [if_neg hc] at h
    refine zw_push hm_142 dX11_isSlot_4 (v := .inl i) rfl ?_
    refine zw_push hm_142 dX11_isSlot_5 (v := .inl (16 : Int32)) rfl ?_
    refine zw_if2 hm_142 dX11_isSlot_7 (t := 14) rfl zc2_ge ?_ ?_
    · intro hc
      rw [if_pos hc] at h
      refine zw_push hm_142 dX11_isSlot_14 (v := .inl (0 : Int32)) rfl ?_
      refine zw_bret hm_142 dX11_isSlot_15 (by decide) ?_
      show ma_wp X d w 154 4 [(0, .inr (.inr (some 64))), (1, .inl i), (2, .inl o)] [.inl (0 : Int32)] S _
      refine zw_if0 hm_154 dX11_weak_4 (t := 15) rfl zc0_ne (fun hc => absurd hc (by decide)) (fun _ => ?_)
      exact zw_thr hm_154 dX11_weak_7 dX11_weak_10 dX11_weak_11 dX11_weak_14 x_11_79_81 n_11_79 (by omega) (by show 0 + 81 ≤ w; omega) h
    · intro hc
      rw [if_neg hc] at h
      refine zw_push hm_142 dX11_isSlot_10 (v := .inl (1 : Int32)) rfl ?_
      refine zw_goto hm_142 dX11_isSlot_11 (t := 15) rfl ?_
      refine zw_bret hm_142 dX11_isSlot_15 (by decide) ?_
      show ma_wp X d w 154 4 [(0, .inr (.inr (some 64))), (1, .inl i), (2, .inl o)] [.inl (1 : Int32)] S _
      refine zw_if0 hm_154 dX11_weak_4 (t := 15) rfl zc0_ne (fun _ => ?_) (fun hc => absurd (by decide) hc)
      refine zw_push hm_154 dX11_weak_15 (v := .inr (.inr (some 64))) rfl ?_
      refine zw_cv hm_154 dX11_weak_16 v_11_119_11 hm_144 [] [] rfl (zT_rt hS s_64 rfl) ⟨by omega, by omega⟩ rfl ?_
      show ma_wp X (d - 1) (w - 20) 144 0 [(0, .inr (.inr (some 64)))] [] S _
      refine zw_push hm_144 dX11_needCollector_0 (v := .inr (.inr (some 64))) rfl ?_
      obtain ⟨hg, h⟩ := h
      refine zw_gf hm_144 dX11_needCollector_1 (v := .inr (.inr (some 82))) (zT_is hS s_64) (zT_t hS s_64) rfl f_11_98_11 (congrArg (fun z => Sum.inr (Sum.inr z)) hg) ?_
      refine zw_ifnonnull hm_144 dX11_needCollector_4 (t := 15) rfl (fun z => by cases z) (fun _ _ => ?_)
      refine zw_push hm_144 dX11_needCollector_15 (v := .inr (.inr (some 64))) rfl ?_
      obtain ⟨hg, h⟩ := h
      refine zw_gf hm_144 dX11_needCollector_16 (v := .inr (.inr (some 82))) (zT_is hS s_64) (zT_t hS s_64) rfl f_11_98_11 (congrArg (fun z => Sum.inr (Sum.inr z)) hg) ?_
      refine zw_aret hm_144 dX11_needCollector_19 ?_
      show ma_wp X d w 154 19 [(0, .inr (.inr (some 64))), (1, .inl i), (2, .inl o)] [.inr (.inr (some 82))] S _
      refine zw_stk hm_154 dX11_weak_19 (st₉ := []) rfl rfl ?_
      refine zw_push hm_154 dX11_weak_20 (v := .inr (.inr (some 64))) rfl ?_
      refine zw_push hm_154 dX11_weak_21 (v := .inl o) rfl ?_
      refine zw_cv hm_154 dX11_weak_22 v_11_142_11 hm_151 [.inl o] [] rfl (zT_rt hS s_64 rfl) ⟨by omega, by omega⟩ rfl (zw_mono h (zo_go ?_ ?_))
      · intro v2 S1 hv
        obtain ⟨hS1, h⟩ := hv
        refine zw_sto hm_154 dX11_weak_25 [(3, .inr (.inr v2)), (0, .inr (.inr (some 64))), (1, .inl i), (2, .inl o)] rfl rfl rfl ?_
        refine zw_push hm_154 dX11_weak_26 (v := .inr (.inr (some 64))) rfl ?_
        refine zw_gf hm_154 dX11_weak_27 (v := .inr (.inr (some 69))) (zT_is hS1 s_64) (zT_t hS1 s_64) rfl f_11_26_11 (zT_f hS1 r_64_8) ?_
        refine zw_gf hm_154 dX11_weak_30 (v := .inr (.inr (some 73))) (zT_is hS1 s_69) (zT_t hS1 s_69) rfl f_11_173_7 (zT_f hS1 r_69_3) ?_
        refine zw_push hm_154 dX11_weak_33 (v := .inl i) rfl ?_
        obtain ⟨hg, h⟩ := h
        refine zw_ia hm_154 dX11_weak_34 (zT_is hS1 s_73) (zT_h hS1 s_73) rfl hg ?_
        show ma_wp X d w 154 35 [(3, .inr (.inr v2)), (0, .inr (.inr (some 64))), (1, .inl i), (2, .inl o)] [.inl (mI S1 73 i.toNatClampNeg)] S1 _
        refine zw_sto hm_154 dX11_weak_35 [(4, .inl (mI S1 73 i.toNatClampNeg)), (3, .inr (.inr v2)), (0, .inr (.inr (some 64))), (1, .inl i), (2, .inl o)] rfl rfl rfl ?_
        refine zw_push hm_154 dX11_weak_37 (v := .inr (.inr (some 64))) rfl ?_
        refine zw_gf hm_154 dX11_weak_38 (v := .inr (.inr (some 69))) (zT_is hS1 s_64) (zT_t hS1 s_64) rfl f_11_26_11 (zT_f hS1 r_64_8) ?_
        refine zw_gf hm_154 dX11_weak_41 (v := .inr (.inr (some 73))) (zT_is hS1 s_69) (zT_t hS1 s_69) rfl f_11_173_7 (zT_f hS1 r_69_3) ?_
        refine zw_push hm_154 dX11_weak_44 (v := .inl i) rfl ?_
        refine zw_push hm_154 dX11_weak_45 (v := .inr (.inr v2)) rfl ?_
        refine zw_cs hm_154 dX11_weak_46 pn_11_161 sl_11_161 hm_146 [.inr (.inr v2)] [.inl i, .inr (.inr (some 73))] rfl ⟨by omega, by omega⟩ rfl ?_
        show ma_wp X (d - 1) (w - 20) 146 0 [(0, .inr (.inr v2))] [] S1 _
        refine zw_push hm_146 dX11_numberOf_0 (v := .inr (.inr v2)) rfl ?_
        refine zw_ifnonnull hm_146 dX11_numberOf_1 (t := 8) rfl ?_ ?_
        · intro hc
          have h := h.1 hc
          (try rw [hc])
          show ma_wp X (d - 1) (w - 20) 146 4 [(0, .inr (.inr none))] [] S1 _
          refine zw_push hm_146 dX11_numberOf_4 (v := .inl (-1 : Int32)) rfl ?_
          refine zw_goto hm_146 dX11_numberOf_5 (t := 12) rfl ?_
          refine zw_iret hm_146 dX11_numberOf_12 ?_
          show ma_wp X d w 154 49 [(4, .inl (mI S1 73 i.toNatClampNeg)), (3, .inr (.inr none)), (0, .inr (.inr (some 64))), (1, .inl i), (2, .inl o)] [.inl (-1 : Int32), .inl i, .inr (.inr (some 73))] S1 _
          obtain ⟨hg, h⟩ := h
          refine zw_ias hm_154 dX11_weak_49 (zT_is hS1 s_73) (zT_h hS1 s_73) rfl hg ?_
          refine zw_push hm_154 dX11_weak_50 (v := .inl (mI S1 73 i.toNatClampNeg)) rfl ?_
          exact zw_iret hm_154 dX11_weak_52 h
        · intro c3 hc
          have h := h.2 c3 hc
          (try rw [hc])
          show ma_wp X (d - 1) (w - 20) 146 8 [(0, .inr (.inr (some c3)))] [] S1 _
          refine zw_push hm_146 dX11_numberOf_8 (v := .inr (.inr (some c3))) rfl ?_
          obtain ⟨hg, h⟩ := h
          refine zw_gf hm_146 dX11_numberOf_9 (v := .inl (mI S1 c3 0)) (zT_tis hS1 hg) (zT_tt hS1 hg) rfl f_11_182_9 rfl ?_
          refine zw_iret hm_146 dX11_numberOf_12 ?_
          show ma_wp X d w 154 49 [(4, .inl (mI S1 73 i.toNatClampNeg)), (3, .inr (.inr (some c3))), (0, .inr (.inr (some 64))), (1, .inl i), (2, .inl o)] [.inl (mI S1 c3 0), .inl i, .inr (.inr (some 73))] S1 _
          obtain ⟨hg, h⟩ := h
          refine zw_ias hm_154 dX11_weak_49 (zT_is hS1 s_73) (zT_h hS1 s_73) rfl hg ?_
          refine zw_push hm_154 dX11_weak_50 (v := .inl (mI S1 73 i.toNatClampNeg)) rfl ?_
          exact zw_iret hm_154 dX11_weak_52 h
      · intro x S9 hx
        exact ⟨by decide, hx⟩
theorem sp_154_64_sm_p82 {X : Nat × (Nat → Int32)} {d w : Nat} {f : Nat → Nat → Int32} {r : Nat → Nat → Option Nat} {C Z N : Nat} {Q : Option ma_V ⊕ Nat → ma_S → Prop} {ab : Nat→Nat→Int32} {fp82 : Nat→Int32} {fp83 : Nat→Int32} {S : ma_S} (i : Int32) (o : Int32) (hd : 8 ≤ d) (hw : 132 ≤ w) (hI : zB f r C Z N S) (hr : r 64 11 = some 82) (hpre0 : xB S (mR S 70)) (hpre1 : aS 88 S = ab) (hpre2 : (mI S 82) = fp82) (hpre3 : (mI S 83) = fp83) (K : ∀ v S₉, zB f r C Z N S₉ → (True) → (xB S₉ (mR S₉ 70)) → ((0 ≤ i.toInt ∧ i.toInt ≤ 15) ∧ (o = -1 ∨ zRq ab o) ∧ aS 88 S₉ = ma_u ab 73 i.toNatClampNeg (aNm ab o) ∧ v = ab 73 i.toNatClampNeg) → ((mI S₉ 82) = fp82) → ((mI S₉ 83) = fp83) → Q (.inl (some (.inl v))) S₉) (KX : ∀ x S₉, (x = 2 ∨ x = 4) → zB f r C Z N S₉ → (xB S₉ (mR S₉ 70)) → (aS 88 S₉ = ab) → ((x = 2 ∧ ¬ (0 ≤ i.toInt ∧ i.toInt ≤ 15)) ∨ ((0 ≤ i.toInt ∧ i.toInt ≤ 15) ∧ x = 4 ∧ o ≠ -1 ∧ ¬ zRq ab o)) → ((mI S₉ 82) = fp82) → ((mI S₉ 83) = fp83) → Q (.inr x) (ma_bump S₉)) : ma_wp X d w 154 0 [(0, .inr (.inr (some 64))), (1, .inl i), (2, .inl o)] [] S Q := by
  refine g_154_64_sm_p82_0 i o (by omega) (by omega) (zG_T hI) ?_
  have b1 := i_bd i
  have li2 : (0 : Int32).toInt = 0 := rfl
  refine zd (fun h3 => ?_) (fun h3 => ?_)
  · skip
    have g4 := i_lt h3
    exact KX 2 _ (by decide) hI (show xB S (mR S 70) from by first | (exact xB_x (xC_o (W := 75) hpre0).2)) (show aS 88 S = ab from by first | (exact (xC_o (W := 88) hpre0).1.trans hpre1)) (show (2 = 2 ∧ ¬ (0 ≤ i.toInt ∧ i.toInt ≤ 15)) ∨ ((0 ≤ i.toInt ∧ i.toInt ≤ 15) ∧ 2 = 4 ∧ o ≠ -1 ∧ ¬ zRq ab o) from by first | (exact Or.inl ⟨rfl, by omega⟩)) (show (mI S 82) = fp82 from by first | (exact hpre2)) (show (mI S 83) = fp83 from by first | (exact hpre3))
  · skip
    have g5 := i_nlt h3
    have li6 : (16 : Int32).toInt = 16 := rfl
    refine zd (fun h7 => ?_) (fun h7 => ?_)
    · skip
      have g8 := i_le h7
      exact KX 2 _ (by decide) hI (show xB S (mR S 70) from by first | (exact xB_x (xC_o (W := 75) hpre0).2)) (show aS 88 S = ab from by first | (exact (xC_o (W := 88) hpre0).1.trans hpre1)) (show (2 = 2 ∧ ¬ (0 ≤ i.toInt ∧ i.toInt ≤ 15)) ∨ ((0 ≤ i.toInt ∧ i.toInt ≤ 15) ∧ 2 = 4 ∧ o ≠ -1 ∧ ¬ zRq ab o) from by first | (exact Or.inl ⟨rfl, by omega⟩)) (show (mI S 82) = fp82 from by first | (exact hpre2)) (show (mI S 83) = fp83 from by first | (exact hpre3))
    · skip
      have g9 := i_nle h7
      refine ⟨((zG_r hI (by decide)).trans hr), ?_⟩
      refine ⟨((zG_r hI (by decide)).trans hr), ?_⟩
      have b10 := i_bd o
      refine sp_151_64_s (R := (mR S 70)) (a7 := (aS 75 S)) (a8 := (aS 88 S)) (o) (by omega) (by omega) (zB_dn_zI hI) (show xB S (mR S 70) from by first | (exact (xC_o (W := 75) hpre0).2)) (show aS 75 S = (aS 75 S) from by first | (exact rfl)) (show aS 88 S = (aS 88 S) from by first | (exact rfl)) (fun v2 S1 hL_S1 hq_v2 rp0_S1 rp1_S1 rp2_S1 rp3_S1 => zo_n ⟨zG_T hL_S1, ?_⟩) (fun x S9 hx h9 rx0 rx1 rx2 => by have h9u := (zB_up_zI hI h9); exact zo_x (KX x S9 (by omega) h9u (show xB S9 (mR S9 70) from by first | (exact xB_x (xC_o (W := 75) rx0).2)) (show aS 88 S9 = ab from by first | (exact rx1.trans hpre1)) (show (x = 2 ∧ ¬ (0 ≤ i.toInt ∧ i.toInt ≤ 15)) ∨ ((0 ≤ i.toInt ∧ i.toInt ≤ 15) ∧ x = 4 ∧ o ≠ -1 ∧ ¬ zRq ab o) from by first | (exact Or.inr ⟨⟨by omega, by omega⟩, ⟨rx2.1, rx2.2.1, rq_no rx2.2.2 hpre1⟩⟩)) (show (mI S9 82) = fp82 from by first | (exact ((show mI _ 82 = mI _ 82 from funext (fun _ => zG_z h9 rfl)).trans hpre2))) (show (mI S9 83) = fp83 from by first | (exact ((show mI _ 83 = mI _ 83 from funext (fun _ => zG_z h9 rfl)).trans hpre3)))))
      have hI_S1 := zB_up_zI hI hL_S1
      have rp0_S1 : xB S1 (mR S 70) := by
        have z := rp0_S1
        (try rw [show mI S 65 = f 65 from funext (fun k => zG_z hI rfl)] at z)
        (try rw [show mI S 64 1 = f 64 1 from zG_z hI rfl] at z)
        exact z
      have rp1_S1 : aS 88 S1 = (aS 88 S) := by
        have z := rp1_S1
        (try rw [show mI S 65 = f 65 from funext (fun k => zG_z hI rfl)] at z)
        (try rw [show mI S 64 1 = f 64 1 from zG_z hI rfl] at z)
        exact z
      have rp2_S1 : v2 = zTa (mR S 70) o := by
        have z := rp2_S1
        (try rw [show mI S 65 = f 65 from funext (fun k => zG_z hI rfl)] at z)
        (try rw [show mI S 64 1 = f 64 1 from zG_z hI rfl] at z)
        exact z
      have rp3_S1 : o = -1 ∨ zRq (aS 75 S) o := by
        have z := rp3_S1
        (try rw [show mI S 65 = f 65 from funext (fun k => zG_z hI rfl)] at z)
        (try rw [show mI S 64 1 = f 64 1 from zG_z hI rfl] at z)
        exact z
      refine ⟨i_ix (by omega) (by omega), ?_⟩
      refine ⟨fun hc => ?_, fun c3 hc => ?_⟩
      · skip
        have rn_c3 : zTa (mR S 70) o = none := rp2_S1.symm.trans hc
        refine ⟨i_ix (by omega) (by omega), ?_⟩
        have hI11 : zB f r C Z N (ma_put S1 73 i.toNatClampNeg (.inl (-1 : Int32))) := zG_fa hI_S1 rfl (by decide) (by decide) (by decide) (show zB_x (mI S1) from zG_x hI_S1)
        have b12 := i_bd (mI S1 73 i.toNatClampNeg)
        exact K ((mI S1 73 i.toNatClampNeg)) _ hI11 trivial (show xB (ma_put S1 73 i.toNatClampNeg (.inl (-1 : Int32))) (mR (ma_put S1 73 i.toNatClampNeg (.inl (-1 : Int32))) 70) from by first | (exact xB_x (xC_p (c := 73) (k := i.toNatClampNeg) (x := (-1 : Int32)) (xC_o (W := 75) rp0_S1) 73 xW75 rfl rfl).2)) (show (0 ≤ i.toInt ∧ i.toInt ≤ 15) ∧ (o = -1 ∨ zRq ab o) ∧ aS 88 (ma_put S1 73 i.toNatClampNeg (.inl (-1 : Int32))) = ma_u ab 73 i.toNatClampNeg (aNm ab o) ∧ (mI S1 73 i.toNatClampNeg) = ab 73 i.toNatClampNeg from by first | (exfalso; omega) | (skip; have nn := (nm_n (W := 88) rp0_S1 rn_c3); rw [(rp1_S1.trans hpre1)] at nn; refine ⟨⟨by omega, by omega⟩, (rp3_S1.imp id (fun w => rq_up w hpre1)), (xC_p (c := 73) (k := i.toNatClampNeg) (x := (-1 : Int32)) (xC_o (W := 88) rp0_S1) 73 xW88 rfl rfl).1.trans ?_, ?_⟩; (rw [(rp1_S1.trans hpre1), nn]); (rw [← (rp1_S1.trans hpre1), (aS_I (W := 88) (S := S1) (c := 73) (c₉ := 73) (k := i.toNatClampNeg) rfl rfl)]))) (show (mI (ma_put S1 73 i.toNatClampNeg (.inl (-1 : Int32))) 82) = fp82 from by first | (exact ((zr_n (P := 82) (c := 73) (by decide)).trans ((show mI S1 82 = mI S 82 from funext (fun _ => zG_z hL_S1 rfl)).trans hpre2)))) (show (mI (ma_put S1 73 i.toNatClampNeg (.inl (-1 : Int32))) 83) = fp83 from by first | (exact ((zr_n (P := 83) (c := 73) (by decide)).trans ((show mI S1 83 = mI S 83 from funext (fun _ => zG_z hL_S1 rfl)).trans hpre3))))
      · skip
        have th_c3 := hq_v2 c3 hc
        have rg_c3 : zTa (mR S 70) o = some c3 := rp2_S1.symm.trans hc
        subst hc
        refine ⟨zG_n hI_S1 th_c3, ?_⟩
        refine ⟨i_ix (by omega) (by omega), ?_⟩
        have hI13 : zB f r C Z N (ma_put S1 73 i.toNatClampNeg (.inl (mI S1 c3 0))) := zG_fa hI_S1 rfl (by decide) (by decide) (by decide) (show zB_x (mI S1) from zG_x hI_S1)
        have b14 := i_bd (mI S1 73 i.toNatClampNeg)
        exact K ((mI S1 73 i.toNatClampNeg)) _ hI13 trivial (show xB (ma_put S1 73 i.toNatClampNeg (.inl (mI S1 c3 0))) (mR (ma_put S1 73 i.toNatClampNeg (.inl (mI S1 c3 0))) 70) from by first | (exact xB_x (xC_p (c := 73) (k := i.toNatClampNeg) (x := (mI S1 c3 0)) (xC_o (W := 75) rp0_S1) 73 xW75 rfl rfl).2)) (show (0 ≤ i.toInt ∧ i.toInt ≤ 15) ∧ (o = -1 ∨ zRq ab o) ∧ aS 88 (ma_put S1 73 i.toNatClampNeg (.inl (mI S1 c3 0))) = ma_u ab 73 i.toNatClampNeg (aNm ab o) ∧ (mI S1 73 i.toNatClampNeg) = ab 73 i.toNatClampNeg from by first | (exfalso; omega) | (have tn := (xB_th (W := 88) rp0_S1 rg_c3).2.2.1; have nn := (nm_y (W := 88) rp0_S1 rg_c3); rw [(rp1_S1.trans hpre1)] at nn; refine ⟨⟨by omega, by omega⟩, (rp3_S1.imp id (fun w => rq_up w hpre1)), (xC_p (c := 73) (k := i.toNatClampNeg) (x := (mI S1 c3 0)) (xC_o (W := 88) rp0_S1) 73 xW88 rfl rfl).1.trans ?_, ?_⟩; (rw [(rp1_S1.trans hpre1), nn]; rw [tn]); (rw [← (rp1_S1.trans hpre1), (aS_I (W := 88) (S := S1) (c := 73) (c₉ := 73) (k := i.toNatClampNeg) rfl rfl)]))) (show (mI (ma_put S1 73 i.toNatClampNeg (.inl (mI S1 c3 0))) 82) = fp82 from by first | (exact ((zr_n (P := 82) (c := 73) (by decide)).trans ((show mI S1 82 = mI S 82 from funext (fun _ => zG_z hL_S1 rfl)).trans hpre2)))) (show (mI (ma_put S1 73 i.toNatClampNeg (.inl (mI S1 c3 0))) 83) = fp83 from by first | (exact ((zr_n (P := 83) (c := 73) (by decide)).trans ((show mI S1 83 = mI S 83 from funext (fun _ => zG_z hL_S1 rfl)).trans hpre3))))

