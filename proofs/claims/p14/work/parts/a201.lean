/-! from 95.o11 -/
/-! the reference under COUNTS (written by wip/tools/gen20s.py) -/
set_option maxHeartbeats 8000000 in
theorem lp_247r4_207 {X : Nat × (Nat → Int32)} {P : Option ma_V → (Nat → Nat → Int32) → Prop} {T : Nat} {aa : Nat→Nat→Int32} {B : Int} {ob : Int32} {ix : Int32} {oo : Int32} {m0 : Nat → Nat → Int32} (h0 : zV m0) (K : ∀ v m₉, zF wr_247 m0 m₉ → zV m₉ → (zW (m₉ 94 7) (m₉ 98) (m₉ 101) (m₉ 102) (m₉ 108)) → (zGW T (m₉ 94 55) (m₉ 109)) → (zGU T (m₉ 94 46) (m₉ 99)) → (zOw (m₉ 99) (m₉ 103) (m₉ 111)) → (zGG (m₉ 94 58) (m₉ 94 56) (m₉ 94 57) (m₉ 106)) → ((m₉ 94 45).toInt = sm (zbU (m₉ 99)) (m₉ 102) 3100) → (qRB (m₉ 99) (m₉ 100) (m₉ 98) (m₉ 101) (m₉ 102) (m₉ 103) (m₉ 107) (m₉ 108) (m₉ 109) (m₉ 111) (m₉ 112) (m₉ 113) (m₉ 114) (m₉ 94 55) (m₉ 94 46) (m₉ 94 11) (m₉ 94 12) (m₉ 94 62) (m₉ 94 17) (m₉ 94 9) (kLi aa ob ix oo)) → (qI (kLi aa ob ix oo)) → ((kLi aa ob ix oo) 87 8 = (m₉ 94 58)) → (cV (kLi aa ob ix oo) [] B) → (qCt (m₉ 105) (m₉ 99) (m₉ 100) (kLi aa ob ix oo) [] (-1) (-1)) → P (some (.inl v)) m₉) : ∀ (n : Nat) (m : Nat → Nat → Int32) (l6 : Int32) (l7 : Int32) (l8 : Int32), ((0 : Int)).toNat = n → zF wr_247 m0 m → zV m → (-1 ≤ l6.toInt) → (l6.toInt ≤ 3099) → (-1 ≤ l7.toInt) → (l7.toInt ≤ 3099) → (B ≤ 1000000) → (T ≤ 512) → (zW (m 94 7) (m 98) (m 101) (m 102) (m 108)) → (zGW T (m 94 55) (m 109)) → (zGU T (m 94 46) (m 99)) → (zOw (m 99) (m 103) (m 111)) → (zGG (m 94 58) (m 94 56) (m 94 57) (m 106)) → ((m 94 10).toInt = 4 ∧ (m 94 58).toInt = 0) → ((m 94 8).toInt = 1) → (qRB (m 99) (m 100) (m 98) (m 101) (m 102) (m 103) (m 107) (m 108) (m 109) (m 111) (m 112) (m 113) (m 114) (m 94 55) (m 94 46) (m 94 11) (m 94 12) (m 94 62) (m 94 17) (m 94 9) (aCi aa ob.toNatClampNeg ix (qNo (m 100) l6))) → (qI (aCi aa ob.toNatClampNeg ix (qNo (m 100) l6))) → ((aCi aa ob.toNatClampNeg ix (qNo (m 100) l6)) 87 8 = (m 94 58)) → ((m 94 45).toInt = sm (zbU (m 99)) (m 102) 3100) → (cV (aCi aa ob.toNatClampNeg ix (qNo (m 100) l6)) [] B) → (qCt (m 105) (m 99) (m 100) (aCi aa ob.toNatClampNeg ix (qNo (m 100) l6)) [] (-1) (qNo (m 100) l7)) → (kLi aa ob ix oo = cLe (aCi aa ob.toNatClampNeg ix (qNo (m 100) l6)) (qNo (m 100) l7)) → (qU (m 99) l7) → (qU (m 99) l6) → zm X 5 109 247 207 [(0, .inr (.inr (some 94))), (6, .inl l6), (7, .inl l7), (8, .inl l8)] m P := by
  intro n
  induction n using Nat.strongRecOn with
  | _ n IH =>
    intro m l6 l7 l8 hmu hF hV hi0 hi1 hi2 hi3 hi4 hi5 r_W r_GW r_GU r_OW r_GG hi11 hi12 r_RB r_QI r_MK r_WTS r_VV r_CT r_LIq r_UVl r_UTl
    refine g_247_207 l6 l7 l8 ?_
    have f1 : 0 ≤ (m 94 10).toInt ∧ (m 94 10).toInt ≤ 6 := rs_94_10 (m := m) hV
    have f2 : 0 ≤ (m 94 58).toInt ∧ (m 94 58).toInt ≤ 1 := rs_94_58 (m := m) hV
    have f3 : 0 ≤ (m 94 8).toInt ∧ (m 94 8).toInt ≤ 1 := rs_94_8 (m := m) hV
    have b4 := i_bd l7
    have b5 := i_bd l6
    refine sp_240r4 (l7) (l6) hV (show (m 94 10).toInt = 4 ∧ (m 94 58).toInt = 0 from by omega) (fun m1 hV_m1  => zmv_n ?_)
    refine sp_241r4 (aa := (aCi aa ob.toNatClampNeg ix (qNo (m 100) l6))) (x := (-1 : Int32)) (l7) hV_m1 (by omega) (by omega) (by omega) (by omega) (show (m 94 10).toInt = 4 ∧ (m 94 58).toInt = 0 from by omega) r_W r_GW r_GU r_OW r_RB r_QI r_MK r_WTS r_VV (show qCt (m 105) (m 99) (m 100) (aCi aa ob.toNatClampNeg ix (qNo (m 100) l6)) [] (-1 : Int32) (qNo (m 100) l7) from by first | (exact r_CT) | (exfalso; omega; done) | (exfalso; contradiction; done)) (show qU (m 99) l7 from by first | (exact r_UVl) | (assumption; done) | (exact ow5.1) | (exact ow3.1) | (exfalso; omega; done) | (exfalso; contradiction; done)) (show qXr (aCi aa ob.toNatClampNeg ix (qNo (m 100) l6)) (-1 : Int32) from by first | (exact Xr_m1) | (exfalso; omega; done) | (exfalso; contradiction; done)) (fun m3 hV_m3 p0_m3 p1_m3 p2_m3 p3_m3 p4_m3 p5_m3 p6_m3 p7_m3 p8_m3 p9_m3 => zmv_n ?_)
    have p0_m3 : zGW T (m3 94 55) (m3 109) := p0_m3
    have p1_m3 : zGU T (m 94 46) (m3 99) := p1_m3
    have p2_m3 : zOw (m3 99) (m 103) (m3 111) := p2_m3
    have p3_m3 : (m3 94 45).toInt = sm (zbU (m3 99)) (m 102) 3100 := p3_m3
    have p4_m3 : qRB (m3 99) (m 100) (m 98) (m 101) (m 102) (m 103) (m 107) (m 108) (m3 109) (m3 111) (m 112) (m3 113) (m3 114) (m3 94 55) (m 94 46) (m 94 11) (m 94 12) (m 94 62) (m 94 17) (m 94 9) (cLe (aCi aa ob.toNatClampNeg ix (qNo (m 100) l6)) (qNo (m 100) l7)) := p4_m3
    have p5_m3 : qI (cLe (aCi aa ob.toNatClampNeg ix (qNo (m 100) l6)) (qNo (m 100) l7)) := p5_m3
    have p6_m3 : (cLe (aCi aa ob.toNatClampNeg ix (qNo (m 100) l6)) (qNo (m 100) l7)) 87 8 = (m 94 58) := p6_m3
    have p7_m3 : cV (cLe (aCi aa ob.toNatClampNeg ix (qNo (m 100) l6)) (qNo (m 100) l7)) [] B := p7_m3
    have p8_m3 : qCt (m3 105) (m3 99) (m 100) (cLe (aCi aa ob.toNatClampNeg ix (qNo (m 100) l6)) (qNo (m 100) l7)) [] (-1 : Int32) (-1) := p8_m3
    have p9_m3 : qXr (cLe (aCi aa ob.toNatClampNeg ix (qNo (m 100) l6)) (qNo (m 100) l7)) (-1 : Int32) := p9_m3
    try have w60 := (ra_102 hV (k := l4.toNatClampNeg) (by omega)).2
    have b6 := i_bd l8
    exact K (l8) _ (zF_zov (zF_zov hF ws_240_247) ws_241_247) hV_m3 r_W p0_m3 p1_m3 p2_m3 (show zGG (m 94 58) (m1 94 56) (m 94 57) (m1 106) from by first | (exact r_GG) | (exact fun z => absurd z (by omega)) | (exact fun z => absurd z (by decide)) | (exact fun z => absurd z (by omega)) | (exfalso; omega; done) | (exfalso; contradiction; done)) p3_m3 (show qRB (m3 99) (m 100) (m 98) (m 101) (m 102) (m 103) (m 107) (m 108) (m3 109) (m3 111) (m 112) (m3 113) (m3 114) (m3 94 55) (m 94 46) (m 94 11) (m 94 12) (m 94 62) (m 94 17) (m 94 9) (kLi aa ob ix oo) from by first | (rw [r_LIq]; exact p4_m3; done) | (exfalso; omega; done) | (exfalso; contradiction; done)) (show qI (kLi aa ob ix oo) from by first | (rw [r_LIq]; exact p5_m3; done) | (exfalso; omega; done) | (exfalso; contradiction; done)) (show (kLi aa ob ix oo) 87 8 = (m 94 58) from by first | (rw [r_LIq]; exact p6_m3; done) | (exfalso; omega; done) | (exfalso; contradiction; done)) (show cV (kLi aa ob ix oo) [] B from by first | (rw [r_LIq]; exact p7_m3; done) | (exfalso; omega; done) | (exfalso; contradiction; done)) (show qCt (m3 105) (m3 99) (m 100) (kLi aa ob ix oo) [] (-1) (-1) from by first | (rw [r_LIq]; exact p8_m3; done) | (exfalso; omega; done) | (exfalso; contradiction; done))
set_option maxHeartbeats 8000000 in
theorem lp_247r4_149 {X : Nat × (Nat → Int32)} {P : Option ma_V → (Nat → Nat → Int32) → Prop} {T : Nat} {aa : Nat→Nat→Int32} {B : Int} {ob : Int32} {ix : Int32} {oo : Int32} {m0 : Nat → Nat → Int32} (h0 : zV m0) (K : ∀ v m₉, zF wr_247 m0 m₉ → zV m₉ → (zW (m₉ 94 7) (m₉ 98) (m₉ 101) (m₉ 102) (m₉ 108)) → (zGW T (m₉ 94 55) (m₉ 109)) → (zGU T (m₉ 94 46) (m₉ 99)) → (zOw (m₉ 99) (m₉ 103) (m₉ 111)) → (zGG (m₉ 94 58) (m₉ 94 56) (m₉ 94 57) (m₉ 106)) → ((m₉ 94 45).toInt = sm (zbU (m₉ 99)) (m₉ 102) 3100) → (qRB (m₉ 99) (m₉ 100) (m₉ 98) (m₉ 101) (m₉ 102) (m₉ 103) (m₉ 107) (m₉ 108) (m₉ 109) (m₉ 111) (m₉ 112) (m₉ 113) (m₉ 114) (m₉ 94 55) (m₉ 94 46) (m₉ 94 11) (m₉ 94 12) (m₉ 94 62) (m₉ 94 17) (m₉ 94 9) (kLi aa ob ix oo)) → (qI (kLi aa ob ix oo)) → ((kLi aa ob ix oo) 87 8 = (m₉ 94 58)) → (cV (kLi aa ob ix oo) [] B) → (qCt (m₉ 105) (m₉ 99) (m₉ 100) (kLi aa ob ix oo) [] (-1) (-1)) → P (some (.inl v)) m₉) : ∀ (n : Nat) (m : Nat → Nat → Int32) (l2 : Int32) (l4 : Int32) (l6 : Int32) (l7 : Int32) (l8 : Int32), ((0 : Int)).toNat = n → zF wr_247 m0 m → zV m → (0 ≤ l4.toInt) → (l4.toInt ≤ 3099) → (0 ≤ l2.toInt) → (l2.toInt < (m 102 l4.toNatClampNeg).toInt) → ((m 101) l4.toNatClampNeg = 16 ∨ ((m 101) l4.toNatClampNeg < 16 ∧ (((m 98) ((m 101) l4.toNatClampNeg).toNatClampNeg >>> (l2 &&& 31)) &&& 1) = 1)) → (-1 ≤ l6.toInt) → (l6.toInt ≤ 3099) → (-1 ≤ l7.toInt) → (l7.toInt ≤ 3099) → (B ≤ 1000000) → (T ≤ 512) → (zW (m 94 7) (m 98) (m 101) (m 102) (m 108)) → (zGW T (m 94 55) (m 109)) → (zGU T (m 94 46) (m 99)) → (zOw (m 99) (m 103) (m 111)) → (zGG (m 94 58) (m 94 56) (m 94 57) (m 106)) → ((m 94 10).toInt = 4 ∧ (m 94 58).toInt = 0) → ((m 94 8).toInt = 1) → (qRB (m 99) (m 100) (m 98) (m 101) (m 102) (m 103) (m 107) (m 108) (m 109) (m 111) (m 112) (m 113) (m 114) (m 94 55) (m 94 46) (m 94 11) (m 94 12) (m 94 62) (m 94 17) (m 94 9) aa) → (qI aa) → (aa 87 8 = (m 94 58)) → ((m 94 45).toInt = sm (zbU (m 99)) (m 102) 3100) → (cV aa [] B) → (qCt (m 105) (m 99) (m 100) aa [] (-1) (qNo (m 100) l6)) → (l2 = ix) → (qRe (m 99) (m 100) aa ob l4) → (qAs (m 99) (m 100) aa oo l6) → (l7 = (m 108) (l4 * (60 : Int32) + l2).toNatClampNeg) → zm X 5 109 247 149 [(0, .inr (.inr (some 94))), (2, .inl l2), (4, .inl l4), (6, .inl l6), (7, .inl l7), (8, .inl l8)] m P := by
  intro n
  induction n using Nat.strongRecOn with
  | _ n IH =>
    intro m l2 l4 l6 l7 l8 hmu hF hV hi0 hi1 hi2 hi3 r_ISR hi5 hi6 hi7 hi8 hi9 hi10 r_W r_GW r_GU r_OW r_GG hi16 hi17 r_RB r_QI r_MK r_WTS r_VV r_CT r_L2e r_REl r_ASl r_L7e
    refine g_247_149 l2 l4 l6 l7 l8 ?_
    have b1 := i_bd l4
    first | have f2 : 0 ≤ (m 102 l4.toNatClampNeg).toInt ∧ (m 102 l4.toNatClampNeg).toInt ≤ 60 := ra_102 (m := m) hV (k := l4.toNatClampNeg) (i_ix (n := 3100) (by omega) (by omega)).2 | have b3 := i_bd (m 102 l4.toNatClampNeg)
    have f4 : 0 ≤ (m 94 10).toInt ∧ (m 94 10).toInt ≤ 6 := rs_94_10 (m := m) hV
    have f5 : 0 ≤ (m 94 58).toInt ∧ (m 94 58).toInt ≤ 1 := rs_94_58 (m := m) hV
    have f6 : 0 ≤ (m 94 8).toInt ∧ (m 94 8).toInt ≤ 1 := rs_94_8 (m := m) hV
    have li7 : (60 : Int32).toInt = 60 := rfl
    first | have e8 : (l4 * (60 : Int32)).toInt = l4.toInt * 60 := i_mulk rfl (by omega) (by omega) | have b9 := i_bd (l4 * (60 : Int32))
    have b10 := i_bd l2
    first | have e11 : ((l4 * (60 : Int32)) + l2).toInt = (l4 * (60 : Int32)).toInt + l2.toInt := i_add (by omega) (by omega) | have b12 := i_bd ((l4 * (60 : Int32)) + l2)
    have hg13 : (0 ≤ ((l4 * (60 : Int32)) + l2) ∧ ((l4 * (60 : Int32)) + l2).toNatClampNeg < 186000) := i_ix (by omega) (by omega)
    refine ⟨hg13, ?_⟩
    have li14 : (3 : Int32).toInt = 3 := rfl
    refine zd (fun (h15 : (m 94 10) = (3 : Int32)) => ?_) (fun (h15 : ¬ (m 94 10) = (3 : Int32)) => ?_)
    · skip
      have g16 := i_eq h15
      exfalso; omega
    · skip
      have g17 := i_ne h15
      try have w60 := (ra_102 hV (k := l4.toNatClampNeg) (by omega)).2
      try have ww := W_isr r_W (s := l4) (i := l2) (by omega) (by omega) (by omega) (by omega) (by omega) r_ISR
      have hV18 : zV (ma_u m 108 ((l4 * (60 : Int32)) + l2).toNatClampNeg l6) := ua_108 hV
      have b19 := i_bd l6
      have b20 := i_bd l7
      have b21 := i_bd l8
      exact lp_247r4_207 (ob := ob) (ix := ix) (oo := oo) h0 K _ _ (l6) (l7) (l8) rfl (zF_u hF rfl) hV18 (by omega) (by omega) (by omega) (by omega) (by omega) (by omega) (show zW (m 94 7) (m 98) (m 101) (m 102) ((ma_u m 108 ((l4 * (60 : Int32)) + l2).toNatClampNeg l6) 108) from by first | (exact W_link r_W (by omega) (by omega) (fun s2 i2 hs2 hi2 => zrf_link (s := l4) (i := l2) (by omega) (by omega) (by omega) (by omega) r_ISR s2 i2 (by have := (ra_102 hV hs2).2; omega))) | (exfalso; omega; done) | (exfalso; contradiction; done)) r_GW r_GU r_OW r_GG (show (m 94 10).toInt = 4 ∧ (m 94 58).toInt = 0 from by omega) (show (m 94 8).toInt = 1 from by omega) (show qRB (m 99) (m 100) (m 98) (m 101) (m 102) (m 103) (m 107) ((ma_u m 108 ((l4 * (60 : Int32)) + l2).toNatClampNeg l6) 108) (m 109) (m 111) (m 112) (m 113) (m 114) (m 94 55) (m 94 46) (m 94 11) (m 94 12) (m 94 62) (m 94 17) (m 94 9) (aCi aa ob.toNatClampNeg ix (qNo (m 100) l6)) from by first | (rw [← r_L2e]; exact (RB_li r_RB r_QI (s := l4) (by omega) (by omega) (Re_y r_REl (by omega)).2.1 (i := l2) (by omega) (by omega) r_ISR (Re_y r_REl (by omega)).2.2.1 (As_u r_ASl)).1; done) | (exfalso; omega; done) | (exfalso; contradiction; done)) (show qI (aCi aa ob.toNatClampNeg ix (qNo (m 100) l6)) from by first | (rw [← r_L2e, Ci_eq r_QI (RB_li r_RB r_QI (s := l4) (by omega) (by omega) (Re_y r_REl (by omega)).2.1 (i := l2) (by omega) (by omega) r_ISR (Re_y r_REl (by omega)).2.2.1 (As_u r_ASl)).2.2.1]; exact I_w r_QI (RB_li r_RB r_QI (s := l4) (by omega) (by omega) (Re_y r_REl (by omega)).2.1 (i := l2) (by omega) (by omega) r_ISR (Re_y r_REl (by omega)).2.2.1 (As_u r_ASl)).2.2.1; done) | (exfalso; omega; done) | (exfalso; contradiction; done)) (show (aCi aa ob.toNatClampNeg ix (qNo (m 100) l6)) 87 8 = (m 94 58) from by first | (rw [← r_L2e, Ci_eq r_QI (RB_li r_RB r_QI (s := l4) (by omega) (by omega) (Re_y r_REl (by omega)).2.1 (i := l2) (by omega) (by omega) r_ISR (Re_y r_REl (by omega)).2.2.1 (As_u r_ASl)).2.2.1, un (by decide)]; exact r_MK; done) | (exfalso; omega; done) | (exfalso; contradiction; done)) r_WTS (show cV (aCi aa ob.toNatClampNeg ix (qNo (m 100) l6)) [] B from by first | (rw [← r_L2e]; exact V_li4 r_VV r_RB.1 (RB_li r_RB r_QI (s := l4) (by omega) (by omega) (Re_y r_REl (by omega)).2.1 (i := l2) (by omega) (by omega) r_ISR (Re_y r_REl (by omega)).2.2.1 (As_u r_ASl)).2.2.1 (RB_li r_RB r_QI (s := l4) (by omega) (by omega) (Re_y r_REl (by omega)).2.1 (i := l2) (by omega) (by omega) r_ISR (Re_y r_REl (by omega)).2.2.1 (As_u r_ASl)).2.1 (As_u r_ASl); done) | (exfalso; omega; done) | (exfalso; contradiction; done)) (show qCt (m 105) (m 99) (m 100) (aCi aa ob.toNatClampNeg ix (qNo (m 100) l6)) [] (-1) (qNo (m 100) l7) from by first | (rw [← r_L2e]; exact Ct_l2 r_QI r_CT (RB_li r_RB r_QI (s := l4) (by omega) (by omega) (Re_y r_REl (by omega)).2.1 (i := l2) (by omega) (by omega) r_ISR (Re_y r_REl (by omega)).2.2.1 (As_u r_ASl)).2.2.1 (RB_li r_RB r_QI (s := l4) (by omega) (by omega) (Re_y r_REl (by omega)).2.1 (i := l2) (by omega) (by omega) r_ISR (Re_y r_REl (by omega)).2.2.1 (As_u r_ASl)).2.1 (by rw [r_L7e]; exact (RB_li r_RB r_QI (s := l4) (by omega) (by omega) (Re_y r_REl (by omega)).2.1 (i := l2) (by omega) (by omega) r_ISR (Re_y r_REl (by omega)).2.2.1 (As_u r_ASl)).2.2.2.1); done) | (exfalso; omega; done) | (exfalso; contradiction; done)) (show kLi aa ob ix oo = cLe (aCi aa ob.toNatClampNeg ix (qNo (m 100) l6)) (qNo (m 100) l7) from by first | (rw [← r_L2e, kLi_y r_RB r_REl (by omega) (by omega) (by omega) r_ISR r_ASl, (RB_li r_RB r_QI (s := l4) (by omega) (by omega) (Re_y r_REl (by omega)).2.1 (i := l2) (by omega) (by omega) r_ISR (Re_y r_REl (by omega)).2.2.1 (As_u r_ASl)).2.2.2.1, ← r_L7e]; done) | (exfalso; omega; done) | (exfalso; contradiction; done)) (show qU (m 99) l7 from by first | (rw [r_L7e]; exact (RB_li r_RB r_QI (s := l4) (by omega) (by omega) (Re_y r_REl (by omega)).2.1 (i := l2) (by omega) (by omega) r_ISR (Re_y r_REl (by omega)).2.2.1 (As_u r_ASl)).2.2.2.2; done) | (exfalso; omega; done) | (exfalso; contradiction; done)) (show qU (m 99) l6 from by first | (exact As_u r_ASl) | (exfalso; omega; done) | (exfalso; contradiction; done))
set_option maxHeartbeats 8000000 in
theorem lp_247r4_121 {X : Nat × (Nat → Int32)} {P : Option ma_V → (Nat → Nat → Int32) → Prop} {T : Nat} {aa : Nat→Nat→Int32} {B : Int} {ob : Int32} {ix : Int32} {oo : Int32} {m0 : Nat → Nat → Int32} (h0 : zV m0) (K : ∀ v m₉, zF wr_247 m0 m₉ → zV m₉ → (zW (m₉ 94 7) (m₉ 98) (m₉ 101) (m₉ 102) (m₉ 108)) → (zGW T (m₉ 94 55) (m₉ 109)) → (zGU T (m₉ 94 46) (m₉ 99)) → (zOw (m₉ 99) (m₉ 103) (m₉ 111)) → (zGG (m₉ 94 58) (m₉ 94 56) (m₉ 94 57) (m₉ 106)) → ((m₉ 94 45).toInt = sm (zbU (m₉ 99)) (m₉ 102) 3100) → (qRB (m₉ 99) (m₉ 100) (m₉ 98) (m₉ 101) (m₉ 102) (m₉ 103) (m₉ 107) (m₉ 108) (m₉ 109) (m₉ 111) (m₉ 112) (m₉ 113) (m₉ 114) (m₉ 94 55) (m₉ 94 46) (m₉ 94 11) (m₉ 94 12) (m₉ 94 62) (m₉ 94 17) (m₉ 94 9) (kLi aa ob ix oo)) → (qI (kLi aa ob ix oo)) → ((kLi aa ob ix oo) 87 8 = (m₉ 94 58)) → (cV (kLi aa ob ix oo) [] B) → (qCt (m₉ 105) (m₉ 99) (m₉ 100) (kLi aa ob ix oo) [] (-1) (-1)) → P (some (.inl v)) m₉) : ∀ (n : Nat) (m : Nat → Nat → Int32) (l2 : Int32) (l4 : Int32) (l6 : Int32), ((0 : Int)).toNat = n → zF wr_247 m0 m → zV m → (0 ≤ l4.toInt) → (l4.toInt ≤ 3099) → (0 ≤ l2.toInt) → (l2.toInt < (m 102 l4.toNatClampNeg).toInt) → ((m 101) l4.toNatClampNeg = 16 ∨ ((m 101) l4.toNatClampNeg < 16 ∧ (((m 98) ((m 101) l4.toNatClampNeg).toNatClampNeg >>> (l2 &&& 31)) &&& 1) = 1)) → (-1 ≤ l6.toInt) → (l6.toInt ≤ 3099) → (B ≤ 1000000) → (T ≤ 512) → (zW (m 94 7) (m 98) (m 101) (m 102) (m 108)) → (zGW T (m 94 55) (m 109)) → (zGU T (m 94 46) (m 99)) → (zOw (m 99) (m 103) (m 111)) → (zGG (m 94 58) (m 94 56) (m 94 57) (m 106)) → ((m 94 10).toInt = 4 ∧ (m 94 58).toInt = 0) → ((m 94 8).toInt = 1) → (qRB (m 99) (m 100) (m 98) (m 101) (m 102) (m 103) (m 107) (m 108) (m 109) (m 111) (m 112) (m 113) (m 114) (m 94 55) (m 94 46) (m 94 11) (m 94 12) (m 94 62) (m 94 17) (m 94 9) aa) → (qI aa) → (aa 87 8 = (m 94 58)) → ((m 94 45).toInt = sm (zbU (m 99)) (m 102) 3100) → (cV aa [] B) → (qCt (m 105) (m 99) (m 100) aa [] (-1) (-1)) → (l2 = ix) → (qRe (m 99) (m 100) aa ob l4) → (qAs (m 99) (m 100) aa oo l6) → zm X 5 109 247 121 [(0, .inr (.inr (some 94))), (2, .inl l2), (4, .inl l4), (6, .inl l6)] m P := by
  intro n
  induction n using Nat.strongRecOn with
  | _ n IH =>
    intro m l2 l4 l6 hmu hF hV hi0 hi1 hi2 hi3 r_ISR hi5 hi6 hi7 hi8 r_W r_GW r_GU r_OW r_GG hi14 hi15 r_RB r_QI r_MK r_WTS r_VV r_CT r_L2e r_REl r_ASl
    refine g_247_121 l2 l4 l6 ?_
    have b1 := i_bd l4
    first | have f2 : 0 ≤ (m 102 l4.toNatClampNeg).toInt ∧ (m 102 l4.toNatClampNeg).toInt ≤ 60 := ra_102 (m := m) hV (k := l4.toNatClampNeg) (i_ix (n := 3100) (by omega) (by omega)).2 | have b3 := i_bd (m 102 l4.toNatClampNeg)
    have f4 : 0 ≤ (m 94 10).toInt ∧ (m 94 10).toInt ≤ 6 := rs_94_10 (m := m) hV
    have f5 : 0 ≤ (m 94 58).toInt ∧ (m 94 58).toInt ≤ 1 := rs_94_58 (m := m) hV
    have f6 : 0 ≤ (m 94 8).toInt ∧ (m 94 8).toInt ≤ 1 := rs_94_8 (m := m) hV
    have li7 : (60 : Int32).toInt = 60 := rfl
    first | have e8 : (l4 * (60 : Int32)).toInt = l4.toInt * 60 := i_mulk rfl (by omega) (by omega) | have b9 := i_bd (l4 * (60 : Int32))
    have b10 := i_bd l2
    first | have e11 : ((l4 * (60 : Int32)) + l2).toInt = (l4 * (60 : Int32)).toInt + l2.toInt := i_add (by omega) (by omega) | have b12 := i_bd ((l4 * (60 : Int32)) + l2)
    have hg13 : (0 ≤ ((l4 * (60 : Int32)) + l2) ∧ ((l4 * (60 : Int32)) + l2).toNatClampNeg < 186000) := i_ix (by omega) (by omega)
    refine ⟨hg13, ?_⟩
    have li14 : (0 : Int32).toInt = 0 := rfl
    have b15 := i_bd (m 108 ((l4 * (60 : Int32)) + l2).toNatClampNeg)
    refine zd (fun (h16 : (0 : Int32) ≤ (m 108 ((l4 * (60 : Int32)) + l2).toNatClampNeg)) => ?_) (fun (h16 : ¬ (0 : Int32) ≤ (m 108 ((l4 * (60 : Int32)) + l2).toNatClampNeg)) => ?_)
    · skip
      have g17 := i_le h16
      try have w60 := (ra_102 hV (k := l4.toNatClampNeg) (by omega)).2
      try have ww := W_isr r_W (s := l4) (i := l2) (by omega) (by omega) (by omega) (by omega) (by omega) r_ISR
      have hg18 : (0 ≤ (m 108 ((l4 * (60 : Int32)) + l2).toNatClampNeg) ∧ (m 108 ((l4 * (60 : Int32)) + l2).toNatClampNeg).toNatClampNeg < 3100) := i_ix (by omega) (by omega)
      refine ⟨hg18, ?_⟩
      have b19 := i_bd l6
      refine zd (fun (h20 : l6 < (0 : Int32)) => ?_) (fun (h20 : ¬ l6 < (0 : Int32)) => ?_)
      · skip
        have g21 := i_lt h20
        try have w60 := (ra_102 hV (k := l4.toNatClampNeg) (by omega)).2
        try have ww := W_isr r_W (s := l4) (i := l2) (by omega) (by omega) (by omega) (by omega) (by omega) r_ISR
        first | have f22 : 0 ≤ (m 100 (m 108 ((l4 * (60 : Int32)) + l2).toNatClampNeg).toNatClampNeg).toInt ∧ (m 100 (m 108 ((l4 * (60 : Int32)) + l2).toNatClampNeg).toNatClampNeg).toInt ≤ 100000 := ra_100 (m := m) hV (k := (m 108 ((l4 * (60 : Int32)) + l2).toNatClampNeg).toNatClampNeg) (i_ix (n := 3100) (by omega) (by omega)).2 | have b23 := i_bd (m 100 (m 108 ((l4 * (60 : Int32)) + l2).toNatClampNeg).toNatClampNeg)
        exact lp_247r4_149 (ob := ob) (ix := ix) (oo := oo) h0 K _ _ (l2) (l4) (l6) ((m 108 ((l4 * (60 : Int32)) + l2).toNatClampNeg)) ((m 100 (m 108 ((l4 * (60 : Int32)) + l2).toNatClampNeg).toNatClampNeg)) rfl hF hV (by omega) (by omega) (by omega) (show l2.toInt < (m 102 l4.toNatClampNeg).toInt from by omega) r_ISR (by omega) (by omega) (by omega) (by omega) (by omega) (by omega) r_W r_GW r_GU r_OW r_GG (show (m 94 10).toInt = 4 ∧ (m 94 58).toInt = 0 from by omega) (show (m 94 8).toInt = 1 from by omega) r_RB r_QI r_MK r_WTS r_VV (show qCt (m 105) (m 99) (m 100) aa [] (-1) (qNo (m 100) l6) from by first | (exact Ct_mo r_RB.1 r_CT (As_u r_ASl) ⟨fun _ => mu_up, fun w => absurd w (by omega)⟩) | (exact Ct_mo r_RB.1 r_CT (As_u r_ASl) ⟨fun w => absurd w (by omega), fun _ => rfl⟩) | (exfalso; omega; done) | (exfalso; contradiction; done)) r_L2e r_REl r_ASl (show (m 108 ((l4 * (60 : Int32)) + l2).toNatClampNeg) = (m 108) (l4 * (60 : Int32) + l2).toNatClampNeg from by first | (exact rfl) | (exfalso; omega; done) | (exfalso; contradiction; done))
      · skip
        have g24 := i_nlt h20
        have li25 : (4 : Int32).toInt = 4 := rfl
        refine zd (fun (h26 : (m 94 10) = (4 : Int32)) => ?_) (fun (h26 : ¬ (m 94 10) = (4 : Int32)) => ?_)
        · skip
          have g27 := i_eq h26
          have hg28 : (0 ≤ l6 ∧ l6.toNatClampNeg < 3100) := i_ix (by omega) (by omega)
          refine ⟨hg28, ?_⟩
          have hg29 : (0 ≤ l6 ∧ l6.toNatClampNeg < 3100) := i_ix (by omega) (by omega)
          refine ⟨hg29, ?_⟩
          try have w60 := (ra_102 hV (k := l4.toNatClampNeg) (by omega)).2
          try have ww := W_isr r_W (s := l4) (i := l2) (by omega) (by omega) (by omega) (by omega) (by omega) r_ISR
          have hV30 : zV (ma_u m 105 l6.toNatClampNeg ((m 105 l6.toNatClampNeg) + (1 : Int32))) := ua_105 hV
          first | have f31 : 0 ≤ (m 100 (m 108 ((l4 * (60 : Int32)) + l2).toNatClampNeg).toNatClampNeg).toInt ∧ (m 100 (m 108 ((l4 * (60 : Int32)) + l2).toNatClampNeg).toNatClampNeg).toInt ≤ 100000 := ra_100 (m := m) hV (k := (m 108 ((l4 * (60 : Int32)) + l2).toNatClampNeg).toNatClampNeg) (i_ix (n := 3100) (by omega) (by omega)).2 | have b32 := i_bd (m 100 (m 108 ((l4 * (60 : Int32)) + l2).toNatClampNeg).toNatClampNeg)
          exact lp_247r4_149 (ob := ob) (ix := ix) (oo := oo) h0 K _ _ (l2) (l4) (l6) ((m 108 ((l4 * (60 : Int32)) + l2).toNatClampNeg)) ((m 100 (m 108 ((l4 * (60 : Int32)) + l2).toNatClampNeg).toNatClampNeg)) rfl (zF_u hF rfl) hV30 (by omega) (by omega) (by omega) (show l2.toInt < (m 102 l4.toNatClampNeg).toInt from by omega) r_ISR (by omega) (by omega) (by omega) (by omega) (by omega) (by omega) r_W r_GW r_GU r_OW r_GG (show (m 94 10).toInt = 4 ∧ (m 94 58).toInt = 0 from by omega) (show (m 94 8).toInt = 1 from by omega) r_RB r_QI r_MK r_WTS r_VV (show qCt ((ma_u m 105 l6.toNatClampNeg ((m 105 l6.toNatClampNeg) + (1 : Int32))) 105) (m 99) (m 100) aa [] (-1) (qNo (m 100) l6) from by first | (exact Ct_mo r_RB.1 r_CT (As_u r_ASl) ⟨fun _ => mu_up, fun w => absurd w (by omega)⟩) | (exact Ct_mo r_RB.1 r_CT (As_u r_ASl) ⟨fun w => absurd w (by omega), fun _ => rfl⟩) | (exfalso; omega; done) | (exfalso; contradiction; done)) r_L2e r_REl r_ASl (show (m 108 ((l4 * (60 : Int32)) + l2).toNatClampNeg) = (m 108) (l4 * (60 : Int32) + l2).toNatClampNeg from by first | (exact rfl) | (exfalso; omega; done) | (exfalso; contradiction; done))
        · skip
          have g33 := i_ne h26
          exfalso; omega
    · skip
      have g34 := i_nle h16
      have b35 := i_bd l6
      refine zd (fun (h36 : l6 < (0 : Int32)) => ?_) (fun (h36 : ¬ l6 < (0 : Int32)) => ?_)
      · skip
        have g37 := i_lt h36
        try have w60 := (ra_102 hV (k := l4.toNatClampNeg) (by omega)).2
        try have ww := W_isr r_W (s := l4) (i := l2) (by omega) (by omega) (by omega) (by omega) (by omega) r_ISR
        have li38 : (-1 : Int32).toInt = -1 := rfl
        exact lp_247r4_149 (ob := ob) (ix := ix) (oo := oo) h0 K _ _ (l2) (l4) (l6) ((m 108 ((l4 * (60 : Int32)) + l2).toNatClampNeg)) ((-1 : Int32)) rfl hF hV (by omega) (by omega) (by omega) (show l2.toInt < (m 102 l4.toNatClampNeg).toInt from by omega) r_ISR (by omega) (by omega) (by omega) (by omega) (by omega) (by omega) r_W r_GW r_GU r_OW r_GG (show (m 94 10).toInt = 4 ∧ (m 94 58).toInt = 0 from by omega) (show (m 94 8).toInt = 1 from by omega) r_RB r_QI r_MK r_WTS r_VV (show qCt (m 105) (m 99) (m 100) aa [] (-1) (qNo (m 100) l6) from by first | (exact Ct_mo r_RB.1 r_CT (As_u r_ASl) ⟨fun _ => mu_up, fun w => absurd w (by omega)⟩) | (exact Ct_mo r_RB.1 r_CT (As_u r_ASl) ⟨fun w => absurd w (by omega), fun _ => rfl⟩) | (exfalso; omega; done) | (exfalso; contradiction; done)) r_L2e r_REl r_ASl (show (m 108 ((l4 * (60 : Int32)) + l2).toNatClampNeg) = (m 108) (l4 * (60 : Int32) + l2).toNatClampNeg from by first | (exact rfl) | (exfalso; omega; done) | (exfalso; contradiction; done))
      · skip
        have g39 := i_nlt h36
        have li40 : (4 : Int32).toInt = 4 := rfl
        refine zd (fun (h41 : (m 94 10) = (4 : Int32)) => ?_) (fun (h41 : ¬ (m 94 10) = (4 : Int32)) => ?_)
        · skip
          have g42 := i_eq h41
          have hg43 : (0 ≤ l6 ∧ l6.toNatClampNeg < 3100) := i_ix (by omega) (by omega)
          refine ⟨hg43, ?_⟩
          have hg44 : (0 ≤ l6 ∧ l6.toNatClampNeg < 3100) := i_ix (by omega) (by omega)
          refine ⟨hg44, ?_⟩
          try have w60 := (ra_102 hV (k := l4.toNatClampNeg) (by omega)).2
          try have ww := W_isr r_W (s := l4) (i := l2) (by omega) (by omega) (by omega) (by omega) (by omega) r_ISR
          have hV45 : zV (ma_u m 105 l6.toNatClampNeg ((m 105 l6.toNatClampNeg) + (1 : Int32))) := ua_105 hV
          have li46 : (-1 : Int32).toInt = -1 := rfl
          exact lp_247r4_149 (ob := ob) (ix := ix) (oo := oo) h0 K _ _ (l2) (l4) (l6) ((m 108 ((l4 * (60 : Int32)) + l2).toNatClampNeg)) ((-1 : Int32)) rfl (zF_u hF rfl) hV45 (by omega) (by omega) (by omega) (show l2.toInt < (m 102 l4.toNatClampNeg).toInt from by omega) r_ISR (by omega) (by omega) (by omega) (by omega) (by omega) (by omega) r_W r_GW r_GU r_OW r_GG (show (m 94 10).toInt = 4 ∧ (m 94 58).toInt = 0 from by omega) (show (m 94 8).toInt = 1 from by omega) r_RB r_QI r_MK r_WTS r_VV (show qCt ((ma_u m 105 l6.toNatClampNeg ((m 105 l6.toNatClampNeg) + (1 : Int32))) 105) (m 99) (m 100) aa [] (-1) (qNo (m 100) l6) from by first | (exact Ct_mo r_RB.1 r_CT (As_u r_ASl) ⟨fun _ => mu_up, fun w => absurd w (by omega)⟩) | (exact Ct_mo r_RB.1 r_CT (As_u r_ASl) ⟨fun w => absurd w (by omega), fun _ => rfl⟩) | (exfalso; omega; done) | (exfalso; contradiction; done)) r_L2e r_REl r_ASl (show (m 108 ((l4 * (60 : Int32)) + l2).toNatClampNeg) = (m 108) (l4 * (60 : Int32) + l2).toNatClampNeg from by first | (exact rfl) | (exfalso; omega; done) | (exfalso; contradiction; done))
        · skip
          have g47 := i_ne h41
          exfalso; omega
set_option maxHeartbeats 8000000 in
theorem lp_247r4_105 {X : Nat × (Nat → Int32)} {P : Option ma_V → (Nat → Nat → Int32) → Prop} {T : Nat} {aa : Nat→Nat→Int32} {B : Int} {ob : Int32} {ix : Int32} {oo : Int32} {m0 : Nat → Nat → Int32} (h0 : zV m0) (K : ∀ v m₉, zF wr_247 m0 m₉ → zV m₉ → (zW (m₉ 94 7) (m₉ 98) (m₉ 101) (m₉ 102) (m₉ 108)) → (zGW T (m₉ 94 55) (m₉ 109)) → (zGU T (m₉ 94 46) (m₉ 99)) → (zOw (m₉ 99) (m₉ 103) (m₉ 111)) → (zGG (m₉ 94 58) (m₉ 94 56) (m₉ 94 57) (m₉ 106)) → ((m₉ 94 45).toInt = sm (zbU (m₉ 99)) (m₉ 102) 3100) → (qRB (m₉ 99) (m₉ 100) (m₉ 98) (m₉ 101) (m₉ 102) (m₉ 103) (m₉ 107) (m₉ 108) (m₉ 109) (m₉ 111) (m₉ 112) (m₉ 113) (m₉ 114) (m₉ 94 55) (m₉ 94 46) (m₉ 94 11) (m₉ 94 12) (m₉ 94 62) (m₉ 94 17) (m₉ 94 9) (kLi aa ob ix oo)) → (qI (kLi aa ob ix oo)) → ((kLi aa ob ix oo) 87 8 = (m₉ 94 58)) → (cV (kLi aa ob ix oo) [] B) → (qCt (m₉ 105) (m₉ 99) (m₉ 100) (kLi aa ob ix oo) [] (-1) (-1)) → P (some (.inl v)) m₉) : ∀ (n : Nat) (m : Nat → Nat → Int32) (l2 : Int32) (l3 : Int32) (l4 : Int32), ((0 : Int)).toNat = n → zF wr_247 m0 m → zV m → (0 ≤ l4.toInt) → (l4.toInt ≤ 3099) → (0 ≤ l2.toInt) → (l2.toInt < (m 102 l4.toNatClampNeg).toInt) → ((m 101) l4.toNatClampNeg = 16 ∨ ((m 101) l4.toNatClampNeg < 16 ∧ (((m 98) ((m 101) l4.toNatClampNeg).toNatClampNeg >>> (l2 &&& 31)) &&& 1) = 1)) → (B ≤ 1000000) → (T ≤ 512) → (zW (m 94 7) (m 98) (m 101) (m 102) (m 108)) → (zGW T (m 94 55) (m 109)) → (zGU T (m 94 46) (m 99)) → (zOw (m 99) (m 103) (m 111)) → (zGG (m 94 58) (m 94 56) (m 94 57) (m 106)) → ((m 94 10).toInt = 4 ∧ (m 94 58).toInt = 0) → ((m 94 8).toInt = 1) → (qRB (m 99) (m 100) (m 98) (m 101) (m 102) (m 103) (m 107) (m 108) (m 109) (m 111) (m 112) (m 113) (m 114) (m 94 55) (m 94 46) (m 94 11) (m 94 12) (m 94 62) (m 94 17) (m 94 9) aa) → (qI aa) → (aa 87 8 = (m 94 58)) → ((m 94 45).toInt = sm (zbU (m 99)) (m 102) 3100) → (cV aa [] B) → (qCt (m 105) (m 99) (m 100) aa [] (-1) (-1)) → (l2 = ix) → (l3 = oo) → (qRe (m 99) (m 100) aa ob l4) → (oo = -1 ∨ zRq aa oo) → zm X 5 109 247 105 [(0, .inr (.inr (some 94))), (2, .inl l2), (3, .inl l3), (4, .inl l4)] m P := by
  intro n
  induction n using Nat.strongRecOn with
  | _ n IH =>
    intro m l2 l3 l4 hmu hF hV hi0 hi1 hi2 hi3 r_ISR hi5 hi6 r_W r_GW r_GU r_OW r_GG hi12 hi13 r_RB r_QI r_MK r_WTS r_VV r_CT r_L2e r_L3e r_REl r_THy
    refine g_247_105 l2 l3 l4 ?_
    have b1 := i_bd l4
    first | have f2 : 0 ≤ (m 102 l4.toNatClampNeg).toInt ∧ (m 102 l4.toNatClampNeg).toInt ≤ 60 := ra_102 (m := m) hV (k := l4.toNatClampNeg) (i_ix (n := 3100) (by omega) (by omega)).2 | have b3 := i_bd (m 102 l4.toNatClampNeg)
    have f4 : 0 ≤ (m 94 10).toInt ∧ (m 94 10).toInt ≤ 6 := rs_94_10 (m := m) hV
    have f5 : 0 ≤ (m 94 58).toInt ∧ (m 94 58).toInt ≤ 1 := rs_94_58 (m := m) hV
    have f6 : 0 ≤ (m 94 8).toInt ∧ (m 94 8).toInt ≤ 1 := rs_94_8 (m := m) hV
    have b7 := i_bd l3
    have li8 : (-1 : Int32).toInt = -1 := rfl
    refine zd (fun (h9 : l3 = (-1 : Int32)) => ?_) (fun (h9 : ¬ l3 = (-1 : Int32)) => ?_)
    · skip
      have g10 := i_eq h9
      try have w60 := (ra_102 hV (k := l4.toNatClampNeg) (by omega)).2
      try have ww := W_isr r_W (s := l4) (i := l2) (by omega) (by omega) (by omega) (by omega) (by omega) r_ISR
      have b11 := i_bd l2
      exact lp_247r4_121 (ob := ob) (ix := ix) (oo := oo) h0 K _ _ (l2) (l4) ((-1 : Int32)) rfl hF hV (by omega) (by omega) (by omega) (show l2.toInt < (m 102 l4.toNatClampNeg).toInt from by omega) r_ISR (by omega) (by omega) (by omega) (by omega) r_W r_GW r_GU r_OW r_GG (show (m 94 10).toInt = 4 ∧ (m 94 58).toInt = 0 from by omega) (show (m 94 8).toInt = 1 from by omega) r_RB r_QI r_MK r_WTS r_VV r_CT r_L2e r_REl (show qAs (m 99) (m 100) aa oo (-1 : Int32) from by first | (exact As_n (r_L3e.symm.trans (by assumption))) | (exfalso; omega; done) | (exfalso; contradiction; done))
    · skip
      have g12 := i_ne h9
      refine sp_246r (l3) hV  (fun v2 m1 hV_m1 p0_m1 p1_m1 => zmi_n ?_)
      have p0_m1 : -1 ≤ v2.toInt ∧ v2.toInt ≤ 3099 := p0_m1
      have p1_m1 : qPl (m 99) (m 100) l3 v2 := p1_m1
      try have w60 := (ra_102 hV (k := l4.toNatClampNeg) (by omega)).2
      try have ww := W_isr r_W (s := l4) (i := l2) (by omega) (by omega) (by omega) (by omega) (by omega) r_ISR
      have b13 := i_bd l2
      have b14 := i_bd v2
      exact lp_247r4_121 (ob := ob) (ix := ix) (oo := oo) h0 K _ _ (l2) (l4) (v2) rfl (zF_zov hF ws_246_247) hV_m1 (by omega) (by omega) (by omega) (show l2.toInt < (m 102 l4.toNatClampNeg).toInt from by omega) r_ISR (by omega) (by omega) (by omega) (by omega) r_W r_GW r_GU r_OW r_GG (show (m 94 10).toInt = 4 ∧ (m 94 58).toInt = 0 from by omega) (show (m 94 8).toInt = 1 from by omega) r_RB r_QI r_MK r_WTS r_VV r_CT r_L2e r_REl (show qAs (m 99) (m 100) aa oo v2 from by first | (exact As_p r_RB p1_m1 r_L3e r_THy (by omega)) | (exfalso; omega; done) | (exfalso; contradiction; done))
set_option maxHeartbeats 8000000 in
theorem lp_247r4_53 {X : Nat × (Nat → Int32)} {P : Option ma_V → (Nat → Nat → Int32) → Prop} {T : Nat} {aa : Nat→Nat→Int32} {B : Int} {ob : Int32} {ix : Int32} {oo : Int32} {m0 : Nat → Nat → Int32} (h0 : zV m0) (K : ∀ v m₉, zF wr_247 m0 m₉ → zV m₉ → (zW (m₉ 94 7) (m₉ 98) (m₉ 101) (m₉ 102) (m₉ 108)) → (zGW T (m₉ 94 55) (m₉ 109)) → (zGU T (m₉ 94 46) (m₉ 99)) → (zOw (m₉ 99) (m₉ 103) (m₉ 111)) → (zGG (m₉ 94 58) (m₉ 94 56) (m₉ 94 57) (m₉ 106)) → ((m₉ 94 45).toInt = sm (zbU (m₉ 99)) (m₉ 102) 3100) → (qRB (m₉ 99) (m₉ 100) (m₉ 98) (m₉ 101) (m₉ 102) (m₉ 103) (m₉ 107) (m₉ 108) (m₉ 109) (m₉ 111) (m₉ 112) (m₉ 113) (m₉ 114) (m₉ 94 55) (m₉ 94 46) (m₉ 94 11) (m₉ 94 12) (m₉ 94 62) (m₉ 94 17) (m₉ 94 9) (kLi aa ob ix oo)) → (qI (kLi aa ob ix oo)) → ((kLi aa ob ix oo) 87 8 = (m₉ 94 58)) → (cV (kLi aa ob ix oo) [] B) → (qCt (m₉ 105) (m₉ 99) (m₉ 100) (kLi aa ob ix oo) [] (-1) (-1)) → P (some (.inl v)) m₉) : ∀ (n : Nat) (m : Nat → Nat → Int32) (l2 : Int32) (l3 : Int32) (l4 : Int32) (l5 : Int32), ((0 : Int)).toNat = n → zF wr_247 m0 m → zV m → (-1 ≤ l4.toInt) → (l4.toInt ≤ 3099) → (0 ≤ l5.toInt) → (l5.toInt ≤ 1) → (l5.toInt = 0 ∨ 0 ≤ l4.toInt) → (B ≤ 1000000) → (T ≤ 512) → (zW (m 94 7) (m 98) (m 101) (m 102) (m 108)) → (zGW T (m 94 55) (m 109)) → (zGU T (m 94 46) (m 99)) → (zOw (m 99) (m 103) (m 111)) → (zGG (m 94 58) (m 94 56) (m 94 57) (m 106)) → ((m 94 10).toInt = 4 ∧ (m 94 58).toInt = 0) → ((m 94 8).toInt = 1) → (qRB (m 99) (m 100) (m 98) (m 101) (m 102) (m 103) (m 107) (m 108) (m 109) (m 111) (m 112) (m 113) (m 114) (m 94 55) (m 94 46) (m 94 11) (m 94 12) (m 94 62) (m 94 17) (m 94 9) aa) → (qI aa) → (aa 87 8 = (m 94 58)) → ((m 94 45).toInt = sm (zbU (m 99)) (m 102) 3100) → (cV aa [] B) → (qCt (m 105) (m 99) (m 100) aa [] (-1) (-1)) → (l2 = ix) → (l3 = oo) → (qRe (m 99) (m 100) aa ob l4) → (qTh aa ob oo l5) → zm X 5 109 247 53 [(0, .inr (.inr (some 94))), (2, .inl l2), (3, .inl l3), (4, .inl l4), (5, .inl l5)] m P := by
  intro n
  induction n using Nat.strongRecOn with
  | _ n IH =>
    intro m l2 l3 l4 l5 hmu hF hV hi0 hi1 hi2 hi3 hi4 hi5 hi6 r_W r_GW r_GU r_OW r_GG hi12 hi13 r_RB r_QI r_MK r_WTS r_VV r_CT r_L2e r_L3e r_REl r_TH
    refine g_247_53 l2 l3 l4 l5 ?_
    have f1 : 0 ≤ (m 94 10).toInt ∧ (m 94 10).toInt ≤ 6 := rs_94_10 (m := m) hV
    have f2 : 0 ≤ (m 94 58).toInt ∧ (m 94 58).toInt ≤ 1 := rs_94_58 (m := m) hV
    have f3 : 0 ≤ (m 94 8).toInt ∧ (m 94 8).toInt ≤ 1 := rs_94_8 (m := m) hV
    have b4 := i_bd l5
    have li5 : (0 : Int32).toInt = 0 := rfl
    refine zd (fun (h6 : l5 = (0 : Int32)) => ?_) (fun (h6 : ¬ l5 = (0 : Int32)) => ?_)
    · skip
      have g7 := i_eq h6
      try have w60 := (ra_102 hV (k := l4.toNatClampNeg) (by omega)).2
      have hV8 : zV (ma_u m 94 0 (2 : Int32)) := uf_94_0 hV
      exact K ((0 : Int32)) _ (zF_u hF rfl) hV8 r_W r_GW r_GU r_OW r_GG r_WTS (show qRB (m 99) (m 100) (m 98) (m 101) (m 102) (m 103) (m 107) (m 108) (m 109) (m 111) (m 112) (m 113) (m 114) (m 94 55) (m 94 46) (m 94 11) (m 94 12) (m 94 62) (m 94 17) (m 94 9) (kLi aa ob ix oo) from by first | (rw [kTh_n r_TH (by omega)]; exact r_RB; done) | (rw [← r_L2e, kLi_h r_RB r_REl (by omega) (by omega)]; exact r_RB; done) | (rw [← r_L2e, kLi_i r_RB r_REl (by omega) (by omega) (by omega) (by assumption) (fun z => by first | exact absurd (Int32.lt_iff_toInt_lt.mp z.1) (by omega) | exact absurd z.2 (by assumption))]; exact r_RB; done) | (exfalso; omega; done) | (exfalso; contradiction; done)) (show qI (kLi aa ob ix oo) from by first | (rw [kTh_n r_TH (by omega)]; exact r_QI; done) | (rw [← r_L2e, kLi_h r_RB r_REl (by omega) (by omega)]; exact r_QI; done) | (rw [← r_L2e, kLi_i r_RB r_REl (by omega) (by omega) (by omega) (by assumption) (fun z => by first | exact absurd (Int32.lt_iff_toInt_lt.mp z.1) (by omega) | exact absurd z.2 (by assumption))]; exact r_QI; done) | (exfalso; omega; done) | (exfalso; contradiction; done)) (show (kLi aa ob ix oo) 87 8 = (m 94 58) from by first | (rw [kTh_n r_TH (by omega)]; exact r_MK; done) | (rw [← r_L2e, kLi_h r_RB r_REl (by omega) (by omega)]; exact r_MK; done) | (rw [← r_L2e, kLi_i r_RB r_REl (by omega) (by omega) (by omega) (by assumption) (fun z => by first | exact absurd (Int32.lt_iff_toInt_lt.mp z.1) (by omega) | exact absurd z.2 (by assumption))]; exact r_MK; done) | (exfalso; omega; done) | (exfalso; contradiction; done)) (show cV (kLi aa ob ix oo) [] B from by first | (rw [kTh_n r_TH (by omega)]; exact r_VV; done) | (rw [← r_L2e, kLi_h r_RB r_REl (by omega) (by omega)]; exact r_VV; done) | (rw [← r_L2e, kLi_i r_RB r_REl (by omega) (by omega) (by omega) (by assumption) (fun z => by first | exact absurd (Int32.lt_iff_toInt_lt.mp z.1) (by omega) | exact absurd z.2 (by assumption))]; exact r_VV; done) | (exfalso; omega; done) | (exfalso; contradiction; done)) (show qCt (m 105) (m 99) (m 100) (kLi aa ob ix oo) [] (-1) (-1) from by first | (rw [kTh_n r_TH (by omega)]; exact r_CT; done) | (rw [← r_L2e, kLi_h r_RB r_REl (by omega) (by omega)]; exact r_CT; done) | (rw [← r_L2e, kLi_i r_RB r_REl (by omega) (by omega) (by omega) (by assumption) (fun z => by first | exact absurd (Int32.lt_iff_toInt_lt.mp z.1) (by omega) | exact absurd z.2 (by assumption))]; exact r_CT; done) | (exfalso; omega; done) | (exfalso; contradiction; done))
    · skip
      have g9 := i_ne h6
      have b10 := i_bd l2
      refine zd (fun (h11 : l2 < (0 : Int32)) => ?_) (fun (h11 : ¬ l2 < (0 : Int32)) => ?_)
      · skip
        have g12 := i_lt h11
        try have w60 := (ra_102 hV (k := l4.toNatClampNeg) (by omega)).2
        have hV13 : zV (ma_u m 94 0 (3 : Int32)) := uf_94_0 hV
        exact K ((0 : Int32)) _ (zF_u hF rfl) hV13 r_W r_GW r_GU r_OW r_GG r_WTS (show qRB (m 99) (m 100) (m 98) (m 101) (m 102) (m 103) (m 107) (m 108) (m 109) (m 111) (m 112) (m 113) (m 114) (m 94 55) (m 94 46) (m 94 11) (m 94 12) (m 94 62) (m 94 17) (m 94 9) (kLi aa ob ix oo) from by first | (rw [kTh_n r_TH (by omega)]; exact r_RB; done) | (rw [← r_L2e, kLi_h r_RB r_REl (by omega) (by omega)]; exact r_RB; done) | (rw [← r_L2e, kLi_i r_RB r_REl (by omega) (by omega) (by omega) (by assumption) (fun z => by first | exact absurd (Int32.lt_iff_toInt_lt.mp z.1) (by omega) | exact absurd z.2 (by assumption))]; exact r_RB; done) | (exfalso; omega; done) | (exfalso; contradiction; done)) (show qI (kLi aa ob ix oo) from by first | (rw [kTh_n r_TH (by omega)]; exact r_QI; done) | (rw [← r_L2e, kLi_h r_RB r_REl (by omega) (by omega)]; exact r_QI; done) | (rw [← r_L2e, kLi_i r_RB r_REl (by omega) (by omega) (by omega) (by assumption) (fun z => by first | exact absurd (Int32.lt_iff_toInt_lt.mp z.1) (by omega) | exact absurd z.2 (by assumption))]; exact r_QI; done) | (exfalso; omega; done) | (exfalso; contradiction; done)) (show (kLi aa ob ix oo) 87 8 = (m 94 58) from by first | (rw [kTh_n r_TH (by omega)]; exact r_MK; done) | (rw [← r_L2e, kLi_h r_RB r_REl (by omega) (by omega)]; exact r_MK; done) | (rw [← r_L2e, kLi_i r_RB r_REl (by omega) (by omega) (by omega) (by assumption) (fun z => by first | exact absurd (Int32.lt_iff_toInt_lt.mp z.1) (by omega) | exact absurd z.2 (by assumption))]; exact r_MK; done) | (exfalso; omega; done) | (exfalso; contradiction; done)) (show cV (kLi aa ob ix oo) [] B from by first | (rw [kTh_n r_TH (by omega)]; exact r_VV; done) | (rw [← r_L2e, kLi_h r_RB r_REl (by omega) (by omega)]; exact r_VV; done) | (rw [← r_L2e, kLi_i r_RB r_REl (by omega) (by omega) (by omega) (by assumption) (fun z => by first | exact absurd (Int32.lt_iff_toInt_lt.mp z.1) (by omega) | exact absurd z.2 (by assumption))]; exact r_VV; done) | (exfalso; omega; done) | (exfalso; contradiction; done)) (show qCt (m 105) (m 99) (m 100) (kLi aa ob ix oo) [] (-1) (-1) from by first | (rw [kTh_n r_TH (by omega)]; exact r_CT; done) | (rw [← r_L2e, kLi_h r_RB r_REl (by omega) (by omega)]; exact r_CT; done) | (rw [← r_L2e, kLi_i r_RB r_REl (by omega) (by omega) (by omega) (by assumption) (fun z => by first | exact absurd (Int32.lt_iff_toInt_lt.mp z.1) (by omega) | exact absurd z.2 (by assumption))]; exact r_CT; done) | (exfalso; omega; done) | (exfalso; contradiction; done))
      · skip
        have g14 := i_nlt h11
        have b15 := i_bd l4
        have hg16 : (0 ≤ l4 ∧ l4.toNatClampNeg < 3100) := i_ix (by omega) (by omega)
        refine ⟨hg16, ?_⟩
        first | have f17 : 0 ≤ (m 102 l4.toNatClampNeg).toInt ∧ (m 102 l4.toNatClampNeg).toInt ≤ 60 := ra_102 (m := m) hV (k := l4.toNatClampNeg) (i_ix (n := 3100) (by omega) (by omega)).2 | have b18 := i_bd (m 102 l4.toNatClampNeg)
        refine zd (fun (h19 : l2 < (m 102 l4.toNatClampNeg)) => ?_) (fun (h19 : ¬ l2 < (m 102 l4.toNatClampNeg)) => ?_)
        · skip
          have g20 := i_lt h19
          have hg21 : (0 ≤ l4 ∧ l4.toNatClampNeg < 3100) := i_ix (by omega) (by omega)
          refine ⟨hg21, ?_⟩
          first | have f22 : 0 ≤ (m 101 l4.toNatClampNeg).toInt ∧ (m 101 l4.toNatClampNeg).toInt ≤ 17 := ra_101 (m := m) hV (k := l4.toNatClampNeg) (i_ix (n := 3100) (by omega) (by omega)).2 | have b23 := i_bd (m 101 l4.toNatClampNeg)
          have li24 : (16 : Int32).toInt = 16 := rfl
          refine zd (fun (h25 : (m 101 l4.toNatClampNeg) = (16 : Int32)) => ?_) (fun (h25 : ¬ (m 101 l4.toNatClampNeg) = (16 : Int32)) => ?_)
          · skip
            have g26 := i_eq h25
            try have w60 := (ra_102 hV (k := l4.toNatClampNeg) (by omega)).2
            have hV27 : zV (ma_u m 94 0 (0 : Int32)) := uf_94_0 hV
            have b28 := i_bd l3
            exact lp_247r4_105 (ob := ob) (ix := ix) (oo := oo) h0 K _ _ (l2) (l3) (l4) rfl (zF_u hF rfl) hV27 (by omega) (by omega) (by omega) (show l2.toInt < (m 102 l4.toNatClampNeg).toInt from by omega) (show (m 101) l4.toNatClampNeg = 16 ∨ ((m 101) l4.toNatClampNeg < 16 ∧ (((m 98) ((m 101) l4.toNatClampNeg).toNatClampNeg >>> (l2 &&& 31)) &&& 1) = 1) from by first | (exact Or.inl (by assumption)) | (exact Or.inr ⟨Int32.not_le.mp (by assumption), by assumption⟩) | (exfalso; omega; done) | (exfalso; contradiction; done)) (by omega) (by omega) r_W r_GW r_GU r_OW r_GG (show (m 94 10).toInt = 4 ∧ (m 94 58).toInt = 0 from by omega) (show (m 94 8).toInt = 1 from by omega) r_RB r_QI r_MK r_WTS r_VV r_CT r_L2e r_L3e r_REl (show oo = -1 ∨ zRq aa oo from by first | (exact Th_y r_TH (by omega)) | (exfalso; omega; done) | (exfalso; contradiction; done))
          · skip
            have g29 := i_ne h25
            have hg30 : (0 ≤ l4 ∧ l4.toNatClampNeg < 3100) := i_ix (by omega) (by omega)
            refine ⟨hg30, ?_⟩
            refine zd (fun (h31 : (16 : Int32) ≤ (m 101 l4.toNatClampNeg)) => ?_) (fun (h31 : ¬ (16 : Int32) ≤ (m 101 l4.toNatClampNeg)) => ?_)
            · skip
              have g32 := i_le h31
              try have w60 := (ra_102 hV (k := l4.toNatClampNeg) (by omega)).2
              have hV33 : zV (ma_u m 94 0 (4 : Int32)) := uf_94_0 hV
              exact K ((0 : Int32)) _ (zF_u hF rfl) hV33 r_W r_GW r_GU r_OW r_GG r_WTS (show qRB (m 99) (m 100) (m 98) (m 101) (m 102) (m 103) (m 107) (m 108) (m 109) (m 111) (m 112) (m 113) (m 114) (m 94 55) (m 94 46) (m 94 11) (m 94 12) (m 94 62) (m 94 17) (m 94 9) (kLi aa ob ix oo) from by first | (rw [kTh_n r_TH (by omega)]; exact r_RB; done) | (rw [← r_L2e, kLi_h r_RB r_REl (by omega) (by omega)]; exact r_RB; done) | (rw [← r_L2e, kLi_i r_RB r_REl (by omega) (by omega) (by omega) (by assumption) (fun z => by first | exact absurd (Int32.lt_iff_toInt_lt.mp z.1) (by omega) | exact absurd z.2 (by assumption))]; exact r_RB; done) | (exfalso; omega; done) | (exfalso; contradiction; done)) (show qI (kLi aa ob ix oo) from by first | (rw [kTh_n r_TH (by omega)]; exact r_QI; done) | (rw [← r_L2e, kLi_h r_RB r_REl (by omega) (by omega)]; exact r_QI; done) | (rw [← r_L2e, kLi_i r_RB r_REl (by omega) (by omega) (by omega) (by assumption) (fun z => by first | exact absurd (Int32.lt_iff_toInt_lt.mp z.1) (by omega) | exact absurd z.2 (by assumption))]; exact r_QI; done) | (exfalso; omega; done) | (exfalso; contradiction; done)) (show (kLi aa ob ix oo) 87 8 = (m 94 58) from by first | (rw [kTh_n r_TH (by omega)]; exact r_MK; done) | (rw [← r_L2e, kLi_h r_RB r_REl (by omega) (by omega)]; exact r_MK; done) | (rw [← r_L2e, kLi_i r_RB r_REl (by omega) (by omega) (by omega) (by assumption) (fun z => by first | exact absurd (Int32.lt_iff_toInt_lt.mp z.1) (by omega) | exact absurd z.2 (by assumption))]; exact r_MK; done) | (exfalso; omega; done) | (exfalso; contradiction; done)) (show cV (kLi aa ob ix oo) [] B from by first | (rw [kTh_n r_TH (by omega)]; exact r_VV; done) | (rw [← r_L2e, kLi_h r_RB r_REl (by omega) (by omega)]; exact r_VV; done) | (rw [← r_L2e, kLi_i r_RB r_REl (by omega) (by omega) (by omega) (by assumption) (fun z => by first | exact absurd (Int32.lt_iff_toInt_lt.mp z.1) (by omega) | exact absurd z.2 (by assumption))]; exact r_VV; done) | (exfalso; omega; done) | (exfalso; contradiction; done)) (show qCt (m 105) (m 99) (m 100) (kLi aa ob ix oo) [] (-1) (-1) from by first | (rw [kTh_n r_TH (by omega)]; exact r_CT; done) | (rw [← r_L2e, kLi_h r_RB r_REl (by omega) (by omega)]; exact r_CT; done) | (rw [← r_L2e, kLi_i r_RB r_REl (by omega) (by omega) (by omega) (by assumption) (fun z => by first | exact absurd (Int32.lt_iff_toInt_lt.mp z.1) (by omega) | exact absurd z.2 (by assumption))]; exact r_CT; done) | (exfalso; omega; done) | (exfalso; contradiction; done))
            · skip
              have g34 := i_nle h31
              have hg35 : (0 ≤ l4 ∧ l4.toNatClampNeg < 3100) := i_ix (by omega) (by omega)
              refine ⟨hg35, ?_⟩
              have hg36 : (0 ≤ (m 101 l4.toNatClampNeg) ∧ (m 101 l4.toNatClampNeg).toNatClampNeg < 16) := i_ix (by omega) (by omega)
              refine ⟨hg36, ?_⟩
              have b37 := i_bd (((m 98 (m 101 l4.toNatClampNeg).toNatClampNeg) >>> (l2 &&& 31)) &&& (1 : Int32))
              have li38 : (1 : Int32).toInt = 1 := rfl
              refine zd (fun (h39 : (((m 98 (m 101 l4.toNatClampNeg).toNatClampNeg) >>> (l2 &&& 31)) &&& (1 : Int32)) = (1 : Int32)) => ?_) (fun (h39 : ¬ (((m 98 (m 101 l4.toNatClampNeg).toNatClampNeg) >>> (l2 &&& 31)) &&& (1 : Int32)) = (1 : Int32)) => ?_)
              · skip
                have g40 := i_eq h39
                try have w60 := (ra_102 hV (k := l4.toNatClampNeg) (by omega)).2
                have hV41 : zV (ma_u m 94 0 (0 : Int32)) := uf_94_0 hV
                have b42 := i_bd l3
                exact lp_247r4_105 (ob := ob) (ix := ix) (oo := oo) h0 K _ _ (l2) (l3) (l4) rfl (zF_u hF rfl) hV41 (by omega) (by omega) (by omega) (show l2.toInt < (m 102 l4.toNatClampNeg).toInt from by omega) (show (m 101) l4.toNatClampNeg = 16 ∨ ((m 101) l4.toNatClampNeg < 16 ∧ (((m 98) ((m 101) l4.toNatClampNeg).toNatClampNeg >>> (l2 &&& 31)) &&& 1) = 1) from by first | (exact Or.inl (by assumption)) | (exact Or.inr ⟨Int32.not_le.mp (by assumption), by assumption⟩) | (exfalso; omega; done) | (exfalso; contradiction; done)) (by omega) (by omega) r_W r_GW r_GU r_OW r_GG (show (m 94 10).toInt = 4 ∧ (m 94 58).toInt = 0 from by omega) (show (m 94 8).toInt = 1 from by omega) r_RB r_QI r_MK r_WTS r_VV r_CT r_L2e r_L3e r_REl (show oo = -1 ∨ zRq aa oo from by first | (exact Th_y r_TH (by omega)) | (exfalso; omega; done) | (exfalso; contradiction; done))
              · skip
                have g43 := i_ne h39
                try have w60 := (ra_102 hV (k := l4.toNatClampNeg) (by omega)).2
                have hV44 : zV (ma_u m 94 0 (4 : Int32)) := uf_94_0 hV
                exact K ((0 : Int32)) _ (zF_u hF rfl) hV44 r_W r_GW r_GU r_OW r_GG r_WTS (show qRB (m 99) (m 100) (m 98) (m 101) (m 102) (m 103) (m 107) (m 108) (m 109) (m 111) (m 112) (m 113) (m 114) (m 94 55) (m 94 46) (m 94 11) (m 94 12) (m 94 62) (m 94 17) (m 94 9) (kLi aa ob ix oo) from by first | (rw [kTh_n r_TH (by omega)]; exact r_RB; done) | (rw [← r_L2e, kLi_h r_RB r_REl (by omega) (by omega)]; exact r_RB; done) | (rw [← r_L2e, kLi_i r_RB r_REl (by omega) (by omega) (by omega) (by assumption) (fun z => by first | exact absurd (Int32.lt_iff_toInt_lt.mp z.1) (by omega) | exact absurd z.2 (by assumption))]; exact r_RB; done) | (exfalso; omega; done) | (exfalso; contradiction; done)) (show qI (kLi aa ob ix oo) from by first | (rw [kTh_n r_TH (by omega)]; exact r_QI; done) | (rw [← r_L2e, kLi_h r_RB r_REl (by omega) (by omega)]; exact r_QI; done) | (rw [← r_L2e, kLi_i r_RB r_REl (by omega) (by omega) (by omega) (by assumption) (fun z => by first | exact absurd (Int32.lt_iff_toInt_lt.mp z.1) (by omega) | exact absurd z.2 (by assumption))]; exact r_QI; done) | (exfalso; omega; done) | (exfalso; contradiction; done)) (show (kLi aa ob ix oo) 87 8 = (m 94 58) from by first | (rw [kTh_n r_TH (by omega)]; exact r_MK; done) | (rw [← r_L2e, kLi_h r_RB r_REl (by omega) (by omega)]; exact r_MK; done) | (rw [← r_L2e, kLi_i r_RB r_REl (by omega) (by omega) (by omega) (by assumption) (fun z => by first | exact absurd (Int32.lt_iff_toInt_lt.mp z.1) (by omega) | exact absurd z.2 (by assumption))]; exact r_MK; done) | (exfalso; omega; done) | (exfalso; contradiction; done)) (show cV (kLi aa ob ix oo) [] B from by first | (rw [kTh_n r_TH (by omega)]; exact r_VV; done) | (rw [← r_L2e, kLi_h r_RB r_REl (by omega) (by omega)]; exact r_VV; done) | (rw [← r_L2e, kLi_i r_RB r_REl (by omega) (by omega) (by omega) (by assumption) (fun z => by first | exact absurd (Int32.lt_iff_toInt_lt.mp z.1) (by omega) | exact absurd z.2 (by assumption))]; exact r_VV; done) | (exfalso; omega; done) | (exfalso; contradiction; done)) (show qCt (m 105) (m 99) (m 100) (kLi aa ob ix oo) [] (-1) (-1) from by first | (rw [kTh_n r_TH (by omega)]; exact r_CT; done) | (rw [← r_L2e, kLi_h r_RB r_REl (by omega) (by omega)]; exact r_CT; done) | (rw [← r_L2e, kLi_i r_RB r_REl (by omega) (by omega) (by omega) (by assumption) (fun z => by first | exact absurd (Int32.lt_iff_toInt_lt.mp z.1) (by omega) | exact absurd z.2 (by assumption))]; exact r_CT; done) | (exfalso; omega; done) | (exfalso; contradiction; done))
        · skip
          have g45 := i_nlt h19
          try have w60 := (ra_102 hV (k := l4.toNatClampNeg) (by omega)).2
          have hV46 : zV (ma_u m 94 0 (3 : Int32)) := uf_94_0 hV
          exact K ((0 : Int32)) _ (zF_u hF rfl) hV46 r_W r_GW r_GU r_OW r_GG r_WTS (show qRB (m 99) (m 100) (m 98) (m 101) (m 102) (m 103) (m 107) (m 108) (m 109) (m 111) (m 112) (m 113) (m 114) (m 94 55) (m 94 46) (m 94 11) (m 94 12) (m 94 62) (m 94 17) (m 94 9) (kLi aa ob ix oo) from by first | (rw [kTh_n r_TH (by omega)]; exact r_RB; done) | (rw [← r_L2e, kLi_h r_RB r_REl (by omega) (by omega)]; exact r_RB; done) | (rw [← r_L2e, kLi_i r_RB r_REl (by omega) (by omega) (by omega) (by assumption) (fun z => by first | exact absurd (Int32.lt_iff_toInt_lt.mp z.1) (by omega) | exact absurd z.2 (by assumption))]; exact r_RB; done) | (exfalso; omega; done) | (exfalso; contradiction; done)) (show qI (kLi aa ob ix oo) from by first | (rw [kTh_n r_TH (by omega)]; exact r_QI; done) | (rw [← r_L2e, kLi_h r_RB r_REl (by omega) (by omega)]; exact r_QI; done) | (rw [← r_L2e, kLi_i r_RB r_REl (by omega) (by omega) (by omega) (by assumption) (fun z => by first | exact absurd (Int32.lt_iff_toInt_lt.mp z.1) (by omega) | exact absurd z.2 (by assumption))]; exact r_QI; done) | (exfalso; omega; done) | (exfalso; contradiction; done)) (show (kLi aa ob ix oo) 87 8 = (m 94 58) from by first | (rw [kTh_n r_TH (by omega)]; exact r_MK; done) | (rw [← r_L2e, kLi_h r_RB r_REl (by omega) (by omega)]; exact r_MK; done) | (rw [← r_L2e, kLi_i r_RB r_REl (by omega) (by omega) (by omega) (by assumption) (fun z => by first | exact absurd (Int32.lt_iff_toInt_lt.mp z.1) (by omega) | exact absurd z.2 (by assumption))]; exact r_MK; done) | (exfalso; omega; done) | (exfalso; contradiction; done)) (show cV (kLi aa ob ix oo) [] B from by first | (rw [kTh_n r_TH (by omega)]; exact r_VV; done) | (rw [← r_L2e, kLi_h r_RB r_REl (by omega) (by omega)]; exact r_VV; done) | (rw [← r_L2e, kLi_i r_RB r_REl (by omega) (by omega) (by omega) (by assumption) (fun z => by first | exact absurd (Int32.lt_iff_toInt_lt.mp z.1) (by omega) | exact absurd z.2 (by assumption))]; exact r_VV; done) | (exfalso; omega; done) | (exfalso; contradiction; done)) (show qCt (m 105) (m 99) (m 100) (kLi aa ob ix oo) [] (-1) (-1) from by first | (rw [kTh_n r_TH (by omega)]; exact r_CT; done) | (rw [← r_L2e, kLi_h r_RB r_REl (by omega) (by omega)]; exact r_CT; done) | (rw [← r_L2e, kLi_i r_RB r_REl (by omega) (by omega) (by omega) (by assumption) (fun z => by first | exact absurd (Int32.lt_iff_toInt_lt.mp z.1) (by omega) | exact absurd z.2 (by assumption))]; exact r_CT; done) | (exfalso; omega; done) | (exfalso; contradiction; done))
set_option maxHeartbeats 8000000 in
theorem sp_247r4 {X : Nat × (Nat → Int32)} {P : Option ma_V → (Nat → Nat → Int32) → Prop} {T : Nat} {aa : Nat→Nat→Int32} {B : Int} {m : Nat → Nat → Int32} (ob : Int32) (ix : Int32) (oo : Int32) (hV : zV m) (hpre0 : T ≤ 512) (hpre1 : B ≤ 1000000) (r_W : zW (m 94 7) (m 98) (m 101) (m 102) (m 108)) (r_GW : zGW T (m 94 55) (m 109)) (r_GU : zGU T (m 94 46) (m 99)) (r_OW : zOw (m 99) (m 103) (m 111)) (r_GG : zGG (m 94 58) (m 94 56) (m 94 57) (m 106)) (hpre7 : (m 94 10).toInt = 4 ∧ (m 94 58).toInt = 0) (hpre8 : (m 94 8).toInt = 1) (r_RB : qRB (m 99) (m 100) (m 98) (m 101) (m 102) (m 103) (m 107) (m 108) (m 109) (m 111) (m 112) (m 113) (m 114) (m 94 55) (m 94 46) (m 94 11) (m 94 12) (m 94 62) (m 94 17) (m 94 9) aa) (r_QI : qI aa) (r_MK : aa 87 8 = (m 94 58)) (r_WTS : (m 94 45).toInt = sm (zbU (m 99)) (m 102) 3100) (r_VV : cV aa [] B) (r_CT : qCt (m 105) (m 99) (m 100) aa [] (-1) (-1)) (KZ : ∀ v m₉, zV (zov wr_247 m m₉) → (zW (m 94 7) (m 98) (m 101) (m 102) (m₉ 108)) → (zGW T (m₉ 94 55) (m₉ 109)) → (zGU T (m 94 46) (m₉ 99)) → (zOw (m₉ 99) (m 103) (m₉ 111)) → (zGG (m 94 58) (m₉ 94 56) (m 94 57) (m₉ 106)) → ((m₉ 94 45).toInt = sm (zbU (m₉ 99)) (m 102) 3100) → (qRB (m₉ 99) (m 100) (m 98) (m 101) (m 102) (m 103) (m 107) (m₉ 108) (m₉ 109) (m₉ 111) (m 112) (m₉ 113) (m₉ 114) (m₉ 94 55) (m 94 46) (m 94 11) (m 94 12) (m 94 62) (m 94 17) (m 94 9) (kLi aa ob ix oo)) → (qI (kLi aa ob ix oo)) → ((kLi aa ob ix oo) 87 8 = (m 94 58)) → (cV (kLi aa ob ix oo) [] B) → (qCt (m₉ 105) (m₉ 99) (m 100) (kLi aa ob ix oo) [] (-1) (-1)) → P (some (.inl v)) (zov wr_247 m m₉)) : zm X 5 109 247 0 [(0, .inr (.inr (some 94))), (1, .inl ob), (2, .inl ix), (3, .inl oo)] m P := by
  have K : ∀ v m₉, zF wr_247 m m₉ → zV m₉ → (zW (m₉ 94 7) (m₉ 98) (m₉ 101) (m₉ 102) (m₉ 108)) → (zGW T (m₉ 94 55) (m₉ 109)) → (zGU T (m₉ 94 46) (m₉ 99)) → (zOw (m₉ 99) (m₉ 103) (m₉ 111)) → (zGG (m₉ 94 58) (m₉ 94 56) (m₉ 94 57) (m₉ 106)) → ((m₉ 94 45).toInt = sm (zbU (m₉ 99)) (m₉ 102) 3100) → (qRB (m₉ 99) (m₉ 100) (m₉ 98) (m₉ 101) (m₉ 102) (m₉ 103) (m₉ 107) (m₉ 108) (m₉ 109) (m₉ 111) (m₉ 112) (m₉ 113) (m₉ 114) (m₉ 94 55) (m₉ 94 46) (m₉ 94 11) (m₉ 94 12) (m₉ 94 62) (m₉ 94 17) (m₉ 94 9) (kLi aa ob ix oo)) → (qI (kLi aa ob ix oo)) → ((kLi aa ob ix oo) 87 8 = (m₉ 94 58)) → (cV (kLi aa ob ix oo) [] B) → (qCt (m₉ 105) (m₉ 99) (m₉ 100) (kLi aa ob ix oo) [] (-1) (-1)) → P (some (.inl v)) m₉ := by
    intro v m₉ hf z q0 q1 q2 q3 q4 q5 q6 q7 q8 q9 q10
    have e := zov_eq hf
    rw [e] at z ⊢
    try rw [e] at q0
    try rw [e] at q1
    try rw [e] at q2
    try rw [e] at q3
    try rw [e] at q4
    try rw [e] at q5
    try rw [e] at q6
    try rw [e] at q7
    try rw [e] at q8
    try rw [e] at q9
    try rw [e] at q10
    exact KZ v m₉ z q0 q1 q2 q3 q4 q5 q6 q7 q8 q9 q10
  refine g_247_0 ob ix oo ?_
  have f1 : 0 ≤ (m 94 10).toInt ∧ (m 94 10).toInt ≤ 6 := rs_94_10 (m := m) hV
  have f2 : 0 ≤ (m 94 58).toInt ∧ (m 94 58).toInt ≤ 1 := rs_94_58 (m := m) hV
  have f3 : 0 ≤ (m 94 8).toInt ∧ (m 94 8).toInt ≤ 1 := rs_94_8 (m := m) hV
  have li4 : (0 : Int32).toInt = 0 := rfl
  refine zd (fun (h5 : (m 94 8) = (0 : Int32)) => ?_) (fun (h5 : ¬ (m 94 8) = (0 : Int32)) => ?_)
  · skip
    have g6 := i_eq h5
    exfalso; omega
  · skip
    have g7 := i_ne h5
    have b8 := i_bd ob
    have hV9 : zV (ma_u m 94 0 (0 : Int32)) := uf_94_0 hV
    refine sp_245r (aa := aa) (ob) hV9 r_W r_RB r_QI (fun v2 m1 hV_m1 p0_m1 p1_m1 p2_m1 => zmi_n ?_)
    have p0_m1 : -1 ≤ v2.toInt ∧ v2.toInt ≤ 3099 := p0_m1
    have p1_m1 : v2.toInt < 0 ∨ (m 99) v2.toNatClampNeg ≠ 0 := p1_m1
    have p2_m1 : qRe (m 99) (m 100) aa ob v2 := p2_m1
    have b10 := i_bd v2
    refine zd (fun (h11 : v2 < (0 : Int32)) => ?_) (fun (h11 : ¬ v2 < (0 : Int32)) => ?_)
    · skip
      have g12 := i_lt h11
      try have w60 := (ra_102 hV (k := l4.toNatClampNeg) (by omega)).2
      have b13 := i_bd ix
      have b14 := i_bd oo
      exact lp_247r4_53 (ob := ob) (ix := ix) (oo := oo) hV K _ _ (ix) (oo) (v2) ((0 : Int32)) rfl (zF_zov (zF_u zF_rfl rfl) ws_245_247) hV_m1 (by omega) (by omega) (by omega) (by omega) (by omega) (by omega) (by omega) r_W r_GW r_GU r_OW r_GG (show (m 94 10).toInt = 4 ∧ (m 94 58).toInt = 0 from by omega) (show (m 94 8).toInt = 1 from by omega) r_RB r_QI r_MK r_WTS r_VV r_CT (show ix = ix from by first | (exact rfl) | (exfalso; omega; done) | (exfalso; contradiction; done)) (show oo = oo from by first | (exact rfl) | (exfalso; omega; done) | (exfalso; contradiction; done)) (show qRe (m 99) (m 100) aa ob v2 from by first | (exact p2_m1) | (exfalso; omega; done) | (exfalso; contradiction; done)) (show qTh aa ob oo (0 : Int32) from by first | (exact Or.inr ⟨by decide, fun w => Re_n p2_m1 (by omega) w.1⟩) | (exact Or.inl ⟨by decide, (Re_y p2_m1 (by omega)).2.2.2, Or.inl (by assumption)⟩) | (exfalso; omega; done) | (exfalso; contradiction; done))
    · skip
      have g15 := i_nlt h11
      have b16 := i_bd oo
      have li17 : (-1 : Int32).toInt = -1 := rfl
      refine zd (fun (h18 : oo = (-1 : Int32)) => ?_) (fun (h18 : ¬ oo = (-1 : Int32)) => ?_)
      · skip
        have g19 := i_eq h18
        try have w60 := (ra_102 hV (k := l4.toNatClampNeg) (by omega)).2
        have b20 := i_bd ix
        have li21 : (1 : Int32).toInt = 1 := rfl
        exact lp_247r4_53 (ob := ob) (ix := ix) (oo := oo) hV K _ _ (ix) (oo) (v2) ((1 : Int32)) rfl (zF_zov (zF_u zF_rfl rfl) ws_245_247) hV_m1 (by omega) (by omega) (by omega) (by omega) (by omega) (by omega) (by omega) r_W r_GW r_GU r_OW r_GG (show (m 94 10).toInt = 4 ∧ (m 94 58).toInt = 0 from by omega) (show (m 94 8).toInt = 1 from by omega) r_RB r_QI r_MK r_WTS r_VV r_CT (show ix = ix from by first | (exact rfl) | (exfalso; omega; done) | (exfalso; contradiction; done)) (show oo = oo from by first | (exact rfl) | (exfalso; omega; done) | (exfalso; contradiction; done)) (show qRe (m 99) (m 100) aa ob v2 from by first | (exact p2_m1) | (exfalso; omega; done) | (exfalso; contradiction; done)) (show qTh aa ob oo (1 : Int32) from by first | (exact Or.inr ⟨by decide, fun w => Re_n p2_m1 (by omega) w.1⟩) | (exact Or.inl ⟨by decide, (Re_y p2_m1 (by omega)).2.2.2, Or.inl (by assumption)⟩) | (exfalso; omega; done) | (exfalso; contradiction; done))
      · skip
        have g22 := i_ne h18
        refine sp_245r (aa := aa) (oo) hV_m1 r_W r_RB r_QI (fun v4 m3 hV_m3 p0_m3 p1_m3 p2_m3 => zmi_n ?_)
        have p0_m3 : -1 ≤ v4.toInt ∧ v4.toInt ≤ 3099 := p0_m3
        have p1_m3 : v4.toInt < 0 ∨ (m 99) v4.toNatClampNeg ≠ 0 := p1_m3
        have p2_m3 : qRe (m 99) (m 100) aa oo v4 := p2_m3
        have b23 := i_bd v4
        refine zd (fun (h24 : v4 < (0 : Int32)) => ?_) (fun (h24 : ¬ v4 < (0 : Int32)) => ?_)
        · skip
          have g25 := i_lt h24
          try have w60 := (ra_102 hV (k := l4.toNatClampNeg) (by omega)).2
          have b26 := i_bd ix
          exact lp_247r4_53 (ob := ob) (ix := ix) (oo := oo) hV K _ _ (ix) (oo) (v2) ((0 : Int32)) rfl (zF_zov (zF_zov (zF_u zF_rfl rfl) ws_245_247) ws_245_247) hV_m3 (by omega) (by omega) (by omega) (by omega) (by omega) (by omega) (by omega) r_W r_GW r_GU r_OW r_GG (show (m 94 10).toInt = 4 ∧ (m 94 58).toInt = 0 from by omega) (show (m 94 8).toInt = 1 from by omega) r_RB r_QI r_MK r_WTS r_VV r_CT (show ix = ix from by first | (exact rfl) | (exfalso; omega; done) | (exfalso; contradiction; done)) (show oo = oo from by first | (exact rfl) | (exfalso; omega; done) | (exfalso; contradiction; done)) (show qRe (m 99) (m 100) aa ob v2 from by first | (exact p2_m1) | (exfalso; omega; done) | (exfalso; contradiction; done)) (show qTh aa ob oo (0 : Int32) from by first | (exact Or.inl ⟨by decide, (Re_y p2_m1 (by omega)).2.2.2, Or.inr (Re_y p2_m3 (by omega)).2.2.2⟩) | (exact Or.inr ⟨by decide, fun w => w.2.elim (fun z => absurd (congrArg Int32.toInt z) (by omega)) (Re_n p2_m3 (by omega))⟩) | (exfalso; omega; done) | (exfalso; contradiction; done))
        · skip
          have g27 := i_nlt h24
          try have w60 := (ra_102 hV (k := l4.toNatClampNeg) (by omega)).2
          have b28 := i_bd ix
          have li29 : (1 : Int32).toInt = 1 := rfl
          exact lp_247r4_53 (ob := ob) (ix := ix) (oo := oo) hV K _ _ (ix) (oo) (v2) ((1 : Int32)) rfl (zF_zov (zF_zov (zF_u zF_rfl rfl) ws_245_247) ws_245_247) hV_m3 (by omega) (by omega) (by omega) (by omega) (by omega) (by omega) (by omega) r_W r_GW r_GU r_OW r_GG (show (m 94 10).toInt = 4 ∧ (m 94 58).toInt = 0 from by omega) (show (m 94 8).toInt = 1 from by omega) r_RB r_QI r_MK r_WTS r_VV r_CT (show ix = ix from by first | (exact rfl) | (exfalso; omega; done) | (exfalso; contradiction; done)) (show oo = oo from by first | (exact rfl) | (exfalso; omega; done) | (exfalso; contradiction; done)) (show qRe (m 99) (m 100) aa ob v2 from by first | (exact p2_m1) | (exfalso; omega; done) | (exfalso; contradiction; done)) (show qTh aa ob oo (1 : Int32) from by first | (exact Or.inl ⟨by decide, (Re_y p2_m1 (by omega)).2.2.2, Or.inr (Re_y p2_m3 (by omega)).2.2.2⟩) | (exact Or.inr ⟨by decide, fun w => w.2.elim (fun z => absurd (congrArg Int32.toInt z) (by omega)) (Re_n p2_m3 (by omega))⟩) | (exfalso; omega; done) | (exfalso; contradiction; done))

