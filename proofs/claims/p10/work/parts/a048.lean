/-! from 95.t04 -/
/-! REGIONS, the reference (written by wip/tools/gen15t.py) -/
set_option maxHeartbeats 8000000 in
theorem lp_235rz_199 {X : Nat × (Nat → Int32)} {P : Option ma_V → (Nat → Nat → Int32) → Prop} {T : Nat} {aa : Nat→Nat→Int32} {ro : Int32} {m0 : Nat → Nat → Int32} (h0 : zV m0) (K : ∀ v m₉, zF wr_235 m0 m₉ → zV m₉ → (zGW T (m₉ 94 55) (m₉ 109)) → (zGU T (m₉ 94 46) (m₉ 99)) → (zOw (m₉ 99) (m₉ 103) (m₉ 111)) → (zRG1 (m₉ 94 18) (m₉ 94 64) (m₉ 94 63) (m₉ 99) (m₉ 103) (m₉ 102) (m₉ 116)) → (qRB (m₉ 99) (m₉ 100) (m₉ 98) (m₉ 101) (m₉ 102) (m₉ 103) (m₉ 107) (m₉ 108) (m₉ 109) (m₉ 111) (m₉ 112) (m₉ 113) (m₉ 114) (m₉ 94 55) (m₉ 94 46) ro 0 0 0 1 (rCl aa)) → (qRv (rCl aa)) → (qRL (rCl aa) (m₉ 94 18) (m₉ 94 64) (m₉ 94 19) (m₉ 94 63) (m₉ 116)) → ((m₉ 94 45).toInt = sm (zbU (m₉ 99)) (m₉ 102) 3100) → P (some (.inl v)) m₉) {n161 : Nat} (OUT161 : ∀ (m₉ : Nat → Nat → Int32) (l1 : Int32) (l2 : Int32) (l3 : Int32) (l4 : Int32), (((128 - cnt (m₉ 124) 128 : Nat) : Int)).toNat < n161 → zF wr_235 m0 m₉ → zV m₉ → (0 ≤ l3.toInt) → (l3.toInt ≤ 1) → (-1 ≤ l2.toInt ∧ l2.toInt < (m₉ 94 64).toInt) → (l4.toInt = -1 ∨ (0 ≤ l4.toInt ∧ l4.toInt < (m₉ 94 64).toInt ∧ (m₉ 124) l4.toNatClampNeg = 0)) → (T ≤ 512) → (zW (m₉ 94 7) (m₉ 98) (m₉ 101) (m₉ 102) (m₉ 108)) → (zGW T (m₉ 94 55) (m₉ 109)) → (zGU T (m₉ 94 46) (m₉ 99)) → (zOw (m₉ 99) (m₉ 103) (m₉ 111)) → ((m₉ 94 10).toInt = 6 ∧ (m₉ 94 58).toInt = 0) → ((m₉ 94 45).toInt = sm (zbU (m₉ 99)) (m₉ 102) 3100) → (zRG1 (m₉ 94 18) (m₉ 94 64) (m₉ 94 63) (m₉ 99) (m₉ 103) (m₉ 102) (m₉ 116)) → (qZO (m₉ 99) (m₉ 100) (m₉ 98) (m₉ 101) (m₉ 102) (m₉ 103) (m₉ 107) (m₉ 108) (m₉ 109) (m₉ 111) (m₉ 112) (m₉ 113) (m₉ 114) (m₉ 94 55) (m₉ 94 46) ro (m₉ 94 18) (m₉ 94 64) (m₉ 94 19) (m₉ 94 63) (m₉ 116) (m₉ 122) (m₉ 123) (m₉ 124) l2.toInt l3.toInt l4.toInt (rC0 aa)) → zm X 5 108 235 161 [(0, .inr (.inr (some 94))), (1, .inl l1), (2, .inl l2), (3, .inl l3), (4, .inl l4)] m₉ P) : ∀ (n : Nat) (m : Nat → Nat → Int32) (l1 : Int32) (l2 : Int32) (l3 : Int32) (l4 : Int32) (l5 : Int32) (l6 : Int32), (l6.toInt - l5.toInt).toNat = n → zF wr_235 m0 m → zV m → (0 ≤ l3.toInt) → (l3.toInt ≤ 1) → (-1 ≤ l2.toInt ∧ l2.toInt < (m 94 64).toInt) → (0 ≤ l4.toInt) → (l4.toInt < (m 94 64).toInt) → (0 ≤ l5.toInt) → (l6.toInt ≤ 1500) → (l5.toInt ≤ 1600) → (128 - cnt (m 124) 128 < n161) → (T ≤ 512) → (zW (m 94 7) (m 98) (m 101) (m 102) (m 108)) → (zGW T (m 94 55) (m 109)) → (zGU T (m 94 46) (m 99)) → (zOw (m 99) (m 103) (m 111)) → ((m 94 10).toInt = 6 ∧ (m 94 58).toInt = 0) → ((m 94 45).toInt = sm (zbU (m 99)) (m 102) 3100) → (zRG1 (m 94 18) (m 94 64) (m 94 63) (m 99) (m 103) (m 102) (m 116)) → (qZI (m 99) (m 100) (m 98) (m 101) (m 102) (m 103) (m 107) (m 108) (m 109) (m 111) (m 112) (m 113) (m 114) (m 94 55) (m 94 46) ro (m 94 18) (m 94 64) (m 94 19) (m 94 63) (m 116) (m 122) (m 123) (m 124) l2.toInt l3.toInt l4.toInt l5.toInt l6.toInt (rC0 aa)) → zm X 5 108 235 199 [(0, .inr (.inr (some 94))), (1, .inl l1), (2, .inl l2), (3, .inl l3), (4, .inl l4), (5, .inl l5), (6, .inl l6)] m P := by
  intro n
  induction n using Nat.strongRecOn with
  | _ n IH =>
    intro m l1 l2 l3 l4 l5 l6 hmu hF hV hi0 hi1 hi2 hi3 hi4 hi5 hi6 hi7 r_MD hi9 r_W r_GW r_GU r_OW hi14 r_WTS r_RG r_ZI
    refine g_235_199 l1 l2 l3 l4 l5 l6 ?_
    have f1 : 0 ≤ (m 94 64).toInt ∧ (m 94 64).toInt ≤ 93 := rs_94_64 (m := m) hV
    have f2 : 0 ≤ (m 94 10).toInt ∧ (m 94 10).toInt ≤ 6 := rs_94_10 (m := m) hV
    have f3 : 0 ≤ (m 94 58).toInt ∧ (m 94 58).toInt ≤ 1 := rs_94_58 (m := m) hV
    obtain ⟨c, cR, cV, cL, cM, cN, cq, c1, c0⟩ := r_ZI
    have b4 := i_bd l6
    have b5 := i_bd l5
    refine zd (fun (h6 : l6 ≤ l5) => ?_) (fun (h6 : ¬ l6 ≤ l5) => ?_)
    · skip
      have g7 := i_le h6
      have b8 := i_bd l3
      have li9 : (0 : Int32).toInt = 0 := rfl
      refine zd (fun (h10 : l3 = (0 : Int32)) => ?_) (fun (h10 : ¬ l3 = (0 : Int32)) => ?_)
      · skip
        have g11 := i_eq h10
        refine sp_236rz (aa := (ma_u c 93 l4.toInt.toNat 0)) (tt := l2.toInt)  hV (show qRv (ma_u c 93 l4.toInt.toNat 0) from by first | (exact (ZI_o0 cR cV cL cM cN cq (c0 (by omega))).2.1) | (exfalso; omega; done) | (exfalso; contradiction; done)) (show qRL (ma_u c 93 l4.toInt.toNat 0) (m 94 18) (m 94 64) (m 94 19) (m 94 63) (m 116) from by first | (exact (ZI_o0 cR cV cL cM cN cq (c0 (by omega))).2.2.2.1) | (exfalso; omega; done) | (exfalso; contradiction; done)) (show qLv (ma_u c 93 l4.toInt.toNat 0) l2.toInt from by first | (exact (ZI_o0 cR cV cL cM cN cq (c0 (by omega))).2.2.1) | (exfalso; omega; done) | (exfalso; contradiction; done)) (show qLR (ma_u c 93 l4.toInt.toNat 0) (m 94 64) (m 94 19) (m 94 18) (m 94 63) (m 122) (m 123) (m 124) from by first | (exact (ZI_o0 cR cV cL cM cN cq (c0 (by omega))).2.2.2.2.1) | (exfalso; omega; done) | (exfalso; contradiction; done)) (fun v2 m1 hV_m1 p0_m1 p1_m1 => zmi_n ?_)
        have p0_m1 : v2.toInt = -1 ∨ (0 ≤ v2.toInt ∧ v2.toInt < (m 94 64).toInt ∧ (m 124) v2.toNatClampNeg = 0) := p0_m1
        have p1_m1 : qEq v2.toInt (rFw (ma_u c 93 l4.toInt.toNat 0)) := p1_m1
        try have rpr := r_RG.2.2.2.1
        try have rsi := r_RG.1
        try have rrg := r_RG.2.1
        try have rml := RG_ml (r := l4) r_RG (by have := rs_94_18 hV; omega) (by have := rs_94_64 hV; omega)
        try have rml2 := RG_ml (r := l2) r_RG (by have := rs_94_18 hV; omega) (by have := rs_94_64 hV; omega)
        have b12 := i_bd l1
        have b13 := i_bd l2
        have b14 := i_bd v2
        exact OUT161 _ (l1) (l2) (l3) (v2) (show (((128 - cnt (m 124) 128 : Nat) : Int)).toNat < n161 from by omega) (zF_zov hF ws_236_235) hV_m1 (by omega) (by omega) (show -1 ≤ l2.toInt ∧ l2.toInt < (m 94 64).toInt from by omega) p0_m1 (by omega) r_W r_GW r_GU r_OW (show (m 94 10).toInt = 6 ∧ (m 94 58).toInt = 0 from by omega) r_WTS r_RG (show qZO (m 99) (m 100) (m 98) (m 101) (m 102) (m 103) (m 107) (m 108) (m 109) (m 111) (m 112) (m 113) (m 114) (m 94 55) (m 94 46) ro (m 94 18) (m 94 64) (m 94 19) (m 94 63) (m 116) (m 122) (m 123) (m 124) l2.toInt l3.toInt v2.toInt (rC0 aa) from by first | (exact ZO_2 (ZI_o0 cR cV cL cM cN cq (c0 (by omega))) (by omega)) | (exact ZO_1 (ZI_o1 cR cV cL cM cN cq (c1 (by omega)) (by omega) (fun r => mu_at r)) p1_m1 (by omega)) | (exfalso; omega; done) | (exfalso; contradiction; done))
      · skip
        have g15 := i_ne h10
        have b16 := i_bd l4
        try have rpr := r_RG.2.2.2.1
        try have rsi := r_RG.1
        try have rrg := r_RG.2.1
        try have rml := RG_ml (r := l4) r_RG (by have := rs_94_18 hV; omega) (by have := rs_94_64 hV; omega)
        try have rml2 := RG_ml (r := l2) r_RG (by have := rs_94_18 hV; omega) (by have := rs_94_64 hV; omega)
        have hg17 : (0 ≤ l4 ∧ l4.toNatClampNeg < 128) := i_ix (by omega) (by omega)
        refine ⟨hg17, ?_⟩
        have hV18 : zV (ma_u m 116 l4.toNatClampNeg (0 : Int32)) := ua_116 hV (by omega) (by omega)
        refine sp_236rz (aa := (ma_u (ma_u c 93 l4.toInt.toNat 0) 92 l4.toInt.toNat 0)) (tt := l2.toInt)  hV18 (show qRv (ma_u (ma_u c 93 l4.toInt.toNat 0) 92 l4.toInt.toNat 0) from by first | (exact (ZI_o1 cR cV cL cM cN cq (c1 (by omega)) (by omega) (fun r => mu_at r)).2.1) | (exfalso; omega; done) | (exfalso; contradiction; done)) (show qRL (ma_u (ma_u c 93 l4.toInt.toNat 0) 92 l4.toInt.toNat 0) (m 94 18) (m 94 64) (m 94 19) (m 94 63) ((ma_u m 116 l4.toNatClampNeg (0 : Int32)) 116) from by first | (exact (ZI_o1 cR cV cL cM cN cq (c1 (by omega)) (by omega) (fun r => mu_at r)).2.2.2.1) | (exfalso; omega; done) | (exfalso; contradiction; done)) (show qLv (ma_u (ma_u c 93 l4.toInt.toNat 0) 92 l4.toInt.toNat 0) l2.toInt from by first | (exact (ZI_o1 cR cV cL cM cN cq (c1 (by omega)) (by omega) (fun r => mu_at r)).2.2.1) | (exfalso; omega; done) | (exfalso; contradiction; done)) (show qLR (ma_u (ma_u c 93 l4.toInt.toNat 0) 92 l4.toInt.toNat 0) (m 94 64) (m 94 19) (m 94 18) (m 94 63) (m 122) (m 123) (m 124) from by first | (exact (ZI_o1 cR cV cL cM cN cq (c1 (by omega)) (by omega) (fun r => mu_at r)).2.2.2.2.1) | (exfalso; omega; done) | (exfalso; contradiction; done)) (fun v4 m3 hV_m3 p0_m3 p1_m3 => zmi_n ?_)
        have p0_m3 : v4.toInt = -1 ∨ (0 ≤ v4.toInt ∧ v4.toInt < (m 94 64).toInt ∧ (m 124) v4.toNatClampNeg = 0) := p0_m3
        have p1_m3 : qEq v4.toInt (rFw (ma_u (ma_u c 93 l4.toInt.toNat 0) 92 l4.toInt.toNat 0)) := p1_m3
        try have rpr := r_RG.2.2.2.1
        try have rsi := r_RG.1
        try have rrg := r_RG.2.1
        try have rml := RG_ml (r := l4) r_RG (by have := rs_94_18 hV; omega) (by have := rs_94_64 hV; omega)
        try have rml2 := RG_ml (r := l2) r_RG (by have := rs_94_18 hV; omega) (by have := rs_94_64 hV; omega)
        have b19 := i_bd l1
        have b20 := i_bd l2
        have b21 := i_bd v4
        exact OUT161 _ (l1) (l2) (l3) (v4) (show (((128 - cnt (m 124) 128 : Nat) : Int)).toNat < n161 from by omega) (zF_zov (zF_u hF rfl) ws_236_235) hV_m3 (by omega) (by omega) (show -1 ≤ l2.toInt ∧ l2.toInt < (m 94 64).toInt from by omega) p0_m3 (by omega) r_W r_GW r_GU r_OW (show (m 94 10).toInt = 6 ∧ (m 94 58).toInt = 0 from by omega) r_WTS (show zRG1 (m 94 18) (m 94 64) (m 94 63) (m 99) (m 103) (m 102) ((ma_u m 116 l4.toNatClampNeg (0 : Int32)) 116) from by first | (exact RG_put r_RG (by omega)) | (exfalso; omega; done) | (exfalso; contradiction; done)) (show qZO (m 99) (m 100) (m 98) (m 101) (m 102) (m 103) (m 107) (m 108) (m 109) (m 111) (m 112) (m 113) (m 114) (m 94 55) (m 94 46) ro (m 94 18) (m 94 64) (m 94 19) (m 94 63) ((ma_u m 116 l4.toNatClampNeg (0 : Int32)) 116) (m 122) (m 123) (m 124) l2.toInt l3.toInt v4.toInt (rC0 aa) from by first | (exact ZO_1 (ZI_o1 cR cV cL cM cN cq (c1 (by omega)) (by omega) (fun r => mu_at r)) p1_m3 (by omega)) | (exact ZO_2 (ZI_o0 cR cV cL cM cN cq (c0 (by omega))) (by omega)) | (exfalso; omega; done) | (exfalso; contradiction; done))
    · skip
      have g22 := i_nle h6
      have b23 := i_bd l3
      have li24 : (0 : Int32).toInt = 0 := rfl
      refine zd (fun (h25 : l3 = (0 : Int32)) => ?_) (fun (h25 : ¬ l3 = (0 : Int32)) => ?_)
      · skip
        have g26 := i_eq h25
        refine zd (fun (h27 : l3 = (0 : Int32)) => ?_) (fun (h27 : ¬ l3 = (0 : Int32)) => ?_)
        · skip
          have g28 := i_eq h27
          refine sp_236rz (aa := (ma_u c 93 l4.toInt.toNat 0)) (tt := l2.toInt)  hV (show qRv (ma_u c 93 l4.toInt.toNat 0) from by first | (exact (ZI_o0 cR cV cL cM cN cq (c0 (by omega))).2.1) | (exfalso; omega; done) | (exfalso; contradiction; done)) (show qRL (ma_u c 93 l4.toInt.toNat 0) (m 94 18) (m 94 64) (m 94 19) (m 94 63) (m 116) from by first | (exact (ZI_o0 cR cV cL cM cN cq (c0 (by omega))).2.2.2.1) | (exfalso; omega; done) | (exfalso; contradiction; done)) (show qLv (ma_u c 93 l4.toInt.toNat 0) l2.toInt from by first | (exact (ZI_o0 cR cV cL cM cN cq (c0 (by omega))).2.2.1) | (exfalso; omega; done) | (exfalso; contradiction; done)) (show qLR (ma_u c 93 l4.toInt.toNat 0) (m 94 64) (m 94 19) (m 94 18) (m 94 63) (m 122) (m 123) (m 124) from by first | (exact (ZI_o0 cR cV cL cM cN cq (c0 (by omega))).2.2.2.2.1) | (exfalso; omega; done) | (exfalso; contradiction; done)) (fun v6 m5 hV_m5 p0_m5 p1_m5 => zmi_n ?_)
          have p0_m5 : v6.toInt = -1 ∨ (0 ≤ v6.toInt ∧ v6.toInt < (m 94 64).toInt ∧ (m 124) v6.toNatClampNeg = 0) := p0_m5
          have p1_m5 : qEq v6.toInt (rFw (ma_u c 93 l4.toInt.toNat 0)) := p1_m5
          try have rpr := r_RG.2.2.2.1
          try have rsi := r_RG.1
          try have rrg := r_RG.2.1
          try have rml := RG_ml (r := l4) r_RG (by have := rs_94_18 hV; omega) (by have := rs_94_64 hV; omega)
          try have rml2 := RG_ml (r := l2) r_RG (by have := rs_94_18 hV; omega) (by have := rs_94_64 hV; omega)
          have b29 := i_bd l1
          have b30 := i_bd l2
          have b31 := i_bd v6
          exact OUT161 _ (l1) (l2) (l3) (v6) (show (((128 - cnt (m 124) 128 : Nat) : Int)).toNat < n161 from by omega) (zF_zov hF ws_236_235) hV_m5 (by omega) (by omega) (show -1 ≤ l2.toInt ∧ l2.toInt < (m 94 64).toInt from by omega) p0_m5 (by omega) r_W r_GW r_GU r_OW (show (m 94 10).toInt = 6 ∧ (m 94 58).toInt = 0 from by omega) r_WTS r_RG (show qZO (m 99) (m 100) (m 98) (m 101) (m 102) (m 103) (m 107) (m 108) (m 109) (m 111) (m 112) (m 113) (m 114) (m 94 55) (m 94 46) ro (m 94 18) (m 94 64) (m 94 19) (m 94 63) (m 116) (m 122) (m 123) (m 124) l2.toInt l3.toInt v6.toInt (rC0 aa) from by first | (exact ZO_2 (ZI_o0 cR cV cL cM cN cq (c0 (by omega))) (by omega)) | (exact ZO_1 (ZI_o1 cR cV cL cM cN cq (c1 (by omega)) (by omega) (fun r => mu_at r)) p1_m5 (by omega)) | (exfalso; omega; done) | (exfalso; contradiction; done))
        · skip
          have g32 := i_ne h27
          have b33 := i_bd l4
          try have rpr := r_RG.2.2.2.1
          try have rsi := r_RG.1
          try have rrg := r_RG.2.1
          try have rml := RG_ml (r := l4) r_RG (by have := rs_94_18 hV; omega) (by have := rs_94_64 hV; omega)
          try have rml2 := RG_ml (r := l2) r_RG (by have := rs_94_18 hV; omega) (by have := rs_94_64 hV; omega)
          have hg34 : (0 ≤ l4 ∧ l4.toNatClampNeg < 128) := i_ix (by omega) (by omega)
          refine ⟨hg34, ?_⟩
          have hV35 : zV (ma_u m 116 l4.toNatClampNeg (0 : Int32)) := ua_116 hV (by omega) (by omega)
          refine sp_236rz (aa := (ma_u (ma_u c 93 l4.toInt.toNat 0) 92 l4.toInt.toNat 0)) (tt := l2.toInt)  hV35 (show qRv (ma_u (ma_u c 93 l4.toInt.toNat 0) 92 l4.toInt.toNat 0) from by first | (exact (ZI_o1 cR cV cL cM cN cq (c1 (by omega)) (by omega) (fun r => mu_at r)).2.1) | (exfalso; omega; done) | (exfalso; contradiction; done)) (show qRL (ma_u (ma_u c 93 l4.toInt.toNat 0) 92 l4.toInt.toNat 0) (m 94 18) (m 94 64) (m 94 19) (m 94 63) ((ma_u m 116 l4.toNatClampNeg (0 : Int32)) 116) from by first | (exact (ZI_o1 cR cV cL cM cN cq (c1 (by omega)) (by omega) (fun r => mu_at r)).2.2.2.1) | (exfalso; omega; done) | (exfalso; contradiction; done)) (show qLv (ma_u (ma_u c 93 l4.toInt.toNat 0) 92 l4.toInt.toNat 0) l2.toInt from by first | (exact (ZI_o1 cR cV cL cM cN cq (c1 (by omega)) (by omega) (fun r => mu_at r)).2.2.1) | (exfalso; omega; done) | (exfalso; contradiction; done)) (show qLR (ma_u (ma_u c 93 l4.toInt.toNat 0) 92 l4.toInt.toNat 0) (m 94 64) (m 94 19) (m 94 18) (m 94 63) (m 122) (m 123) (m 124) from by first | (exact (ZI_o1 cR cV cL cM cN cq (c1 (by omega)) (by omega) (fun r => mu_at r)).2.2.2.2.1) | (exfalso; omega; done) | (exfalso; contradiction; done)) (fun v8 m7 hV_m7 p0_m7 p1_m7 => zmi_n ?_)
          have p0_m7 : v8.toInt = -1 ∨ (0 ≤ v8.toInt ∧ v8.toInt < (m 94 64).toInt ∧ (m 124) v8.toNatClampNeg = 0) := p0_m7
          have p1_m7 : qEq v8.toInt (rFw (ma_u (ma_u c 93 l4.toInt.toNat 0) 92 l4.toInt.toNat 0)) := p1_m7
          try have rpr := r_RG.2.2.2.1
          try have rsi := r_RG.1
          try have rrg := r_RG.2.1
          try have rml := RG_ml (r := l4) r_RG (by have := rs_94_18 hV; omega) (by have := rs_94_64 hV; omega)
          try have rml2 := RG_ml (r := l2) r_RG (by have := rs_94_18 hV; omega) (by have := rs_94_64 hV; omega)
          have b36 := i_bd l1
          have b37 := i_bd l2
          have b38 := i_bd v8
          exact OUT161 _ (l1) (l2) (l3) (v8) (show (((128 - cnt (m 124) 128 : Nat) : Int)).toNat < n161 from by omega) (zF_zov (zF_u hF rfl) ws_236_235) hV_m7 (by omega) (by omega) (show -1 ≤ l2.toInt ∧ l2.toInt < (m 94 64).toInt from by omega) p0_m7 (by omega) r_W r_GW r_GU r_OW (show (m 94 10).toInt = 6 ∧ (m 94 58).toInt = 0 from by omega) r_WTS (show zRG1 (m 94 18) (m 94 64) (m 94 63) (m 99) (m 103) (m 102) ((ma_u m 116 l4.toNatClampNeg (0 : Int32)) 116) from by first | (exact RG_put r_RG (by omega)) | (exfalso; omega; done) | (exfalso; contradiction; done)) (show qZO (m 99) (m 100) (m 98) (m 101) (m 102) (m 103) (m 107) (m 108) (m 109) (m 111) (m 112) (m 113) (m 114) (m 94 55) (m 94 46) ro (m 94 18) (m 94 64) (m 94 19) (m 94 63) ((ma_u m 116 l4.toNatClampNeg (0 : Int32)) 116) (m 122) (m 123) (m 124) l2.toInt l3.toInt v8.toInt (rC0 aa) from by first | (exact ZO_1 (ZI_o1 cR cV cL cM cN cq (c1 (by omega)) (by omega) (fun r => mu_at r)) p1_m7 (by omega)) | (exact ZO_2 (ZI_o0 cR cV cL cM cN cq (c0 (by omega))) (by omega)) | (exfalso; omega; done) | (exfalso; contradiction; done))
      · skip
        have g39 := i_ne h25
        try have rpr := r_RG.2.2.2.1
        try have rsi := r_RG.1
        try have rrg := r_RG.2.1
        try have rml := RG_ml (r := l4) r_RG (by have := rs_94_18 hV; omega) (by have := rs_94_64 hV; omega)
        try have rml2 := RG_ml (r := l2) r_RG (by have := rs_94_18 hV; omega) (by have := rs_94_64 hV; omega)
        have hg40 : (0 ≤ l5 ∧ l5.toNatClampNeg < 4600) := i_ix (by omega) (by omega)
        refine ⟨hg40, ?_⟩
        first | have f41 : -1 ≤ (m 111 l5.toNatClampNeg).toInt ∧ (m 111 l5.toNatClampNeg).toInt ≤ 3099 := ra_111 (m := m) hV (k := l5.toNatClampNeg) (i_ix (n := 4600) (by omega) (by omega)).2 | have b42 := i_bd (m 111 l5.toNatClampNeg)
        refine zd (fun (h43 : (0 : Int32) ≤ (m 111 l5.toNatClampNeg)) => ?_) (fun (h43 : ¬ (0 : Int32) ≤ (m 111 l5.toNatClampNeg)) => ?_)
        · skip
          have g44 := i_le h43
          try have ow5 := r_OW l5.toNatClampNeg (by omega) (by omega)
          skip
          have hg45 : (0 ≤ (m 111 l5.toNatClampNeg) ∧ (m 111 l5.toNatClampNeg).toNatClampNeg < 3100) := i_ix (by omega) (by omega)
          refine ⟨hg45, ?_⟩
          have b46 := i_bd l2
          refine zd (fun (h47 : l2 < (0 : Int32)) => ?_) (fun (h47 : ¬ l2 < (0 : Int32)) => ?_)
          · skip
            have g48 := i_lt h47
            refine sp_234rz (aa := c)  hV (show qRv c from by first | (exact cV) | (exfalso; omega; done) | (exfalso; contradiction; done)) (show qRL c (m 94 18) (m 94 64) (m 94 19) (m 94 63) (m 116) from by first | (exact cM) | (exfalso; omega; done) | (exfalso; contradiction; done)) (fun v10 m9 hV_m9 p0_m9 p1_m9 => zmi_n ?_)
            have p0_m9 : zLE (m 116) (m 94 64) v10 := p0_m9
            have p1_m9 : qEq v10.toInt (rLe c) := p1_m9
            try have lel := LE_lo p0_m9
            skip
            try have lrg := RG_LE r_RG p0_m9 (by have := rs_94_18 hV; omega) (by have := rs_94_64 hV; omega)
            have b49 := i_bd v10
            refine zd (fun (h50 : (0 : Int32) ≤ v10) => ?_) (fun (h50 : ¬ (0 : Int32) ≤ v10) => ?_)
            · skip
              have g51 := i_le h50
              refine zd (fun (h52 : l3 = (0 : Int32)) => ?_) (fun (h52 : ¬ l3 = (0 : Int32)) => ?_)
              · skip
                have g53 := i_eq h52
                try have rpr := r_RG.2.2.2.1
                try have rsi := r_RG.1
                try have rrg := r_RG.2.1
                try have rml := RG_ml (r := l4) r_RG (by have := rs_94_18 hV; omega) (by have := rs_94_64 hV; omega)
                try have rml2 := RG_ml (r := l2) r_RG (by have := rs_94_18 hV; omega) (by have := rs_94_64 hV; omega)
                have b54 := i_bd l1
                have b55 := i_bd l4
                first | have f56 : 0 ≤ (m 102 (m 111 l5.toNatClampNeg).toNatClampNeg).toInt ∧ (m 102 (m 111 l5.toNatClampNeg).toNatClampNeg).toInt ≤ 60 := ra_102 (m := m) hV (k := (m 111 l5.toNatClampNeg).toNatClampNeg) (i_ix (n := 3100) (by omega) (by omega)).2 | have b57 := i_bd (m 102 (m 111 l5.toNatClampNeg).toNatClampNeg)
                first | have e58 : ((m 102 (m 111 l5.toNatClampNeg).toNatClampNeg) + (1 : Int32)).toInt = (m 102 (m 111 l5.toNatClampNeg).toNatClampNeg).toInt + (1) := i_addk rfl (by omega) (by omega) | have b59 := i_bd ((m 102 (m 111 l5.toNatClampNeg).toNatClampNeg) + (1 : Int32))
                first | have e60 : (l5 + ((m 102 (m 111 l5.toNatClampNeg).toNatClampNeg) + (1 : Int32))).toInt = l5.toInt + ((m 102 (m 111 l5.toNatClampNeg).toNatClampNeg) + (1 : Int32)).toInt := i_add (by omega) (by omega) | have b61 := i_bd (l5 + ((m 102 (m 111 l5.toNatClampNeg).toNatClampNeg) + (1 : Int32)))
                exact IH (l6.toInt - (l5 + ((m 102 (m 111 l5.toNatClampNeg).toNatClampNeg) + (1 : Int32))).toInt).toNat (by omega) _ (l1) (v10) (l3) (l4) ((l5 + ((m 102 (m 111 l5.toNatClampNeg).toNatClampNeg) + (1 : Int32)))) (l6) rfl (zF_zov hF ws_234_235) hV_m9 (by omega) (by omega) (show -1 ≤ v10.toInt ∧ v10.toInt < (m 94 64).toInt from by omega) (by omega) (show l4.toInt < (m 94 64).toInt from by omega) (by omega) (by omega) (by omega) r_MD (by omega) r_W r_GW r_GU r_OW (show (m 94 10).toInt = 6 ∧ (m 94 58).toInt = 0 from by omega) r_WTS r_RG (show qZI (m 99) (m 100) (m 98) (m 101) (m 102) (m 103) (m 107) (m 108) (m 109) (m 111) (m 112) (m 113) (m 114) (m 94 55) (m 94 46) ro (m 94 18) (m 94 64) (m 94 19) (m 94 63) (m 116) (m 122) (m 123) (m 124) v10.toInt l3.toInt l4.toInt (l5 + ((m 102 (m 111 l5.toNatClampNeg).toNatClampNeg) + (1 : Int32))).toInt l6.toInt (rC0 aa) from by first | (exfalso; omega; done) | (exact ZI_no cR cV cL cM cN cq (c1 (by omega)) (s := (m 111 l5.toNatClampNeg)) r_OW (by omega) (by omega) (by omega) rfl (by omega) (by omega) ((TO_l cV cM (by omega) (Or.inl (by omega)) (qE2 p1_m9)).trans (by omega))) | (exact ZI_no cR cV cL cM cN cq (c1 (by omega)) (s := (m 111 l5.toNatClampNeg)) r_OW (by omega) (by omega) (by omega) rfl (by omega) (by omega) ((TO_l cV cM (by omega) (Or.inr (by omega)) (qE2 p1_m9)).trans (by omega))) | (exfalso; contradiction; done))
              · skip
                have g62 := i_ne h52
                try have rpr := r_RG.2.2.2.1
                try have rsi := r_RG.1
                try have rrg := r_RG.2.1
                try have rml := RG_ml (r := l4) r_RG (by have := rs_94_18 hV; omega) (by have := rs_94_64 hV; omega)
                try have rml2 := RG_ml (r := l2) r_RG (by have := rs_94_18 hV; omega) (by have := rs_94_64 hV; omega)
                have hg63 : (0 ≤ v10 ∧ v10.toNatClampNeg < 128) := i_ix (by omega) (by omega)
                refine ⟨hg63, ?_⟩
                have f64 : 0 ≤ (m 94 18).toInt ∧ (m 94 18).toInt ≤ 256 := rs_94_18 (m := m) hV
                first | have f65 := i_muln (x := v10) (y := (m 94 18)) (by omega) (by omega) (by omega) (by omega) | have b66 := i_bd (v10 * (m 94 18))
                first | have f67 : 0 ≤ (m 116 v10.toNatClampNeg).toInt ∧ (m 116 v10.toNatClampNeg).toInt ≤ 4600 := ra_116 (m := m) hV (k := v10.toNatClampNeg) (i_ix (n := 128) (by omega) (by omega)).2 | have b68 := i_bd (m 116 v10.toNatClampNeg)
                first | have e69 : ((v10 * (m 94 18)) + (m 116 v10.toNatClampNeg)).toInt = (v10 * (m 94 18)).toInt + (m 116 v10.toNatClampNeg).toInt := i_add (by omega) (by omega) | have b70 := i_bd ((v10 * (m 94 18)) + (m 116 v10.toNatClampNeg))
                refine sp_205 ((m 111 l5.toNatClampNeg)) (((v10 * (m 94 18)) + (m 116 v10.toNatClampNeg))) hV_m9 (by omega) (by omega) (by omega) (by omega) (show (m 99) (m 111 l5.toNatClampNeg).toNatClampNeg ≠ 0 from by first | (exact ow5.1) | (assumption; done) | (exact ow3.1) | (exfalso; omega; done) | (exfalso; contradiction; done)) r_OW (fun m11 hV_m11 p0_m11 p1_m11 => zmv_n ?_)
                have p0_m11 : zOw (m 99) (m11 103) (m11 111) := p0_m11
                have p1_m11 : zmov (m 111 l5.toNatClampNeg) ((v10 * (m 94 18)) + (m 116 v10.toNatClampNeg)) (m 103) (m 111) (m11 103) (m11 111) := p1_m11
                try have mvs := mv_s p1_m11
                try have rpr := r_RG.2.2.2.1
                try have rsi := r_RG.1
                try have rrg := r_RG.2.1
                try have rml := RG_ml (r := l4) r_RG (by have := rs_94_18 hV; omega) (by have := rs_94_64 hV; omega)
                try have rml2 := RG_ml (r := l2) r_RG (by have := rs_94_18 hV; omega) (by have := rs_94_64 hV; omega)
                have hg71 : (0 ≤ v10 ∧ v10.toNatClampNeg < 128) := i_ix (by omega) (by omega)
                refine ⟨hg71, ?_⟩
                skip
                try have ra5 := RG_at r_RG (s := (m 111 l5.toNatClampNeg).toNatClampNeg) (by omega) ow5.1
                have hg72 : (0 ≤ (m 111 l5.toNatClampNeg) ∧ (m 111 l5.toNatClampNeg).toNatClampNeg < 3100) := i_ix (by omega) (by omega)
                refine ⟨hg72, ?_⟩
                try have rpr := r_RG.2.2.2.1
                try have rsi := r_RG.1
                try have rrg := r_RG.2.1
                try have rml := RG_ml (r := l4) r_RG (by have := rs_94_18 hV; omega) (by have := rs_94_64 hV; omega)
                try have rml2 := RG_ml (r := l2) r_RG (by have := rs_94_18 hV; omega) (by have := rs_94_64 hV; omega)
                have hg73 : (0 ≤ v10 ∧ v10.toNatClampNeg < 128) := i_ix (by omega) (by omega)
                refine ⟨hg73, ?_⟩
                try have rpr := r_RG.2.2.2.1
                try have rsi := r_RG.1
                try have rrg := r_RG.2.1
                try have rml := RG_ml (r := l4) r_RG (by have := rs_94_18 hV; omega) (by have := rs_94_64 hV; omega)
                try have rml2 := RG_ml (r := l2) r_RG (by have := rs_94_18 hV; omega) (by have := rs_94_64 hV; omega)
                first | have f75 : 0 ≤ (m 102 (m 111 l5.toNatClampNeg).toNatClampNeg).toInt ∧ (m 102 (m 111 l5.toNatClampNeg).toNatClampNeg).toInt ≤ 60 := ra_102 (m := m) hV (k := (m 111 l5.toNatClampNeg).toNatClampNeg) (i_ix (n := 3100) (by omega) (by omega)).2 | have b76 := i_bd (m 102 (m 111 l5.toNatClampNeg).toNatClampNeg)
                first | have e77 : ((m 102 (m 111 l5.toNatClampNeg).toNatClampNeg) + (1 : Int32)).toInt = (m 102 (m 111 l5.toNatClampNeg).toNatClampNeg).toInt + (1) := i_addk rfl (by omega) (by omega) | have b78 := i_bd ((m 102 (m 111 l5.toNatClampNeg).toNatClampNeg) + (1 : Int32))
                first | have e79 : ((m 116 v10.toNatClampNeg) + ((m 102 (m 111 l5.toNatClampNeg).toNatClampNeg) + (1 : Int32))).toInt = (m 116 v10.toNatClampNeg).toInt + ((m 102 (m 111 l5.toNatClampNeg).toNatClampNeg) + (1 : Int32)).toInt := i_add (by omega) (by omega) | have b80 := i_bd ((m 116 v10.toNatClampNeg) + ((m 102 (m 111 l5.toNatClampNeg).toNatClampNeg) + (1 : Int32)))
                have hV74 : zV (ma_u (zov wr_205 (zov wr_234 m m9) m11) 116 v10.toNatClampNeg ((m 116 v10.toNatClampNeg) + ((m 102 (m 111 l5.toNatClampNeg).toNatClampNeg) + (1 : Int32)))) := ua_116 hV_m11 (by omega) (by omega)
                have b81 := i_bd l1
                have b82 := i_bd l4
                first | have e83 : (l5 + ((m 102 (m 111 l5.toNatClampNeg).toNatClampNeg) + (1 : Int32))).toInt = l5.toInt + ((m 102 (m 111 l5.toNatClampNeg).toNatClampNeg) + (1 : Int32)).toInt := i_add (by omega) (by omega) | have b84 := i_bd (l5 + ((m 102 (m 111 l5.toNatClampNeg).toNatClampNeg) + (1 : Int32)))
                exact IH (l6.toInt - (l5 + ((m 102 (m 111 l5.toNatClampNeg).toNatClampNeg) + (1 : Int32))).toInt).toNat (by omega) _ (l1) (v10) (l3) (l4) ((l5 + ((m 102 (m 111 l5.toNatClampNeg).toNatClampNeg) + (1 : Int32)))) (l6) rfl (zF_u (zF_zov (zF_zov hF ws_234_235) ws_205_235) rfl) hV74 (by omega) (by omega) (show -1 ≤ v10.toInt ∧ v10.toInt < (m 94 64).toInt from by omega) (by omega) (show l4.toInt < (m 94 64).toInt from by omega) (by omega) (by omega) (by omega) r_MD (by omega) r_W r_GW r_GU p0_m11 (show (m 94 10).toInt = 6 ∧ (m 94 58).toInt = 0 from by omega) r_WTS (show zRG1 (m 94 18) (m 94 64) (m 94 63) (m 99) (m11 103) (m 102) ((ma_u m 116 v10.toNatClampNeg ((m 116 v10.toNatClampNeg) + ((m 102 (m 111 l5.toNatClampNeg).toNatClampNeg) + (1 : Int32)))) 116) from by first | (exact RG_put (RG_mv2 r_RG p1_m11 (by omega)) (by omega)) | (exact RG_put r_RG (by omega)) | (exfalso; omega; done) | (exfalso; contradiction; done)) (show qZI (m 99) (m 100) (m 98) (m 101) (m 102) (m11 103) (m 107) (m 108) (m 109) (m11 111) (m 112) (m 113) (m 114) (m 94 55) (m 94 46) ro (m 94 18) (m 94 64) (m 94 19) (m 94 63) ((ma_u m 116 v10.toNatClampNeg ((m 116 v10.toNatClampNeg) + ((m 102 (m 111 l5.toNatClampNeg).toNatClampNeg) + (1 : Int32)))) 116) (m 122) (m 123) (m 124) v10.toInt l3.toInt l4.toInt (l5 + ((m 102 (m 111 l5.toNatClampNeg).toNatClampNeg) + (1 : Int32))).toInt l6.toInt (rC0 aa) from by first | (exact ZI_mv cR cV cL cM cN cq (c1 (by omega)) (s := (m 111 l5.toNatClampNeg)) r_OW (by omega) (by omega) (by omega) rfl (by omega) (by omega) (TO_l cV cM (by omega) (Or.inl (by omega)) p1_m9) (by omega) p1_m11 (by have mm := (i_muln (x := v10) (y := m 94 18) (by omega) (by omega) (by omega) (by have := rs_94_18 hV; omega)).2.2; rw [i_add (by omega) (by omega), mm]) (fun r => mu_at r) (by omega) (by omega)) | (exact ZI_mv cR cV cL cM cN cq (c1 (by omega)) (s := (m 111 l5.toNatClampNeg)) r_OW (by omega) (by omega) (by omega) rfl (by omega) (by omega) (TO_l cV cM (by omega) (Or.inr (by omega)) p1_m9) (by omega) p1_m11 (by have mm := (i_muln (x := v10) (y := m 94 18) (by omega) (by omega) (by omega) (by have := rs_94_18 hV; omega)).2.2; rw [i_add (by omega) (by omega), mm]) (fun r => mu_at r) (by omega) (by omega)) | (exfalso; omega; done) | (exfalso; contradiction; done))
            · skip
              have g85 := i_nle h50
              try have rpr := r_RG.2.2.2.1
              try have rsi := r_RG.1
              try have rrg := r_RG.2.1
              try have rml := RG_ml (r := l4) r_RG (by have := rs_94_18 hV; omega) (by have := rs_94_64 hV; omega)
              try have rml2 := RG_ml (r := l2) r_RG (by have := rs_94_18 hV; omega) (by have := rs_94_64 hV; omega)
              have b86 := i_bd l1
              have b87 := i_bd l4
              first | have f88 : 0 ≤ (m 102 (m 111 l5.toNatClampNeg).toNatClampNeg).toInt ∧ (m 102 (m 111 l5.toNatClampNeg).toNatClampNeg).toInt ≤ 60 := ra_102 (m := m) hV (k := (m 111 l5.toNatClampNeg).toNatClampNeg) (i_ix (n := 3100) (by omega) (by omega)).2 | have b89 := i_bd (m 102 (m 111 l5.toNatClampNeg).toNatClampNeg)
              first | have e90 : ((m 102 (m 111 l5.toNatClampNeg).toNatClampNeg) + (1 : Int32)).toInt = (m 102 (m 111 l5.toNatClampNeg).toNatClampNeg).toInt + (1) := i_addk rfl (by omega) (by omega) | have b91 := i_bd ((m 102 (m 111 l5.toNatClampNeg).toNatClampNeg) + (1 : Int32))
              first | have e92 : (l5 + ((m 102 (m 111 l5.toNatClampNeg).toNatClampNeg) + (1 : Int32))).toInt = l5.toInt + ((m 102 (m 111 l5.toNatClampNeg).toNatClampNeg) + (1 : Int32)).toInt := i_add (by omega) (by omega) | have b93 := i_bd (l5 + ((m 102 (m 111 l5.toNatClampNeg).toNatClampNeg) + (1 : Int32)))
              exact IH (l6.toInt - (l5 + ((m 102 (m 111 l5.toNatClampNeg).toNatClampNeg) + (1 : Int32))).toInt).toNat (by omega) _ (l1) (l2) ((0 : Int32)) (l4) ((l5 + ((m 102 (m 111 l5.toNatClampNeg).toNatClampNeg) + (1 : Int32)))) (l6) rfl (zF_zov hF ws_234_235) hV_m9 (by omega) (by omega) (show -1 ≤ l2.toInt ∧ l2.toInt < (m 94 64).toInt from by omega) (by omega) (show l4.toInt < (m 94 64).toInt from by omega) (by omega) (by omega) (by omega) r_MD (by omega) r_W r_GW r_GU r_OW (show (m 94 10).toInt = 6 ∧ (m 94 58).toInt = 0 from by omega) r_WTS r_RG (show qZI (m 99) (m 100) (m 98) (m 101) (m 102) (m 103) (m 107) (m 108) (m 109) (m 111) (m 112) (m 113) (m 114) (m 94 55) (m 94 46) ro (m 94 18) (m 94 64) (m 94 19) (m 94 63) (m 116) (m 122) (m 123) (m 124) l2.toInt (0 : Int32).toInt l4.toInt (l5 + ((m 102 (m 111 l5.toNatClampNeg).toNatClampNeg) + (1 : Int32))).toInt l6.toInt (rC0 aa) from by first | (exact ZI_no cR cV cL cM cN cq (c1 (by omega)) (s := (m 111 l5.toNatClampNeg)) r_OW (by omega) (by omega) (by omega) rfl (by omega) (by omega) ((TO_l cV cM (by omega) (Or.inl (by omega)) (qE2 p1_m9)).trans (by omega))) | (exact ZI_no cR cV cL cM cN cq (c1 (by omega)) (s := (m 111 l5.toNatClampNeg)) r_OW (by omega) (by omega) (by omega) rfl (by omega) (by omega) ((TO_l cV cM (by omega) (Or.inr (by omega)) (qE2 p1_m9)).trans (by omega))) | (exfalso; omega; done) | (exfalso; contradiction; done))
          · skip
            have g94 := i_nlt h47
            try have rpr := r_RG.2.2.2.1
            try have rsi := r_RG.1
            try have rrg := r_RG.2.1
            try have rml := RG_ml (r := l4) r_RG (by have := rs_94_18 hV; omega) (by have := rs_94_64 hV; omega)
            try have rml2 := RG_ml (r := l2) r_RG (by have := rs_94_18 hV; omega) (by have := rs_94_64 hV; omega)
            have hg95 : (0 ≤ l2 ∧ l2.toNatClampNeg < 128) := i_ix (by omega) (by omega)
            refine ⟨hg95, ?_⟩
            try have ow5 := r_OW l5.toNatClampNeg (by omega) (by omega)
            try have ra5 := RG_at r_RG (s := (m 111 l5.toNatClampNeg).toNatClampNeg) (by omega) ow5.1
            have hg96 : (0 ≤ (m 111 l5.toNatClampNeg) ∧ (m 111 l5.toNatClampNeg).toNatClampNeg < 3100) := i_ix (by omega) (by omega)
            refine ⟨hg96, ?_⟩
            first | have f97 : 0 ≤ (m 116 l2.toNatClampNeg).toInt ∧ (m 116 l2.toNatClampNeg).toInt ≤ 4600 := ra_116 (m := m) hV (k := l2.toNatClampNeg) (i_ix (n := 128) (by omega) (by omega)).2 | have b98 := i_bd (m 116 l2.toNatClampNeg)
            first | have f99 : 0 ≤ (m 102 (m 111 l5.toNatClampNeg).toNatClampNeg).toInt ∧ (m 102 (m 111 l5.toNatClampNeg).toNatClampNeg).toInt ≤ 60 := ra_102 (m := m) hV (k := (m 111 l5.toNatClampNeg).toNatClampNeg) (i_ix (n := 3100) (by omega) (by omega)).2 | have b100 := i_bd (m 102 (m 111 l5.toNatClampNeg).toNatClampNeg)
            first | have e101 : ((m 102 (m 111 l5.toNatClampNeg).toNatClampNeg) + (1 : Int32)).toInt = (m 102 (m 111 l5.toNatClampNeg).toNatClampNeg).toInt + (1) := i_addk rfl (by omega) (by omega) | have b102 := i_bd ((m 102 (m 111 l5.toNatClampNeg).toNatClampNeg) + (1 : Int32))
            first | have e103 : ((m 116 l2.toNatClampNeg) + ((m 102 (m 111 l5.toNatClampNeg).toNatClampNeg) + (1 : Int32))).toInt = (m 116 l2.toNatClampNeg).toInt + ((m 102 (m 111 l5.toNatClampNeg).toNatClampNeg) + (1 : Int32)).toInt := i_add (by omega) (by omega) | have b104 := i_bd ((m 116 l2.toNatClampNeg) + ((m 102 (m 111 l5.toNatClampNeg).toNatClampNeg) + (1 : Int32)))
            have f105 : 0 ≤ (m 94 18).toInt ∧ (m 94 18).toInt ≤ 256 := rs_94_18 (m := m) hV
            refine zd (fun (h106 : ((m 116 l2.toNatClampNeg) + ((m 102 (m 111 l5.toNatClampNeg).toNatClampNeg) + (1 : Int32))) ≤ (m 94 18)) => ?_) (fun (h106 : ¬ ((m 116 l2.toNatClampNeg) + ((m 102 (m 111 l5.toNatClampNeg).toNatClampNeg) + (1 : Int32))) ≤ (m 94 18)) => ?_)
            · skip
              have g107 := i_le h106
              refine zd (fun (h108 : l3 = (0 : Int32)) => ?_) (fun (h108 : ¬ l3 = (0 : Int32)) => ?_)
              · skip
                have g109 := i_eq h108
                try have rpr := r_RG.2.2.2.1
                try have rsi := r_RG.1
                try have rrg := r_RG.2.1
                try have rml := RG_ml (r := l4) r_RG (by have := rs_94_18 hV; omega) (by have := rs_94_64 hV; omega)
                try have rml2 := RG_ml (r := l2) r_RG (by have := rs_94_18 hV; omega) (by have := rs_94_64 hV; omega)
                have b110 := i_bd l1
                have b111 := i_bd l4
                first | have e112 : (l5 + ((m 102 (m 111 l5.toNatClampNeg).toNatClampNeg) + (1 : Int32))).toInt = l5.toInt + ((m 102 (m 111 l5.toNatClampNeg).toNatClampNeg) + (1 : Int32)).toInt := i_add (by omega) (by omega) | have b113 := i_bd (l5 + ((m 102 (m 111 l5.toNatClampNeg).toNatClampNeg) + (1 : Int32)))
                exact IH (l6.toInt - (l5 + ((m 102 (m 111 l5.toNatClampNeg).toNatClampNeg) + (1 : Int32))).toInt).toNat (by omega) _ (l1) (l2) (l3) (l4) ((l5 + ((m 102 (m 111 l5.toNatClampNeg).toNatClampNeg) + (1 : Int32)))) (l6) rfl hF hV (by omega) (by omega) (show -1 ≤ l2.toInt ∧ l2.toInt < (m 94 64).toInt from by omega) (by omega) (show l4.toInt < (m 94 64).toInt from by omega) (by omega) (by omega) (by omega) r_MD (by omega) r_W r_GW r_GU r_OW (show (m 94 10).toInt = 6 ∧ (m 94 58).toInt = 0 from by omega) r_WTS r_RG (show qZI (m 99) (m 100) (m 98) (m 101) (m 102) (m 103) (m 107) (m 108) (m 109) (m 111) (m 112) (m 113) (m 114) (m 94 55) (m 94 46) ro (m 94 18) (m 94 64) (m 94 19) (m 94 63) (m 116) (m 122) (m 123) (m 124) l2.toInt l3.toInt l4.toInt (l5 + ((m 102 (m 111 l5.toNatClampNeg).toNatClampNeg) + (1 : Int32))).toInt l6.toInt (rC0 aa) from by first | (exact ZI_fr cR cV cL cM cN cq (c1 (by omega)) (by omega) (by omega) (by omega) (by omega) (by omega) (by omega)) | (exfalso; omega; done) | (exfalso; contradiction; done))
              · skip
                have g114 := i_ne h108
                try have rpr := r_RG.2.2.2.1
                try have rsi := r_RG.1
                try have rrg := r_RG.2.1
                try have rml := RG_ml (r := l4) r_RG (by have := rs_94_18 hV; omega) (by have := rs_94_64 hV; omega)
                try have rml2 := RG_ml (r := l2) r_RG (by have := rs_94_18 hV; omega) (by have := rs_94_64 hV; omega)
                have hg115 : (0 ≤ l2 ∧ l2.toNatClampNeg < 128) := i_ix (by omega) (by omega)
                refine ⟨hg115, ?_⟩
                first | have f116 := i_muln (x := l2) (y := (m 94 18)) (by omega) (by omega) (by omega) (by omega) | have b117 := i_bd (l2 * (m 94 18))
                first | have e118 : ((l2 * (m 94 18)) + (m 116 l2.toNatClampNeg)).toInt = (l2 * (m 94 18)).toInt + (m 116 l2.toNatClampNeg).toInt := i_add (by omega) (by omega) | have b119 := i_bd ((l2 * (m 94 18)) + (m 116 l2.toNatClampNeg))
                refine sp_205 ((m 111 l5.toNatClampNeg)) (((l2 * (m 94 18)) + (m 116 l2.toNatClampNeg))) hV (by omega) (by omega) (by omega) (by omega) (show (m 99) (m 111 l5.toNatClampNeg).toNatClampNeg ≠ 0 from by first | (exact ow5.1) | (assumption; done) | (exact ow3.1) | (exfalso; omega; done) | (exfalso; contradiction; done)) r_OW (fun m13 hV_m13 p0_m13 p1_m13 => zmv_n ?_)
                have p0_m13 : zOw (m 99) (m13 103) (m13 111) := p0_m13
                have p1_m13 : zmov (m 111 l5.toNatClampNeg) ((l2 * (m 94 18)) + (m 116 l2.toNatClampNeg)) (m 103) (m 111) (m13 103) (m13 111) := p1_m13
                try have mvs := mv_s p1_m13
                try have rpr := r_RG.2.2.2.1
                try have rsi := r_RG.1
                try have rrg := r_RG.2.1
                try have rml := RG_ml (r := l4) r_RG (by have := rs_94_18 hV; omega) (by have := rs_94_64 hV; omega)
                try have rml2 := RG_ml (r := l2) r_RG (by have := rs_94_18 hV; omega) (by have := rs_94_64 hV; omega)
                have hg120 : (0 ≤ l2 ∧ l2.toNatClampNeg < 128) := i_ix (by omega) (by omega)
                refine ⟨hg120, ?_⟩
                skip
                try have ra5 := RG_at r_RG (s := (m 111 l5.toNatClampNeg).toNatClampNeg) (by omega) ow5.1
                have hg121 : (0 ≤ (m 111 l5.toNatClampNeg) ∧ (m 111 l5.toNatClampNeg).toNatClampNeg < 3100) := i_ix (by omega) (by omega)
                refine ⟨hg121, ?_⟩
                try have rpr := r_RG.2.2.2.1
                try have rsi := r_RG.1
                try have rrg := r_RG.2.1
                try have rml := RG_ml (r := l4) r_RG (by have := rs_94_18 hV; omega) (by have := rs_94_64 hV; omega)
                try have rml2 := RG_ml (r := l2) r_RG (by have := rs_94_18 hV; omega) (by have := rs_94_64 hV; omega)
                have hg122 : (0 ≤ l2 ∧ l2.toNatClampNeg < 128) := i_ix (by omega) (by omega)
                refine ⟨hg122, ?_⟩
                try have rpr := r_RG.2.2.2.1
                try have rsi := r_RG.1
                try have rrg := r_RG.2.1
                try have rml := RG_ml (r := l4) r_RG (by have := rs_94_18 hV; omega) (by have := rs_94_64 hV; omega)
                try have rml2 := RG_ml (r := l2) r_RG (by have := rs_94_18 hV; omega) (by have := rs_94_64 hV; omega)
                have hV123 : zV (ma_u (zov wr_205 m m13) 116 l2.toNatClampNeg ((m 116 l2.toNatClampNeg) + ((m 102 (m 111 l5.toNatClampNeg).toNatClampNeg) + (1 : Int32)))) := ua_116 hV_m13 (by omega) (by omega)
                have b124 := i_bd l1
                have b125 := i_bd l4
                first | have e126 : (l5 + ((m 102 (m 111 l5.toNatClampNeg).toNatClampNeg) + (1 : Int32))).toInt = l5.toInt + ((m 102 (m 111 l5.toNatClampNeg).toNatClampNeg) + (1 : Int32)).toInt := i_add (by omega) (by omega) | have b127 := i_bd (l5 + ((m 102 (m 111 l5.toNatClampNeg).toNatClampNeg) + (1 : Int32)))
                exact IH (l6.toInt - (l5 + ((m 102 (m 111 l5.toNatClampNeg).toNatClampNeg) + (1 : Int32))).toInt).toNat (by omega) _ (l1) (l2) (l3) (l4) ((l5 + ((m 102 (m 111 l5.toNatClampNeg).toNatClampNeg) + (1 : Int32)))) (l6) rfl (zF_u (zF_zov hF ws_205_235) rfl) hV123 (by omega) (by omega) (show -1 ≤ l2.toInt ∧ l2.toInt < (m 94 64).toInt from by omega) (by omega) (show l4.toInt < (m 94 64).toInt from by omega) (by omega) (by omega) (by omega) r_MD (by omega) r_W r_GW r_GU p0_m13 (show (m 94 10).toInt = 6 ∧ (m 94 58).toInt = 0 from by omega) r_WTS (show zRG1 (m 94 18) (m 94 64) (m 94 63) (m 99) (m13 103) (m 102) ((ma_u m 116 l2.toNatClampNeg ((m 116 l2.toNatClampNeg) + ((m 102 (m 111 l5.toNatClampNeg).toNatClampNeg) + (1 : Int32)))) 116) from by first | (exact RG_put (RG_mv2 r_RG p1_m13 (by omega)) (by omega)) | (exact RG_put r_RG (by omega)) | (exfalso; omega; done) | (exfalso; contradiction; done)) (show qZI (m 99) (m 100) (m 98) (m 101) (m 102) (m13 103) (m 107) (m 108) (m 109) (m13 111) (m 112) (m 113) (m 114) (m 94 55) (m 94 46) ro (m 94 18) (m 94 64) (m 94 19) (m 94 63) ((ma_u m 116 l2.toNatClampNeg ((m 116 l2.toNatClampNeg) + ((m 102 (m 111 l5.toNatClampNeg).toNatClampNeg) + (1 : Int32)))) 116) (m 122) (m 123) (m 124) l2.toInt l3.toInt l4.toInt (l5 + ((m 102 (m 111 l5.toNatClampNeg).toNatClampNeg) + (1 : Int32))).toInt l6.toInt (rC0 aa) from by first | (exact ZI_mv cR cV cL cM cN cq (c1 (by omega)) (s := (m 111 l5.toNatClampNeg)) r_OW (by omega) (by omega) (by omega) rfl (by omega) (by omega) (TO_y cV cM (by omega) (by omega) (by omega)) (by omega) p1_m13 (by have mm := (i_muln (x := l2) (y := m 94 18) (by omega) (by omega) (by omega) (by have := rs_94_18 hV; omega)).2.2; rw [i_add (by omega) (by omega), mm]) (fun r => mu_at r) (by omega) (by omega)) | (exfalso; omega; done) | (exfalso; contradiction; done))
            · skip
              have g128 := i_nle h106
              refine sp_234rz (aa := c)  hV (show qRv c from by first | (exact cV) | (exfalso; omega; done) | (exfalso; contradiction; done)) (show qRL c (m 94 18) (m 94 64) (m 94 19) (m 94 63) (m 116) from by first | (exact cM) | (exfalso; omega; done) | (exfalso; contradiction; done)) (fun v16 m15 hV_m15 p0_m15 p1_m15 => zmi_n ?_)
              have p0_m15 : zLE (m 116) (m 94 64) v16 := p0_m15
              have p1_m15 : qEq v16.toInt (rLe c) := p1_m15
              try have lel := LE_lo p0_m15
              skip
              try have lrg := RG_LE r_RG p0_m15 (by have := rs_94_18 hV; omega) (by have := rs_94_64 hV; omega)
              have b129 := i_bd v16
              refine zd (fun (h130 : (0 : Int32) ≤ v16) => ?_) (fun (h130 : ¬ (0 : Int32) ≤ v16) => ?_)
              · skip
                have g131 := i_le h130
                refine zd (fun (h132 : l3 = (0 : Int32)) => ?_) (fun (h132 : ¬ l3 = (0 : Int32)) => ?_)
                · skip
                  have g133 := i_eq h132
                  try have rpr := r_RG.2.2.2.1
                  try have rsi := r_RG.1
                  try have rrg := r_RG.2.1
                  try have rml := RG_ml (r := l4) r_RG (by have := rs_94_18 hV; omega) (by have := rs_94_64 hV; omega)
                  try have rml2 := RG_ml (r := l2) r_RG (by have := rs_94_18 hV; omega) (by have := rs_94_64 hV; omega)
                  have b134 := i_bd l1
                  have b135 := i_bd l4
                  first | have e136 : (l5 + ((m 102 (m 111 l5.toNatClampNeg).toNatClampNeg) + (1 : Int32))).toInt = l5.toInt + ((m 102 (m 111 l5.toNatClampNeg).toNatClampNeg) + (1 : Int32)).toInt := i_add (by omega) (by omega) | have b137 := i_bd (l5 + ((m 102 (m 111 l5.toNatClampNeg).toNatClampNeg) + (1 : Int32)))
                  exact IH (l6.toInt - (l5 + ((m 102 (m 111 l5.toNatClampNeg).toNatClampNeg) + (1 : Int32))).toInt).toNat (by omega) _ (l1) (v16) (l3) (l4) ((l5 + ((m 102 (m 111 l5.toNatClampNeg).toNatClampNeg) + (1 : Int32)))) (l6) rfl (zF_zov hF ws_234_235) hV_m15 (by omega) (by omega) (show -1 ≤ v16.toInt ∧ v16.toInt < (m 94 64).toInt from by omega) (by omega) (show l4.toInt < (m 94 64).toInt from by omega) (by omega) (by omega) (by omega) r_MD (by omega) r_W r_GW r_GU r_OW (show (m 94 10).toInt = 6 ∧ (m 94 58).toInt = 0 from by omega) r_WTS r_RG (show qZI (m 99) (m 100) (m 98) (m 101) (m 102) (m 103) (m 107) (m 108) (m 109) (m 111) (m 112) (m 113) (m 114) (m 94 55) (m 94 46) ro (m 94 18) (m 94 64) (m 94 19) (m 94 63) (m 116) (m 122) (m 123) (m 124) v16.toInt l3.toInt l4.toInt (l5 + ((m 102 (m 111 l5.toNatClampNeg).toNatClampNeg) + (1 : Int32))).toInt l6.toInt (rC0 aa) from by first | (exfalso; omega; done) | (exact ZI_no cR cV cL cM cN cq (c1 (by omega)) (s := (m 111 l5.toNatClampNeg)) r_OW (by omega) (by omega) (by omega) rfl (by omega) (by omega) ((TO_l cV cM (by omega) (Or.inl (by omega)) (qE2 p1_m15)).trans (by omega))) | (exact ZI_no cR cV cL cM cN cq (c1 (by omega)) (s := (m 111 l5.toNatClampNeg)) r_OW (by omega) (by omega) (by omega) rfl (by omega) (by omega) ((TO_l cV cM (by omega) (Or.inr (by omega)) (qE2 p1_m15)).trans (by omega))) | (exfalso; contradiction; done))
                · skip
                  have g138 := i_ne h132
                  try have rpr := r_RG.2.2.2.1
                  try have rsi := r_RG.1
                  try have rrg := r_RG.2.1
                  try have rml := RG_ml (r := l4) r_RG (by have := rs_94_18 hV; omega) (by have := rs_94_64 hV; omega)
                  try have rml2 := RG_ml (r := l2) r_RG (by have := rs_94_18 hV; omega) (by have := rs_94_64 hV; omega)
                  have hg139 : (0 ≤ v16 ∧ v16.toNatClampNeg < 128) := i_ix (by omega) (by omega)
                  refine ⟨hg139, ?_⟩
                  first | have f140 := i_muln (x := v16) (y := (m 94 18)) (by omega) (by omega) (by omega) (by omega) | have b141 := i_bd (v16 * (m 94 18))
                  first | have f142 : 0 ≤ (m 116 v16.toNatClampNeg).toInt ∧ (m 116 v16.toNatClampNeg).toInt ≤ 4600 := ra_116 (m := m) hV (k := v16.toNatClampNeg) (i_ix (n := 128) (by omega) (by omega)).2 | have b143 := i_bd (m 116 v16.toNatClampNeg)
                  first | have e144 : ((v16 * (m 94 18)) + (m 116 v16.toNatClampNeg)).toInt = (v16 * (m 94 18)).toInt + (m 116 v16.toNatClampNeg).toInt := i_add (by omega) (by omega) | have b145 := i_bd ((v16 * (m 94 18)) + (m 116 v16.toNatClampNeg))
                  refine sp_205 ((m 111 l5.toNatClampNeg)) (((v16 * (m 94 18)) + (m 116 v16.toNatClampNeg))) hV_m15 (by omega) (by omega) (by omega) (by omega) (show (m 99) (m 111 l5.toNatClampNeg).toNatClampNeg ≠ 0 from by first | (exact ow5.1) | (assumption; done) | (exact ow3.1) | (exfalso; omega; done) | (exfalso; contradiction; done)) r_OW (fun m17 hV_m17 p0_m17 p1_m17 => zmv_n ?_)
                  have p0_m17 : zOw (m 99) (m17 103) (m17 111) := p0_m17
                  have p1_m17 : zmov (m 111 l5.toNatClampNeg) ((v16 * (m 94 18)) + (m 116 v16.toNatClampNeg)) (m 103) (m 111) (m17 103) (m17 111) := p1_m17
                  try have mvs := mv_s p1_m17
                  try have rpr := r_RG.2.2.2.1
                  try have rsi := r_RG.1
                  try have rrg := r_RG.2.1
                  try have rml := RG_ml (r := l4) r_RG (by have := rs_94_18 hV; omega) (by have := rs_94_64 hV; omega)
                  try have rml2 := RG_ml (r := l2) r_RG (by have := rs_94_18 hV; omega) (by have := rs_94_64 hV; omega)
                  have hg146 : (0 ≤ v16 ∧ v16.toNatClampNeg < 128) := i_ix (by omega) (by omega)
                  refine ⟨hg146, ?_⟩
                  skip
                  try have ra5 := RG_at r_RG (s := (m 111 l5.toNatClampNeg).toNatClampNeg) (by omega) ow5.1
                  have hg147 : (0 ≤ (m 111 l5.toNatClampNeg) ∧ (m 111 l5.toNatClampNeg).toNatClampNeg < 3100) := i_ix (by omega) (by omega)
                  refine ⟨hg147, ?_⟩
                  try have rpr := r_RG.2.2.2.1
                  try have rsi := r_RG.1
                  try have rrg := r_RG.2.1
                  try have rml := RG_ml (r := l4) r_RG (by have := rs_94_18 hV; omega) (by have := rs_94_64 hV; omega)
                  try have rml2 := RG_ml (r := l2) r_RG (by have := rs_94_18 hV; omega) (by have := rs_94_64 hV; omega)
                  have hg148 : (0 ≤ v16 ∧ v16.toNatClampNeg < 128) := i_ix (by omega) (by omega)
                  refine ⟨hg148, ?_⟩
                  try have rpr := r_RG.2.2.2.1
                  try have rsi := r_RG.1
                  try have rrg := r_RG.2.1
                  try have rml := RG_ml (r := l4) r_RG (by have := rs_94_18 hV; omega) (by have := rs_94_64 hV; omega)
                  try have rml2 := RG_ml (r := l2) r_RG (by have := rs_94_18 hV; omega) (by have := rs_94_64 hV; omega)
                  first | have e150 : ((m 116 v16.toNatClampNeg) + ((m 102 (m 111 l5.toNatClampNeg).toNatClampNeg) + (1 : Int32))).toInt = (m 116 v16.toNatClampNeg).toInt + ((m 102 (m 111 l5.toNatClampNeg).toNatClampNeg) + (1 : Int32)).toInt := i_add (by omega) (by omega) | have b151 := i_bd ((m 116 v16.toNatClampNeg) + ((m 102 (m 111 l5.toNatClampNeg).toNatClampNeg) + (1 : Int32)))
                  have hV149 : zV (ma_u (zov wr_205 (zov wr_234 m m15) m17) 116 v16.toNatClampNeg ((m 116 v16.toNatClampNeg) + ((m 102 (m 111 l5.toNatClampNeg).toNatClampNeg) + (1 : Int32)))) := ua_116 hV_m17 (by omega) (by omega)
                  have b152 := i_bd l1
                  have b153 := i_bd l4
                  first | have e154 : (l5 + ((m 102 (m 111 l5.toNatClampNeg).toNatClampNeg) + (1 : Int32))).toInt = l5.toInt + ((m 102 (m 111 l5.toNatClampNeg).toNatClampNeg) + (1 : Int32)).toInt := i_add (by omega) (by omega) | have b155 := i_bd (l5 + ((m 102 (m 111 l5.toNatClampNeg).toNatClampNeg) + (1 : Int32)))
                  exact IH (l6.toInt - (l5 + ((m 102 (m 111 l5.toNatClampNeg).toNatClampNeg) + (1 : Int32))).toInt).toNat (by omega) _ (l1) (v16) (l3) (l4) ((l5 + ((m 102 (m 111 l5.toNatClampNeg).toNatClampNeg) + (1 : Int32)))) (l6) rfl (zF_u (zF_zov (zF_zov hF ws_234_235) ws_205_235) rfl) hV149 (by omega) (by omega) (show -1 ≤ v16.toInt ∧ v16.toInt < (m 94 64).toInt from by omega) (by omega) (show l4.toInt < (m 94 64).toInt from by omega) (by omega) (by omega) (by omega) r_MD (by omega) r_W r_GW r_GU p0_m17 (show (m 94 10).toInt = 6 ∧ (m 94 58).toInt = 0 from by omega) r_WTS (show zRG1 (m 94 18) (m 94 64) (m 94 63) (m 99) (m17 103) (m 102) ((ma_u m 116 v16.toNatClampNeg ((m 116 v16.toNatClampNeg) + ((m 102 (m 111 l5.toNatClampNeg).toNatClampNeg) + (1 : Int32)))) 116) from by first | (exact RG_put (RG_mv2 r_RG p1_m17 (by omega)) (by omega)) | (exact RG_put r_RG (by omega)) | (exfalso; omega; done) | (exfalso; contradiction; done)) (show qZI (m 99) (m 100) (m 98) (m 101) (m 102) (m17 103) (m 107) (m 108) (m 109) (m17 111) (m 112) (m 113) (m 114) (m 94 55) (m 94 46) ro (m 94 18) (m 94 64) (m 94 19) (m 94 63) ((ma_u m 116 v16.toNatClampNeg ((m 116 v16.toNatClampNeg) + ((m 102 (m 111 l5.toNatClampNeg).toNatClampNeg) + (1 : Int32)))) 116) (m 122) (m 123) (m 124) v16.toInt l3.toInt l4.toInt (l5 + ((m 102 (m 111 l5.toNatClampNeg).toNatClampNeg) + (1 : Int32))).toInt l6.toInt (rC0 aa) from by first | (exact ZI_mv cR cV cL cM cN cq (c1 (by omega)) (s := (m 111 l5.toNatClampNeg)) r_OW (by omega) (by omega) (by omega) rfl (by omega) (by omega) (TO_l cV cM (by omega) (Or.inr (by omega)) p1_m15) (by omega) p1_m17 (by have mm := (i_muln (x := v16) (y := m 94 18) (by omega) (by omega) (by omega) (by have := rs_94_18 hV; omega)).2.2; rw [i_add (by omega) (by omega), mm]) (fun r => mu_at r) (by omega) (by omega)) | (exact ZI_mv cR cV cL cM cN cq (c1 (by omega)) (s := (m 111 l5.toNatClampNeg)) r_OW (by omega) (by omega) (by omega) rfl (by omega) (by omega) (TO_l cV cM (by omega) (Or.inl (by omega)) p1_m15) (by omega) p1_m17 (by have mm := (i_muln (x := v16) (y := m 94 18) (by omega) (by omega) (by omega) (by have := rs_94_18 hV; omega)).2.2; rw [i_add (by omega) (by omega), mm]) (fun r => mu_at r) (by omega) (by omega)) | (exfalso; omega; done) | (exfalso; contradiction; done))
              · skip
                have g156 := i_nle h130
                try have rpr := r_RG.2.2.2.1
                try have rsi := r_RG.1
                try have rrg := r_RG.2.1
                try have rml := RG_ml (r := l4) r_RG (by have := rs_94_18 hV; omega) (by have := rs_94_64 hV; omega)
                try have rml2 := RG_ml (r := l2) r_RG (by have := rs_94_18 hV; omega) (by have := rs_94_64 hV; omega)
                have b157 := i_bd l1
                have b158 := i_bd l4
                first | have e159 : (l5 + ((m 102 (m 111 l5.toNatClampNeg).toNatClampNeg) + (1 : Int32))).toInt = l5.toInt + ((m 102 (m 111 l5.toNatClampNeg).toNatClampNeg) + (1 : Int32)).toInt := i_add (by omega) (by omega) | have b160 := i_bd (l5 + ((m 102 (m 111 l5.toNatClampNeg).toNatClampNeg) + (1 : Int32)))
                exact IH (l6.toInt - (l5 + ((m 102 (m 111 l5.toNatClampNeg).toNatClampNeg) + (1 : Int32))).toInt).toNat (by omega) _ (l1) (l2) ((0 : Int32)) (l4) ((l5 + ((m 102 (m 111 l5.toNatClampNeg).toNatClampNeg) + (1 : Int32)))) (l6) rfl (zF_zov hF ws_234_235) hV_m15 (by omega) (by omega) (show -1 ≤ l2.toInt ∧ l2.toInt < (m 94 64).toInt from by omega) (by omega) (show l4.toInt < (m 94 64).toInt from by omega) (by omega) (by omega) (by omega) r_MD (by omega) r_W r_GW r_GU r_OW (show (m 94 10).toInt = 6 ∧ (m 94 58).toInt = 0 from by omega) r_WTS r_RG (show qZI (m 99) (m 100) (m 98) (m 101) (m 102) (m 103) (m 107) (m 108) (m 109) (m 111) (m 112) (m 113) (m 114) (m 94 55) (m 94 46) ro (m 94 18) (m 94 64) (m 94 19) (m 94 63) (m 116) (m 122) (m 123) (m 124) l2.toInt (0 : Int32).toInt l4.toInt (l5 + ((m 102 (m 111 l5.toNatClampNeg).toNatClampNeg) + (1 : Int32))).toInt l6.toInt (rC0 aa) from by first | (exact ZI_no cR cV cL cM cN cq (c1 (by omega)) (s := (m 111 l5.toNatClampNeg)) r_OW (by omega) (by omega) (by omega) rfl (by omega) (by omega) ((TO_l cV cM (by omega) (Or.inr (by omega)) (qE2 p1_m15)).trans (by omega))) | (exact ZI_no cR cV cL cM cN cq (c1 (by omega)) (s := (m 111 l5.toNatClampNeg)) r_OW (by omega) (by omega) (by omega) rfl (by omega) (by omega) ((TO_l cV cM (by omega) (Or.inl (by omega)) (qE2 p1_m15)).trans (by omega))) | (exfalso; omega; done) | (exfalso; contradiction; done))
        · skip
          have g161 := i_nle h43
          try have rpr := r_RG.2.2.2.1
          try have rsi := r_RG.1
          try have rrg := r_RG.2.1
          try have rml := RG_ml (r := l4) r_RG (by have := rs_94_18 hV; omega) (by have := rs_94_64 hV; omega)
          try have rml2 := RG_ml (r := l2) r_RG (by have := rs_94_18 hV; omega) (by have := rs_94_64 hV; omega)
          have b162 := i_bd l1
          have b163 := i_bd l2
          have b164 := i_bd l4
          first | have e165 : (l5 + (1 : Int32)).toInt = l5.toInt + (1) := i_addk rfl (by omega) (by omega) | have b166 := i_bd (l5 + (1 : Int32))
          exact IH (l6.toInt - (l5 + (1 : Int32)).toInt).toNat (by omega) _ (l1) (l2) (l3) (l4) ((l5 + (1 : Int32))) (l6) rfl hF hV (by omega) (by omega) (show -1 ≤ l2.toInt ∧ l2.toInt < (m 94 64).toInt from by omega) (by omega) (show l4.toInt < (m 94 64).toInt from by omega) (by omega) (by omega) (by omega) r_MD (by omega) r_W r_GW r_GU r_OW (show (m 94 10).toInt = 6 ∧ (m 94 58).toInt = 0 from by omega) r_WTS r_RG (show qZI (m 99) (m 100) (m 98) (m 101) (m 102) (m 103) (m 107) (m 108) (m 109) (m 111) (m 112) (m 113) (m 114) (m 94 55) (m 94 46) ro (m 94 18) (m 94 64) (m 94 19) (m 94 63) (m 116) (m 122) (m 123) (m 124) l2.toInt l3.toInt l4.toInt (l5 + (1 : Int32)).toInt l6.toInt (rC0 aa) from by first | (exact ZI_fr cR cV cL cM cN cq (c1 (by omega)) (by omega) (by omega) (by omega) (by omega) (by omega) (by omega)) | (exfalso; omega; done) | (exfalso; contradiction; done))
set_option maxHeartbeats 8000000 in
theorem lp_235rz_161 {X : Nat × (Nat → Int32)} {P : Option ma_V → (Nat → Nat → Int32) → Prop} {T : Nat} {aa : Nat→Nat→Int32} {ro : Int32} {m0 : Nat → Nat → Int32} (h0 : zV m0) (K : ∀ v m₉, zF wr_235 m0 m₉ → zV m₉ → (zGW T (m₉ 94 55) (m₉ 109)) → (zGU T (m₉ 94 46) (m₉ 99)) → (zOw (m₉ 99) (m₉ 103) (m₉ 111)) → (zRG1 (m₉ 94 18) (m₉ 94 64) (m₉ 94 63) (m₉ 99) (m₉ 103) (m₉ 102) (m₉ 116)) → (qRB (m₉ 99) (m₉ 100) (m₉ 98) (m₉ 101) (m₉ 102) (m₉ 103) (m₉ 107) (m₉ 108) (m₉ 109) (m₉ 111) (m₉ 112) (m₉ 113) (m₉ 114) (m₉ 94 55) (m₉ 94 46) ro 0 0 0 1 (rCl aa)) → (qRv (rCl aa)) → (qRL (rCl aa) (m₉ 94 18) (m₉ 94 64) (m₉ 94 19) (m₉ 94 63) (m₉ 116)) → ((m₉ 94 45).toInt = sm (zbU (m₉ 99)) (m₉ 102) 3100) → P (some (.inl v)) m₉) : ∀ (n : Nat) (m : Nat → Nat → Int32) (l1 : Int32) (l2 : Int32) (l3 : Int32) (l4 : Int32), (((128 - cnt (m 124) 128 : Nat) : Int)).toNat = n → zF wr_235 m0 m → zV m → (0 ≤ l3.toInt) → (l3.toInt ≤ 1) → (-1 ≤ l2.toInt ∧ l2.toInt < (m 94 64).toInt) → (l4.toInt = -1 ∨ (0 ≤ l4.toInt ∧ l4.toInt < (m 94 64).toInt ∧ (m 124) l4.toNatClampNeg = 0)) → (T ≤ 512) → (zW (m 94 7) (m 98) (m 101) (m 102) (m 108)) → (zGW T (m 94 55) (m 109)) → (zGU T (m 94 46) (m 99)) → (zOw (m 99) (m 103) (m 111)) → ((m 94 10).toInt = 6 ∧ (m 94 58).toInt = 0) → ((m 94 45).toInt = sm (zbU (m 99)) (m 102) 3100) → (zRG1 (m 94 18) (m 94 64) (m 94 63) (m 99) (m 103) (m 102) (m 116)) → (qZO (m 99) (m 100) (m 98) (m 101) (m 102) (m 103) (m 107) (m 108) (m 109) (m 111) (m 112) (m 113) (m 114) (m 94 55) (m 94 46) ro (m 94 18) (m 94 64) (m 94 19) (m 94 63) (m 116) (m 122) (m 123) (m 124) l2.toInt l3.toInt l4.toInt (rC0 aa)) → zm X 5 108 235 161 [(0, .inr (.inr (some 94))), (1, .inl l1), (2, .inl l2), (3, .inl l3), (4, .inl l4)] m P := by
  intro n
  induction n using Nat.strongRecOn with
  | _ n IH =>
    intro m l1 l2 l3 l4 hmu hF hV hi0 hi1 hi2 r_SP hi4 r_W r_GW r_GU r_OW hi9 r_WTS r_RG r_ZO
    refine g_235_161 l1 l2 l3 l4 ?_
    have f1 : 0 ≤ (m 94 64).toInt ∧ (m 94 64).toInt ≤ 93 := rs_94_64 (m := m) hV
    have f2 : 0 ≤ (m 94 10).toInt ∧ (m 94 10).toInt ≤ 6 := rs_94_10 (m := m) hV
    have f3 : 0 ≤ (m 94 58).toInt ∧ (m 94 58).toInt ≤ 1 := rs_94_58 (m := m) hV
    obtain ⟨c, cR, cV, cL, cM, cN, c1, c0⟩ := r_ZO
    have b4 := i_bd l4
    have li5 : (0 : Int32).toInt = 0 := rfl
    refine zd (fun (h6 : l4 < (0 : Int32)) => ?_) (fun (h6 : ¬ l4 < (0 : Int32)) => ?_)
    · skip
      have g7 := i_lt h6
      have b8 := i_bd l2
      refine zd (fun (h9 : l2 < (0 : Int32)) => ?_) (fun (h9 : ¬ l2 < (0 : Int32)) => ?_)
      · skip
        have g10 := i_lt h9
        have f11 : 0 ≤ (m 94 63).toInt ∧ (m 94 63).toInt ≤ 127 := rs_94_63 (m := m) hV
        try have rpr := r_RG.2.2.2.1
        try have rsi := r_RG.1
        try have rrg := r_RG.2.1
        try have rml := RG_ml (r := l4) r_RG (by have := rs_94_18 hV; omega) (by have := rs_94_64 hV; omega)
        try have rml2 := RG_ml (r := l2) r_RG (by have := rs_94_18 hV; omega) (by have := rs_94_64 hV; omega)
        have hg12 : (0 ≤ (m 94 63) ∧ (m 94 63).toNatClampNeg < 128) := i_ix (by omega) (by omega)
        refine ⟨hg12, ?_⟩
        first | have f13 : 0 ≤ (m 116 (m 94 63).toNatClampNeg).toInt ∧ (m 116 (m 94 63).toNatClampNeg).toInt ≤ 4600 := ra_116 (m := m) hV (k := (m 94 63).toNatClampNeg) (i_ix (n := 128) (by omega) (by omega)).2 | have b14 := i_bd (m 116 (m 94 63).toNatClampNeg)
        refine zd (fun (h15 : (m 116 (m 94 63).toNatClampNeg) = (0 : Int32)) => ?_) (fun (h15 : ¬ (m 116 (m 94 63).toNatClampNeg) = (0 : Int32)) => ?_)
        · skip
          have g16 := i_eq h15
          refine sp_234rz (aa := c)  hV (show qRv c from by first | (exact cV) | (exfalso; omega; done) | (exfalso; contradiction; done)) (show qRL c (m 94 18) (m 94 64) (m 94 19) (m 94 63) (m 116) from by first | (exact cM) | (exfalso; omega; done) | (exfalso; contradiction; done)) (fun v2 m1 hV_m1 p0_m1 p1_m1 => zmi_n ?_)
          have p0_m1 : zLE (m 116) (m 94 64) v2 := p0_m1
          have p1_m1 : qEq v2.toInt (rLe c) := p1_m1
          try have lel := LE_lo p0_m1
          try have lno := LE_no (pr := m 94 63) p0_m1 (by assumption) (by omega) (by omega)
          try have lrg := RG_LE r_RG p0_m1 (by have := rs_94_18 hV; omega) (by have := rs_94_64 hV; omega)
          try have rpr := r_RG.2.2.2.1
          try have rsi := r_RG.1
          try have rrg := r_RG.2.1
          try have rml := RG_ml (r := l4) r_RG (by have := rs_94_18 hV; omega) (by have := rs_94_64 hV; omega)
          try have rml2 := RG_ml (r := l2) r_RG (by have := rs_94_18 hV; omega) (by have := rs_94_64 hV; omega)
          have b18 := i_bd v2
          have hV17 : zV (ma_u (zov wr_234 m m1) 94 63 v2) := us_94_63 hV_m1 (by omega) (by omega)
          have b19 := i_bd l1
          exact K (l1) _ (zF_u (zF_zov hF ws_234_235) rfl) hV17 r_GW r_GU r_OW (show zRG1 (m 94 18) (m 94 64) v2 (m 99) (m 103) (m 102) (m 116) from by first | (exact RG_pr r_RG (by omega) (by omega)) | (exact r_RG) | (exact RG_pr r_RG (LE_no p0_m1 (by assumption) (by omega) (by omega)).1 (LE_no p0_m1 (by assumption) (by omega) (by omega)).2) | (exfalso; omega; done) | (exfalso; contradiction; done)) (show qRB (m 99) (m 100) (m 98) (m 101) (m 102) (m 103) (m 107) (m 108) (m 109) (m 111) (m 112) (m 113) (m 114) (m 94 55) (m 94 46) ro 0 0 0 1 (rCl aa) from by first | (have rpr := r_RG.2.2.2.1; exact (CR_fin cR cV cM (ZO_E c1 c0 (by omega) (by first | exact Or.inl (by omega) | exact Or.inr (by omega))) (PR_3 cV cM (by omega) (by first | omega | exact i_ez (by assumption)) p1_m1) (by have q := PR_e cV cM (by first | omega | exact i_ez (by assumption)); have w := qE p1_m1; omega) (by have q := PR_e cV cM (by first | omega | exact i_ez (by assumption)); have w := qE p1_m1; omega)).1; done) | (have rpr := r_RG.2.2.2.1; exact (CR_fin cR cV cM (ZO_E c1 c0 (by omega) (by first | exact Or.inl (by omega) | exact Or.inr (by omega))) (PR_1 (by omega)) (by omega) (by omega)).1; done) | (have rpr := r_RG.2.2.2.1; exact (CR_fin cR cV cM (ZO_E c1 c0 (by omega) (by first | exact Or.inl (by omega) | exact Or.inr (by omega))) (PR_2 cM (by omega) (by omega) (by omega) (by first | omega | exact i_en (by assumption))) (by omega) (by omega)).1; done) | (exfalso; omega; done) | (exfalso; contradiction; done)) (show qRv (rCl aa) from by first | (have rpr := r_RG.2.2.2.1; exact (CR_fin cR cV cM (ZO_E c1 c0 (by omega) (by first | exact Or.inl (by omega) | exact Or.inr (by omega))) (PR_3 cV cM (by omega) (by first | omega | exact i_ez (by assumption)) p1_m1) (by have q := PR_e cV cM (by first | omega | exact i_ez (by assumption)); have w := qE p1_m1; omega) (by have q := PR_e cV cM (by first | omega | exact i_ez (by assumption)); have w := qE p1_m1; omega)).2.1; done) | (have rpr := r_RG.2.2.2.1; exact (CR_fin cR cV cM (ZO_E c1 c0 (by omega) (by first | exact Or.inl (by omega) | exact Or.inr (by omega))) (PR_1 (by omega)) (by omega) (by omega)).2.1; done) | (have rpr := r_RG.2.2.2.1; exact (CR_fin cR cV cM (ZO_E c1 c0 (by omega) (by first | exact Or.inl (by omega) | exact Or.inr (by omega))) (PR_2 cM (by omega) (by omega) (by omega) (by first | omega | exact i_en (by assumption))) (by omega) (by omega)).2.1; done) | (exfalso; omega; done) | (exfalso; contradiction; done)) (show qRL (rCl aa) (m 94 18) (m 94 64) (m 94 19) v2 (m 116) from by first | (have rpr := r_RG.2.2.2.1; exact (CR_fin cR cV cM (ZO_E c1 c0 (by omega) (by first | exact Or.inl (by omega) | exact Or.inr (by omega))) (PR_3 cV cM (by omega) (by first | omega | exact i_ez (by assumption)) p1_m1) (by have q := PR_e cV cM (by first | omega | exact i_ez (by assumption)); have w := qE p1_m1; omega) (by have q := PR_e cV cM (by first | omega | exact i_ez (by assumption)); have w := qE p1_m1; omega)).2.2; done) | (have rpr := r_RG.2.2.2.1; exact (CR_fin cR cV cM (ZO_E c1 c0 (by omega) (by first | exact Or.inl (by omega) | exact Or.inr (by omega))) (PR_1 (by omega)) (by omega) (by omega)).2.2; done) | (have rpr := r_RG.2.2.2.1; exact (CR_fin cR cV cM (ZO_E c1 c0 (by omega) (by first | exact Or.inl (by omega) | exact Or.inr (by omega))) (PR_2 cM (by omega) (by omega) (by omega) (by first | omega | exact i_en (by assumption))) (by omega) (by omega)).2.2; done) | (exfalso; omega; done) | (exfalso; contradiction; done)) r_WTS
        · skip
          have g20 := i_ne h15
          try have rpr := r_RG.2.2.2.1
          try have rsi := r_RG.1
          try have rrg := r_RG.2.1
          try have rml := RG_ml (r := l4) r_RG (by have := rs_94_18 hV; omega) (by have := rs_94_64 hV; omega)
          try have rml2 := RG_ml (r := l2) r_RG (by have := rs_94_18 hV; omega) (by have := rs_94_64 hV; omega)
          have b21 := i_bd l1
          exact K (l1) _ hF hV r_GW r_GU r_OW r_RG (show qRB (m 99) (m 100) (m 98) (m 101) (m 102) (m 103) (m 107) (m 108) (m 109) (m 111) (m 112) (m 113) (m 114) (m 94 55) (m 94 46) ro 0 0 0 1 (rCl aa) from by first | (have rpr := r_RG.2.2.2.1; exact (CR_fin cR cV cM (ZO_E c1 c0 (by omega) (by first | exact Or.inl (by omega) | exact Or.inr (by omega))) (PR_2 cM (by omega) (by omega) (by omega) (by first | omega | exact i_en (by assumption))) (by omega) (by omega)).1; done) | (have rpr := r_RG.2.2.2.1; exact (CR_fin cR cV cM (ZO_E c1 c0 (by omega) (by first | exact Or.inl (by omega) | exact Or.inr (by omega))) (PR_1 (by omega)) (by omega) (by omega)).1; done) | (exfalso; omega; done) | (exfalso; contradiction; done)) (show qRv (rCl aa) from by first | (have rpr := r_RG.2.2.2.1; exact (CR_fin cR cV cM (ZO_E c1 c0 (by omega) (by first | exact Or.inl (by omega) | exact Or.inr (by omega))) (PR_2 cM (by omega) (by omega) (by omega) (by first | omega | exact i_en (by assumption))) (by omega) (by omega)).2.1; done) | (have rpr := r_RG.2.2.2.1; exact (CR_fin cR cV cM (ZO_E c1 c0 (by omega) (by first | exact Or.inl (by omega) | exact Or.inr (by omega))) (PR_1 (by omega)) (by omega) (by omega)).2.1; done) | (exfalso; omega; done) | (exfalso; contradiction; done)) (show qRL (rCl aa) (m 94 18) (m 94 64) (m 94 19) (m 94 63) (m 116) from by first | (have rpr := r_RG.2.2.2.1; exact (CR_fin cR cV cM (ZO_E c1 c0 (by omega) (by first | exact Or.inl (by omega) | exact Or.inr (by omega))) (PR_2 cM (by omega) (by omega) (by omega) (by first | omega | exact i_en (by assumption))) (by omega) (by omega)).2.2; done) | (have rpr := r_RG.2.2.2.1; exact (CR_fin cR cV cM (ZO_E c1 c0 (by omega) (by first | exact Or.inl (by omega) | exact Or.inr (by omega))) (PR_1 (by omega)) (by omega) (by omega)).2.2; done) | (exfalso; omega; done) | (exfalso; contradiction; done)) r_WTS
      · skip
        have g22 := i_nlt h9
        try have rpr := r_RG.2.2.2.1
        try have rsi := r_RG.1
        try have rrg := r_RG.2.1
        try have rml := RG_ml (r := l4) r_RG (by have := rs_94_18 hV; omega) (by have := rs_94_64 hV; omega)
        try have rml2 := RG_ml (r := l2) r_RG (by have := rs_94_18 hV; omega) (by have := rs_94_64 hV; omega)
        have hV23 : zV (ma_u m 94 63 l2) := us_94_63 hV (by omega) (by omega)
        have b24 := i_bd l1
        exact K (l1) _ (zF_u hF rfl) hV23 r_GW r_GU r_OW (show zRG1 (m 94 18) (m 94 64) l2 (m 99) (m 103) (m 102) (m 116) from by first | (exact RG_pr r_RG (by omega) (by omega)) | (exact r_RG) | (exfalso; omega; done) | (exfalso; contradiction; done)) (show qRB (m 99) (m 100) (m 98) (m 101) (m 102) (m 103) (m 107) (m 108) (m 109) (m 111) (m 112) (m 113) (m 114) (m 94 55) (m 94 46) ro 0 0 0 1 (rCl aa) from by first | (have rpr := r_RG.2.2.2.1; exact (CR_fin cR cV cM (ZO_E c1 c0 (by omega) (by first | exact Or.inl (by omega) | exact Or.inr (by omega))) (PR_1 (by omega)) (by omega) (by omega)).1; done) | (have rpr := r_RG.2.2.2.1; exact (CR_fin cR cV cM (ZO_E c1 c0 (by omega) (by first | exact Or.inl (by omega) | exact Or.inr (by omega))) (PR_2 cM (by omega) (by omega) (by omega) (by first | omega | exact i_en (by assumption))) (by omega) (by omega)).1; done) | (exfalso; omega; done) | (exfalso; contradiction; done)) (show qRv (rCl aa) from by first | (have rpr := r_RG.2.2.2.1; exact (CR_fin cR cV cM (ZO_E c1 c0 (by omega) (by first | exact Or.inl (by omega) | exact Or.inr (by omega))) (PR_1 (by omega)) (by omega) (by omega)).2.1; done) | (have rpr := r_RG.2.2.2.1; exact (CR_fin cR cV cM (ZO_E c1 c0 (by omega) (by first | exact Or.inl (by omega) | exact Or.inr (by omega))) (PR_2 cM (by omega) (by omega) (by omega) (by first | omega | exact i_en (by assumption))) (by omega) (by omega)).2.1; done) | (exfalso; omega; done) | (exfalso; contradiction; done)) (show qRL (rCl aa) (m 94 18) (m 94 64) (m 94 19) l2 (m 116) from by first | (have rpr := r_RG.2.2.2.1; exact (CR_fin cR cV cM (ZO_E c1 c0 (by omega) (by first | exact Or.inl (by omega) | exact Or.inr (by omega))) (PR_1 (by omega)) (by omega) (by omega)).2.2; done) | (have rpr := r_RG.2.2.2.1; exact (CR_fin cR cV cM (ZO_E c1 c0 (by omega) (by first | exact Or.inl (by omega) | exact Or.inr (by omega))) (PR_2 cM (by omega) (by omega) (by omega) (by first | omega | exact i_en (by assumption))) (by omega) (by omega)).2.2; done) | (exfalso; omega; done) | (exfalso; contradiction; done)) r_WTS
    · skip
      have g25 := i_nlt h6
      have b26 := i_bd l3
      refine zd (fun (h27 : l3 = (0 : Int32)) => ?_) (fun (h27 : ¬ l3 = (0 : Int32)) => ?_)
      · skip
        have g28 := i_eq h27
        have b29 := i_bd l2
        refine zd (fun (h30 : l2 < (0 : Int32)) => ?_) (fun (h30 : ¬ l2 < (0 : Int32)) => ?_)
        · skip
          have g31 := i_lt h30
          have f32 : 0 ≤ (m 94 63).toInt ∧ (m 94 63).toInt ≤ 127 := rs_94_63 (m := m) hV
          try have rpr := r_RG.2.2.2.1
          try have rsi := r_RG.1
          try have rrg := r_RG.2.1
          try have rml := RG_ml (r := l4) r_RG (by have := rs_94_18 hV; omega) (by have := rs_94_64 hV; omega)
          try have rml2 := RG_ml (r := l2) r_RG (by have := rs_94_18 hV; omega) (by have := rs_94_64 hV; omega)
          have hg33 : (0 ≤ (m 94 63) ∧ (m 94 63).toNatClampNeg < 128) := i_ix (by omega) (by omega)
          refine ⟨hg33, ?_⟩
          first | have f34 : 0 ≤ (m 116 (m 94 63).toNatClampNeg).toInt ∧ (m 116 (m 94 63).toNatClampNeg).toInt ≤ 4600 := ra_116 (m := m) hV (k := (m 94 63).toNatClampNeg) (i_ix (n := 128) (by omega) (by omega)).2 | have b35 := i_bd (m 116 (m 94 63).toNatClampNeg)
          refine zd (fun (h36 : (m 116 (m 94 63).toNatClampNeg) = (0 : Int32)) => ?_) (fun (h36 : ¬ (m 116 (m 94 63).toNatClampNeg) = (0 : Int32)) => ?_)
          · skip
            have g37 := i_eq h36
            refine sp_234rz (aa := c)  hV (show qRv c from by first | (exact cV) | (exfalso; omega; done) | (exfalso; contradiction; done)) (show qRL c (m 94 18) (m 94 64) (m 94 19) (m 94 63) (m 116) from by first | (exact cM) | (exfalso; omega; done) | (exfalso; contradiction; done)) (fun v4 m3 hV_m3 p0_m3 p1_m3 => zmi_n ?_)
            have p0_m3 : zLE (m 116) (m 94 64) v4 := p0_m3
            have p1_m3 : qEq v4.toInt (rLe c) := p1_m3
            try have lel := LE_lo p0_m3
            try have lno := LE_no (pr := m 94 63) p0_m3 (by assumption) (by omega) (by omega)
            try have lrg := RG_LE r_RG p0_m3 (by have := rs_94_18 hV; omega) (by have := rs_94_64 hV; omega)
            try have rpr := r_RG.2.2.2.1
            try have rsi := r_RG.1
            try have rrg := r_RG.2.1
            try have rml := RG_ml (r := l4) r_RG (by have := rs_94_18 hV; omega) (by have := rs_94_64 hV; omega)
            try have rml2 := RG_ml (r := l2) r_RG (by have := rs_94_18 hV; omega) (by have := rs_94_64 hV; omega)
            have b39 := i_bd v4
            have hV38 : zV (ma_u (zov wr_234 m m3) 94 63 v4) := us_94_63 hV_m3 (by omega) (by omega)
            have b40 := i_bd l1
            exact K (l1) _ (zF_u (zF_zov hF ws_234_235) rfl) hV38 r_GW r_GU r_OW (show zRG1 (m 94 18) (m 94 64) v4 (m 99) (m 103) (m 102) (m 116) from by first | (exact RG_pr r_RG (by omega) (by omega)) | (exact r_RG) | (exact RG_pr r_RG (LE_no p0_m3 (by assumption) (by omega) (by omega)).1 (LE_no p0_m3 (by assumption) (by omega) (by omega)).2) | (exfalso; omega; done) | (exfalso; contradiction; done)) (show qRB (m 99) (m 100) (m 98) (m 101) (m 102) (m 103) (m 107) (m 108) (m 109) (m 111) (m 112) (m 113) (m 114) (m 94 55) (m 94 46) ro 0 0 0 1 (rCl aa) from by first | (have rpr := r_RG.2.2.2.1; exact (CR_fin cR cV cM (ZO_E c1 c0 (by omega) (by first | exact Or.inr (by omega) | exact Or.inl (by omega))) (PR_3 cV cM (by omega) (by first | omega | exact i_ez (by assumption)) p1_m3) (by have q := PR_e cV cM (by first | omega | exact i_ez (by assumption)); have w := qE p1_m3; omega) (by have q := PR_e cV cM (by first | omega | exact i_ez (by assumption)); have w := qE p1_m3; omega)).1; done) | (have rpr := r_RG.2.2.2.1; exact (CR_fin cR cV cM (ZO_E c1 c0 (by omega) (by first | exact Or.inr (by omega) | exact Or.inl (by omega))) (PR_1 (by omega)) (by omega) (by omega)).1; done) | (have rpr := r_RG.2.2.2.1; exact (CR_fin cR cV cM (ZO_E c1 c0 (by omega) (by first | exact Or.inr (by omega) | exact Or.inl (by omega))) (PR_2 cM (by omega) (by omega) (by omega) (by first | omega | exact i_en (by assumption))) (by omega) (by omega)).1; done) | (exfalso; omega; done) | (exfalso; contradiction; done)) (show qRv (rCl aa) from by first | (have rpr := r_RG.2.2.2.1; exact (CR_fin cR cV cM (ZO_E c1 c0 (by omega) (by first | exact Or.inr (by omega) | exact Or.inl (by omega))) (PR_3 cV cM (by omega) (by first | omega | exact i_ez (by assumption)) p1_m3) (by have q := PR_e cV cM (by first | omega | exact i_ez (by assumption)); have w := qE p1_m3; omega) (by have q := PR_e cV cM (by first | omega | exact i_ez (by assumption)); have w := qE p1_m3; omega)).2.1; done) | (have rpr := r_RG.2.2.2.1; exact (CR_fin cR cV cM (ZO_E c1 c0 (by omega) (by first | exact Or.inr (by omega) | exact Or.inl (by omega))) (PR_1 (by omega)) (by omega) (by omega)).2.1; done) | (have rpr := r_RG.2.2.2.1; exact (CR_fin cR cV cM (ZO_E c1 c0 (by omega) (by first | exact Or.inr (by omega) | exact Or.inl (by omega))) (PR_2 cM (by omega) (by omega) (by omega) (by first | omega | exact i_en (by assumption))) (by omega) (by omega)).2.1; done) | (exfalso; omega; done) | (exfalso; contradiction; done)) (show qRL (rCl aa) (m 94 18) (m 94 64) (m 94 19) v4 (m 116) from by first | (have rpr := r_RG.2.2.2.1; exact (CR_fin cR cV cM (ZO_E c1 c0 (by omega) (by first | exact Or.inr (by omega) | exact Or.inl (by omega))) (PR_3 cV cM (by omega) (by first | omega | exact i_ez (by assumption)) p1_m3) (by have q := PR_e cV cM (by first | omega | exact i_ez (by assumption)); have w := qE p1_m3; omega) (by have q := PR_e cV cM (by first | omega | exact i_ez (by assumption)); have w := qE p1_m3; omega)).2.2; done) | (have rpr := r_RG.2.2.2.1; exact (CR_fin cR cV cM (ZO_E c1 c0 (by omega) (by first | exact Or.inr (by omega) | exact Or.inl (by omega))) (PR_1 (by omega)) (by omega) (by omega)).2.2; done) | (have rpr := r_RG.2.2.2.1; exact (CR_fin cR cV cM (ZO_E c1 c0 (by omega) (by first | exact Or.inr (by omega) | exact Or.inl (by omega))) (PR_2 cM (by omega) (by omega) (by omega) (by first | omega | exact i_en (by assumption))) (by omega) (by omega)).2.2; done) | (exfalso; omega; done) | (exfalso; contradiction; done)) r_WTS
          · skip
            have g41 := i_ne h36
            try have rpr := r_RG.2.2.2.1
            try have rsi := r_RG.1
            try have rrg := r_RG.2.1
            try have rml := RG_ml (r := l4) r_RG (by have := rs_94_18 hV; omega) (by have := rs_94_64 hV; omega)
            try have rml2 := RG_ml (r := l2) r_RG (by have := rs_94_18 hV; omega) (by have := rs_94_64 hV; omega)
            have b42 := i_bd l1
            exact K (l1) _ hF hV r_GW r_GU r_OW r_RG (show qRB (m 99) (m 100) (m 98) (m 101) (m 102) (m 103) (m 107) (m 108) (m 109) (m 111) (m 112) (m 113) (m 114) (m 94 55) (m 94 46) ro 0 0 0 1 (rCl aa) from by first | (have rpr := r_RG.2.2.2.1; exact (CR_fin cR cV cM (ZO_E c1 c0 (by omega) (by first | exact Or.inr (by omega) | exact Or.inl (by omega))) (PR_2 cM (by omega) (by omega) (by omega) (by first | omega | exact i_en (by assumption))) (by omega) (by omega)).1; done) | (have rpr := r_RG.2.2.2.1; exact (CR_fin cR cV cM (ZO_E c1 c0 (by omega) (by first | exact Or.inr (by omega) | exact Or.inl (by omega))) (PR_1 (by omega)) (by omega) (by omega)).1; done) | (exfalso; omega; done) | (exfalso; contradiction; done)) (show qRv (rCl aa) from by first | (have rpr := r_RG.2.2.2.1; exact (CR_fin cR cV cM (ZO_E c1 c0 (by omega) (by first | exact Or.inr (by omega) | exact Or.inl (by omega))) (PR_2 cM (by omega) (by omega) (by omega) (by first | omega | exact i_en (by assumption))) (by omega) (by omega)).2.1; done) | (have rpr := r_RG.2.2.2.1; exact (CR_fin cR cV cM (ZO_E c1 c0 (by omega) (by first | exact Or.inr (by omega) | exact Or.inl (by omega))) (PR_1 (by omega)) (by omega) (by omega)).2.1; done) | (exfalso; omega; done) | (exfalso; contradiction; done)) (show qRL (rCl aa) (m 94 18) (m 94 64) (m 94 19) (m 94 63) (m 116) from by first | (have rpr := r_RG.2.2.2.1; exact (CR_fin cR cV cM (ZO_E c1 c0 (by omega) (by first | exact Or.inr (by omega) | exact Or.inl (by omega))) (PR_2 cM (by omega) (by omega) (by omega) (by first | omega | exact i_en (by assumption))) (by omega) (by omega)).2.2; done) | (have rpr := r_RG.2.2.2.1; exact (CR_fin cR cV cM (ZO_E c1 c0 (by omega) (by first | exact Or.inr (by omega) | exact Or.inl (by omega))) (PR_1 (by omega)) (by omega) (by omega)).2.2; done) | (exfalso; omega; done) | (exfalso; contradiction; done)) r_WTS
        · skip
          have g43 := i_nlt h30
          try have rpr := r_RG.2.2.2.1
          try have rsi := r_RG.1
          try have rrg := r_RG.2.1
          try have rml := RG_ml (r := l4) r_RG (by have := rs_94_18 hV; omega) (by have := rs_94_64 hV; omega)
          try have rml2 := RG_ml (r := l2) r_RG (by have := rs_94_18 hV; omega) (by have := rs_94_64 hV; omega)
          have hV44 : zV (ma_u m 94 63 l2) := us_94_63 hV (by omega) (by omega)
          have b45 := i_bd l1
          exact K (l1) _ (zF_u hF rfl) hV44 r_GW r_GU r_OW (show zRG1 (m 94 18) (m 94 64) l2 (m 99) (m 103) (m 102) (m 116) from by first | (exact RG_pr r_RG (by omega) (by omega)) | (exact r_RG) | (exfalso; omega; done) | (exfalso; contradiction; done)) (show qRB (m 99) (m 100) (m 98) (m 101) (m 102) (m 103) (m 107) (m 108) (m 109) (m 111) (m 112) (m 113) (m 114) (m 94 55) (m 94 46) ro 0 0 0 1 (rCl aa) from by first | (have rpr := r_RG.2.2.2.1; exact (CR_fin cR cV cM (ZO_E c1 c0 (by omega) (by first | exact Or.inr (by omega) | exact Or.inl (by omega))) (PR_1 (by omega)) (by omega) (by omega)).1; done) | (have rpr := r_RG.2.2.2.1; exact (CR_fin cR cV cM (ZO_E c1 c0 (by omega) (by first | exact Or.inl (by omega) | exact Or.inr (by omega))) (PR_2 cM (by omega) (by omega) (by omega) (by first | omega | exact i_en (by assumption))) (by omega) (by omega)).1; done) | (exfalso; omega; done) | (exfalso; contradiction; done)) (show qRv (rCl aa) from by first | (have rpr := r_RG.2.2.2.1; exact (CR_fin cR cV cM (ZO_E c1 c0 (by omega) (by first | exact Or.inr (by omega) | exact Or.inl (by omega))) (PR_1 (by omega)) (by omega) (by omega)).2.1; done) | (have rpr := r_RG.2.2.2.1; exact (CR_fin cR cV cM (ZO_E c1 c0 (by omega) (by first | exact Or.inl (by omega) | exact Or.inr (by omega))) (PR_2 cM (by omega) (by omega) (by omega) (by first | omega | exact i_en (by assumption))) (by omega) (by omega)).2.1; done) | (exfalso; omega; done) | (exfalso; contradiction; done)) (show qRL (rCl aa) (m 94 18) (m 94 64) (m 94 19) l2 (m 116) from by first | (have rpr := r_RG.2.2.2.1; exact (CR_fin cR cV cM (ZO_E c1 c0 (by omega) (by first | exact Or.inr (by omega) | exact Or.inl (by omega))) (PR_1 (by omega)) (by omega) (by omega)).2.2; done) | (have rpr := r_RG.2.2.2.1; exact (CR_fin cR cV cM (ZO_E c1 c0 (by omega) (by first | exact Or.inl (by omega) | exact Or.inr (by omega))) (PR_2 cM (by omega) (by omega) (by omega) (by first | omega | exact i_en (by assumption))) (by omega) (by omega)).2.2; done) | (exfalso; omega; done) | (exfalso; contradiction; done)) r_WTS
      · skip
        have g46 := i_ne h27
        try have rpr := r_RG.2.2.2.1
        try have rsi := r_RG.1
        try have rrg := r_RG.2.1
        try have rml := RG_ml (r := l4) r_RG (by have := rs_94_18 hV; omega) (by have := rs_94_64 hV; omega)
        try have rml2 := RG_ml (r := l2) r_RG (by have := rs_94_18 hV; omega) (by have := rs_94_64 hV; omega)
        try have sp4 := r_SP
        have hg47 : (0 ≤ l4 ∧ l4.toNatClampNeg < 128) := i_ix (by omega) (by omega)
        refine ⟨hg47, ?_⟩
        try have rpr := r_RG.2.2.2.1
        try have rsi := r_RG.1
        try have rrg := r_RG.2.1
        try have rml := RG_ml (r := l4) r_RG (by have := rs_94_18 hV; omega) (by have := rs_94_64 hV; omega)
        try have rml2 := RG_ml (r := l2) r_RG (by have := rs_94_18 hV; omega) (by have := rs_94_64 hV; omega)
        have hg48 : (0 ≤ l4 ∧ l4.toNatClampNeg < 128) := i_ix (by omega) (by omega)
        refine ⟨hg48, ?_⟩
        try have rpr := r_RG.2.2.2.1
        try have rsi := r_RG.1
        try have rrg := r_RG.2.1
        try have rml := RG_ml (r := l4) r_RG (by have := rs_94_18 hV; omega) (by have := rs_94_64 hV; omega)
        try have rml2 := RG_ml (r := l2) r_RG (by have := rs_94_18 hV; omega) (by have := rs_94_64 hV; omega)
        have li50 : (1 : Int32).toInt = 1 := rfl
        have hV49 : zV (ma_u m 124 l4.toNatClampNeg (1 : Int32)) := ua_124 hV (by omega) (by omega)
        have b51 := i_bd l1
        have b52 := i_bd l2
        have f53 : 0 ≤ (m 94 18).toInt ∧ (m 94 18).toInt ≤ 256 := rs_94_18 (m := m) hV
        first | have f54 := i_muln (x := l4) (y := (m 94 18)) (by omega) (by omega) (by omega) (by omega) | have b55 := i_bd (l4 * (m 94 18))
        first | have f56 : 0 ≤ (m 116 l4.toNatClampNeg).toInt ∧ (m 116 l4.toNatClampNeg).toInt ≤ 4600 := ra_116 (m := m) hV (k := l4.toNatClampNeg) (i_ix (n := 128) (by omega) (by omega)).2 | have b57 := i_bd (m 116 l4.toNatClampNeg)
        first | have e58 : ((l4 * (m 94 18)) + (m 116 l4.toNatClampNeg)).toInt = (l4 * (m 94 18)).toInt + (m 116 l4.toNatClampNeg).toInt := i_add (by omega) (by omega) | have b59 := i_bd ((l4 * (m 94 18)) + (m 116 l4.toNatClampNeg))
        exact lp_235rz_199 h0 K (fun _ _ _ _ _ z1 z2 z3 y0 y1 y2 y3 y4 y5 y6 y7 y8 y9 y10 y11 y12 => IH _ z1 _ _ _ _ _ rfl z2 z3 y0 y1 y2 y3 y4 y5 y6 y7 y8 y9 y10 y11 y12) _ _ (l1) (l2) (l3) (l4) ((l4 * (m 94 18))) (((l4 * (m 94 18)) + (m 116 l4.toNatClampNeg))) rfl (zF_u hF rfl) hV49 (by omega) (by omega) (show -1 ≤ l2.toInt ∧ l2.toInt < (m 94 64).toInt from by omega) (by omega) (show l4.toInt < (m 94 64).toInt from by omega) (by omega) (by omega) (by omega) (show 128 - cnt ((ma_u m 124 l4.toNatClampNeg (1 : Int32)) 124) 128 < n from by first | (have zq := dn_lt (m := m) (c := 124) (k := l4.toNatClampNeg) (n := 128) (x := (1 : Int32)) (by omega) (by rcases r_SP with z | z; omega; exact z.2.2) (by decide); omega; done) | (exfalso; omega; done) | (exfalso; contradiction; done)) (by omega) r_W r_GW r_GU r_OW (show (m 94 10).toInt = 6 ∧ (m 94 58).toInt = 0 from by omega) r_WTS r_RG (show qZI (m 99) (m 100) (m 98) (m 101) (m 102) (m 103) (m 107) (m 108) (m 109) (m 111) (m 112) (m 113) (m 114) (m 94 55) (m 94 46) ro (m 94 18) (m 94 64) (m 94 19) (m 94 63) (m 116) (m 122) (m 123) ((ma_u m 124 l4.toNatClampNeg (1 : Int32)) 124) l2.toInt l3.toInt l4.toInt (l4 * (m 94 18)).toInt ((l4 * (m 94 18)) + (m 116 l4.toNatClampNeg)).toInt (rC0 aa) from by first | (have e4 := RG_ml (r := l4) r_RG (by have := rs_94_18 hV; omega) (by have := rs_94_64 hV; omega); have mm := (i_muln (x := l4) (y := m 94 18) (by omega) (by omega) (by omega) (by have := rs_94_18 hV; omega)).2.2; exact ZI_0 cR cV cL cM cN (c1 (by omega)) (by omega) (fun r => mu_at r) mm (x := m 116 l4.toNatClampNeg) rfl (by omega) (by omega); done) | (exfalso; omega; done) | (exfalso; contradiction; done))
set_option maxHeartbeats 8000000 in
theorem lp_235rz_121 {X : Nat × (Nat → Int32)} {P : Option ma_V → (Nat → Nat → Int32) → Prop} {T : Nat} {aa : Nat→Nat→Int32} {ro : Int32} {m0 : Nat → Nat → Int32} (h0 : zV m0) (K : ∀ v m₉, zF wr_235 m0 m₉ → zV m₉ → (zGW T (m₉ 94 55) (m₉ 109)) → (zGU T (m₉ 94 46) (m₉ 99)) → (zOw (m₉ 99) (m₉ 103) (m₉ 111)) → (zRG1 (m₉ 94 18) (m₉ 94 64) (m₉ 94 63) (m₉ 99) (m₉ 103) (m₉ 102) (m₉ 116)) → (qRB (m₉ 99) (m₉ 100) (m₉ 98) (m₉ 101) (m₉ 102) (m₉ 103) (m₉ 107) (m₉ 108) (m₉ 109) (m₉ 111) (m₉ 112) (m₉ 113) (m₉ 114) (m₉ 94 55) (m₉ 94 46) ro 0 0 0 1 (rCl aa)) → (qRv (rCl aa)) → (qRL (rCl aa) (m₉ 94 18) (m₉ 94 64) (m₉ 94 19) (m₉ 94 63) (m₉ 116)) → ((m₉ 94 45).toInt = sm (zbU (m₉ 99)) (m₉ 102) 3100) → P (some (.inl v)) m₉) : ∀ (n : Nat) (m : Nat → Nat → Int32) (l1 : Int32) (l2 : Int32), (128 - l2.toInt).toNat = n → zF wr_235 m0 m → zV m → (0 ≤ l2.toInt) → (T ≤ 512) → (zW (m 94 7) (m 98) (m 101) (m 102) (m 108)) → (zGW T (m 94 55) (m 109)) → (zGU T (m 94 46) (m 99)) → (zOw (m 99) (m 103) (m 111)) → ((m 94 10).toInt = 6 ∧ (m 94 58).toInt = 0) → ((m 94 45).toInt = sm (zbU (m 99)) (m 102) 3100) → (zRG1 (m 94 18) (m 94 64) (m 94 63) (m 99) (m 103) (m 102) (m 116)) → (qRB (m 99) (m 100) (m 98) (m 101) (m 102) (m 103) (m 107) (m 108) (m 109) (m 111) (m 112) (m 113) (m 114) (m 94 55) (m 94 46) ro 0 0 0 1 (aSw aa)) → (qRv aa) → (qRL aa (m 94 18) (m 94 64) (m 94 19) (m 94 63) (m0 116)) → (qKS (m 99) (m 102) (m 107) (m 103) (m 122) (m 123) (m 124) (m 94 18).toInt (m 94 64).toInt 3100) → (qTZ (m0 116) (m 116) (m 122) (m 94 64).toInt l2.toInt) → zm X 5 108 235 121 [(0, .inr (.inr (some 94))), (1, .inl l1), (2, .inl l2)] m P := by
  intro n
  induction n using Nat.strongRecOn with
  | _ n IH =>
    intro m l1 l2 hmu hF hV hi0 hi1 r_W r_GW r_GU r_OW hi6 r_WTS r_RG r_RB r_RV r_RLo r_KSe r_TZ
    refine g_235_121 l1 l2 ?_
    have f1 : 0 ≤ (m 94 10).toInt ∧ (m 94 10).toInt ≤ 6 := rs_94_10 (m := m) hV
    have f2 : 0 ≤ (m 94 58).toInt ∧ (m 94 58).toInt ≤ 1 := rs_94_58 (m := m) hV
    have f3 : 0 ≤ (m 94 64).toInt ∧ (m 94 64).toInt ≤ 93 := rs_94_64 (m := m) hV
    have b4 := i_bd l2
    refine zd (fun (h5 : (m 94 64) ≤ l2) => ?_) (fun (h5 : ¬ (m 94 64) ≤ l2) => ?_)
    · skip
      have g6 := i_le h5
      refine sp_236rz (aa := (rB0 aa)) (tt := (-1))  hV (show qRv (rB0 aa) from by first | (exact (Rv_b0 r_RV).1) | (exact r_RV) | (exfalso; omega; done) | (exfalso; contradiction; done)) (show qRL (rB0 aa) (m 94 18) (m 94 64) (m 94 19) (m 94 63) (m 116) from by first | (exact RL_b0 r_RB.1 r_RV r_RLo r_KSe (by omega) (by omega) r_TZ (by omega)) | (exfalso; omega; done) | (exfalso; contradiction; done)) (show qLv (rB0 aa) (-1) from by first | (exact (Rv_b0 r_RV).2) | (exfalso; omega; done) | (exfalso; contradiction; done)) (show qLR (rB0 aa) (m 94 64) (m 94 19) (m 94 18) (m 94 63) (m 122) (m 123) (m 124) from by first | (exact LR_b0 r_RB.1 r_RV r_RLo r_KSe (by omega) (by omega)) | (exfalso; omega; done) | (exfalso; contradiction; done)) (fun v2 m1 hV_m1 p0_m1 p1_m1 => zmi_n ?_)
      have p0_m1 : v2.toInt = -1 ∨ (0 ≤ v2.toInt ∧ v2.toInt < (m 94 64).toInt ∧ (m 124) v2.toNatClampNeg = 0) := p0_m1
      have p1_m1 : qEq v2.toInt (rFw (rB0 aa)) := p1_m1
      try have rpr := r_RG.2.2.2.1
      try have rsi := r_RG.1
      try have rrg := r_RG.2.1
      skip
      try have rml2 := RG_ml (r := l2) r_RG (by have := rs_94_18 hV; omega) (by have := rs_94_64 hV; omega)
      have b7 := i_bd l1
      have li8 : (-1 : Int32).toInt = -1 := rfl
      have li9 : (1 : Int32).toInt = 1 := rfl
      have b10 := i_bd v2
      exact lp_235rz_161 h0 K _ _ (l1) ((-1 : Int32)) ((1 : Int32)) (v2) rfl (zF_zov hF ws_236_235) hV_m1 (by omega) (by omega) (show -1 ≤ (-1 : Int32).toInt ∧ (-1 : Int32).toInt < (m 94 64).toInt from by omega) p0_m1 (by omega) r_W r_GW r_GU r_OW (show (m 94 10).toInt = 6 ∧ (m 94 58).toInt = 0 from by omega) r_WTS r_RG (show qZO (m 99) (m 100) (m 98) (m 101) (m 102) (m 103) (m 107) (m 108) (m 109) (m 111) (m 112) (m 113) (m 114) (m 94 55) (m 94 46) ro (m 94 18) (m 94 64) (m 94 19) (m 94 63) (m 116) (m 122) (m 123) (m 124) (-1 : Int32).toInt (1 : Int32).toInt v2.toInt (rC0 aa) from by first | (exact ZO_0 r_RB r_RV r_RLo r_KSe (by omega) (by omega) r_TZ (by omega) p1_m1) | (exfalso; omega; done) | (exfalso; contradiction; done))
    · skip
      have g11 := i_nle h5
      skip
      try have rsi := r_RG.1
      skip
      have hg12 : (0 ≤ l2 ∧ l2.toNatClampNeg < 128) := i_ix (by omega) (by omega)
      refine ⟨hg12, ?_⟩
      have b13 := i_bd (m 122 l2.toNatClampNeg)
      have li14 : (0 : Int32).toInt = 0 := rfl
      refine zd (fun (h15 : (m 122 l2.toNatClampNeg) = (0 : Int32)) => ?_) (fun (h15 : ¬ (m 122 l2.toNatClampNeg) = (0 : Int32)) => ?_)
      · skip
        have g16 := i_eq h15
        try have rpr := r_RG.2.2.2.1
        try have rsi := r_RG.1
        try have rrg := r_RG.2.1
        skip
        try have rml2 := RG_ml (r := l2) r_RG (by have := rs_94_18 hV; omega) (by have := rs_94_64 hV; omega)
        have hg17 : (0 ≤ l2 ∧ l2.toNatClampNeg < 128) := i_ix (by omega) (by omega)
        refine ⟨hg17, ?_⟩
        try have rpr := r_RG.2.2.2.1
        try have rsi := r_RG.1
        try have rrg := r_RG.2.1
        skip
        try have rml2 := RG_ml (r := l2) r_RG (by have := rs_94_18 hV; omega) (by have := rs_94_64 hV; omega)
        have hV18 : zV (ma_u m 116 l2.toNatClampNeg (0 : Int32)) := ua_116 hV (by omega) (by omega)
        have b19 := i_bd l1
        first | have e20 : (l2 + (1 : Int32)).toInt = l2.toInt + (1) := i_addk rfl (by omega) (by omega) | have b21 := i_bd (l2 + (1 : Int32))
        exact IH (128 - (l2 + (1 : Int32)).toInt).toNat (by omega) _ (l1) ((l2 + (1 : Int32))) rfl (zF_u hF rfl) hV18 (by omega) (by omega) r_W r_GW r_GU r_OW (show (m 94 10).toInt = 6 ∧ (m 94 58).toInt = 0 from by omega) r_WTS (show zRG1 (m 94 18) (m 94 64) (m 94 63) (m 99) (m 103) (m 102) ((ma_u m 116 l2.toNatClampNeg (0 : Int32)) 116) from by first | (exact RG_put r_RG (by omega)) | (exfalso; omega; done) | (exfalso; contradiction; done)) r_RB r_RV r_RLo r_KSe (show qTZ (m0 116) ((ma_u m 116 l2.toNatClampNeg (0 : Int32)) 116) (m 122) (m 94 64).toInt (l2 + (1 : Int32)).toInt from by first | (exact TZ_y r_TZ (by omega) (by omega) (by first | omega | exact i_ez (by assumption)) (fun r => mu_at r)) | (exact TZ_0) | (exact TZ_n r_TZ (by omega) (by omega) (by first | omega | exact i_en (by assumption))) | (exfalso; omega; done) | (exfalso; contradiction; done))
      · skip
        have g22 := i_ne h15
        try have rpr := r_RG.2.2.2.1
        try have rsi := r_RG.1
        try have rrg := r_RG.2.1
        skip
        try have rml2 := RG_ml (r := l2) r_RG (by have := rs_94_18 hV; omega) (by have := rs_94_64 hV; omega)
        have b23 := i_bd l1
        first | have e24 : (l2 + (1 : Int32)).toInt = l2.toInt + (1) := i_addk rfl (by omega) (by omega) | have b25 := i_bd (l2 + (1 : Int32))
        exact IH (128 - (l2 + (1 : Int32)).toInt).toNat (by omega) _ (l1) ((l2 + (1 : Int32))) rfl hF hV (by omega) (by omega) r_W r_GW r_GU r_OW (show (m 94 10).toInt = 6 ∧ (m 94 58).toInt = 0 from by omega) r_WTS r_RG r_RB r_RV r_RLo r_KSe (show qTZ (m0 116) (m 116) (m 122) (m 94 64).toInt (l2 + (1 : Int32)).toInt from by first | (exact TZ_n r_TZ (by omega) (by omega) (by first | omega | exact i_en (by assumption))) | (exact TZ_0) | (exact TZ_y r_TZ (by omega) (by omega) (by first | omega | exact i_ez (by assumption)) (fun r => mu_at r)) | (exfalso; omega; done) | (exfalso; contradiction; done))
set_option maxHeartbeats 8000000 in
theorem lp_235rz_44 {X : Nat × (Nat → Int32)} {P : Option ma_V → (Nat → Nat → Int32) → Prop} {T : Nat} {aa : Nat→Nat→Int32} {ro : Int32} {m0 : Nat → Nat → Int32} (h0 : zV m0) (K : ∀ v m₉, zF wr_235 m0 m₉ → zV m₉ → (zGW T (m₉ 94 55) (m₉ 109)) → (zGU T (m₉ 94 46) (m₉ 99)) → (zOw (m₉ 99) (m₉ 103) (m₉ 111)) → (zRG1 (m₉ 94 18) (m₉ 94 64) (m₉ 94 63) (m₉ 99) (m₉ 103) (m₉ 102) (m₉ 116)) → (qRB (m₉ 99) (m₉ 100) (m₉ 98) (m₉ 101) (m₉ 102) (m₉ 103) (m₉ 107) (m₉ 108) (m₉ 109) (m₉ 111) (m₉ 112) (m₉ 113) (m₉ 114) (m₉ 94 55) (m₉ 94 46) ro 0 0 0 1 (rCl aa)) → (qRv (rCl aa)) → (qRL (rCl aa) (m₉ 94 18) (m₉ 94 64) (m₉ 94 19) (m₉ 94 63) (m₉ 116)) → ((m₉ 94 45).toInt = sm (zbU (m₉ 99)) (m₉ 102) 3100) → P (some (.inl v)) m₉) : ∀ (n : Nat) (m : Nat → Nat → Int32) (l1 : Int32) (l2 : Int32), (3100 - l2.toInt).toNat = n → zF wr_235 m0 m → zV m → (0 ≤ l2.toInt) → (l2.toInt ≤ 3100) → (T ≤ 512) → (zW (m 94 7) (m 98) (m 101) (m 102) (m 108)) → (zGW T (m 94 55) (m 109)) → (zGU T (m 94 46) (m 99)) → (zOw (m 99) (m 103) (m 111)) → ((m 94 10).toInt = 6 ∧ (m 94 58).toInt = 0) → ((m 94 45).toInt = sm (zbU (m 99)) (m 102) 3100) → (zRG1 (m 94 18) (m 94 64) (m 94 63) (m 99) (m 103) (m 102) (m 116)) → (qRB (m 99) (m 100) (m 98) (m 101) (m 102) (m 103) (m 107) (m 108) (m 109) (m 111) (m 112) (m 113) (m 114) (m 94 55) (m 94 46) ro 0 0 0 1 (aSw aa)) → (qRv aa) → (qRL aa (m 94 18) (m 94 64) (m 94 19) (m 94 63) (m0 116)) → ((m 116) = (m0 116)) → (qKS (m 99) (m 102) (m 107) (m 103) (m 122) (m 123) (m 124) (m 94 18).toInt (m 94 64).toInt l2.toNatClampNeg) → zm X 5 108 235 44 [(0, .inr (.inr (some 94))), (1, .inl l1), (2, .inl l2)] m P := by
  intro n
  induction n using Nat.strongRecOn with
  | _ n IH =>
    intro m l1 l2 hmu hF hV hi0 hi1 hi2 r_W r_GW r_GU r_OW hi7 r_WTS r_RG r_RB r_RV r_RLo r_TE r_KS
    refine g_235_44 l1 l2 ?_
    have f1 : 0 ≤ (m 94 10).toInt ∧ (m 94 10).toInt ≤ 6 := rs_94_10 (m := m) hV
    have f2 : 0 ≤ (m 94 58).toInt ∧ (m 94 58).toInt ≤ 1 := rs_94_58 (m := m) hV
    have li3 : (3100 : Int32).toInt = 3100 := rfl
    have b4 := i_bd l2
    refine zd (fun (h5 : (3100 : Int32) ≤ l2) => ?_) (fun (h5 : ¬ (3100 : Int32) ≤ l2) => ?_)
    · skip
      have g6 := i_le h5
      try have rpr := r_RG.2.2.2.1
      try have rsi := r_RG.1
      try have rrg := r_RG.2.1
      skip
      try have rml2 := RG_ml (r := l2) r_RG (by have := rs_94_18 hV; omega) (by have := rs_94_64 hV; omega)
      have b7 := i_bd l1
      have li8 : (0 : Int32).toInt = 0 := rfl
      exact lp_235rz_121 h0 K _ _ (l1) ((0 : Int32)) rfl hF hV (by omega) (by omega) r_W r_GW r_GU r_OW (show (m 94 10).toInt = 6 ∧ (m 94 58).toInt = 0 from by omega) r_WTS r_RG r_RB r_RV r_RLo (show qKS (m 99) (m 102) (m 107) (m 103) (m 122) (m 123) (m 124) (m 94 18).toInt (m 94 64).toInt 3100 from by first | (have q := r_KS; rw [show l2.toNatClampNeg = 3100 from by have := tn_cast (x := l2) (by omega); omega] at q; exact q; done) | (exfalso; omega; done) | (exfalso; contradiction; done)) (show qTZ (m0 116) (m 116) (m 122) (m 94 64).toInt (0 : Int32).toInt from by first | (exact TZ_1 r_TE) | (exact TZ_0) | (exfalso; omega; done) | (exfalso; contradiction; done))
    · skip
      have g9 := i_nle h5
      have hg10 : (0 ≤ l2 ∧ l2.toNatClampNeg < 3100) := i_ix (by omega) (by omega)
      refine ⟨hg10, ?_⟩
      first | have f11 : 0 ≤ (m 99 l2.toNatClampNeg).toInt ∧ (m 99 l2.toNatClampNeg).toInt ≤ 1 := ra_99 (m := m) hV (k := l2.toNatClampNeg) (i_ix (n := 3100) (by omega) (by omega)).2 | have b12 := i_bd (m 99 l2.toNatClampNeg)
      have li13 : (0 : Int32).toInt = 0 := rfl
      refine zd (fun (h14 : (m 99 l2.toNatClampNeg) = (0 : Int32)) => ?_) (fun (h14 : ¬ (m 99 l2.toNatClampNeg) = (0 : Int32)) => ?_)
      · skip
        have g15 := i_eq h14
        try have rpr := r_RG.2.2.2.1
        try have rsi := r_RG.1
        try have rrg := r_RG.2.1
        skip
        try have rml2 := RG_ml (r := l2) r_RG (by have := rs_94_18 hV; omega) (by have := rs_94_64 hV; omega)
        have b16 := i_bd l1
        first | have e17 : (l2 + (1 : Int32)).toInt = l2.toInt + (1) := i_addk rfl (by omega) (by omega) | have b18 := i_bd (l2 + (1 : Int32))
        exact IH (3100 - (l2 + (1 : Int32)).toInt).toNat (by omega) _ (l1) ((l2 + (1 : Int32))) rfl hF hV (by omega) (by omega) (by omega) r_W r_GW r_GU r_OW (show (m 94 10).toInt = 6 ∧ (m 94 58).toInt = 0 from by omega) r_WTS r_RG r_RB r_RV r_RLo r_TE (show qKS (m 99) (m 102) (m 107) (m 103) (m 122) (m 123) (m 124) (m 94 18).toInt (m 94 64).toInt (l2 + (1 : Int32)).toNatClampNeg from by first | (exact KS_n r_KS (by omega) (by assumption) (by omega)) | (exact KS_y r_RB.1 r_KS (by omega) (by omega) r_RG.1 (by assumption) (by omega) (fun r => mu_at r) (Or.inl ⟨by omega, fun r => mu_at r⟩)) | (exact KS_y r_RB.1 r_KS (by omega) (by omega) r_RG.1 (by assumption) (by omega) (fun r => mu_at r) (Or.inr ⟨by omega, rfl⟩)) | (exact KS_0 (by omega)) | (exact KS_dec r_KS (by omega)) | (exfalso; omega; done) | (exfalso; contradiction; done))
      · skip
        have g19 := i_ne h14
        try have rpr := r_RG.2.2.2.1
        try have rsi := r_RG.1
        try have rrg := r_RG.2.1
        skip
        try have rml2 := RG_ml (r := l2) r_RG (by have := rs_94_18 hV; omega) (by have := rs_94_64 hV; omega)
        have hg20 : (0 ≤ l2 ∧ l2.toNatClampNeg < 3100) := i_ix (by omega) (by omega)
        refine ⟨hg20, ?_⟩
        have f21 : 0 ≤ (m 94 18).toInt ∧ (m 94 18).toInt ≤ 256 := rs_94_18 (m := m) hV
        have hg22 : (m 94 18) ≠ 0 := i_nz (by omega)
        refine ⟨hg22, ?_⟩
        first | have f23 : 0 ≤ (m 103 l2.toNatClampNeg).toInt ∧ (m 103 l2.toNatClampNeg).toInt ≤ 4599 := ra_103 (m := m) hV (k := l2.toNatClampNeg) (i_ix (n := 3100) (by omega) (by omega)).2 | have b24 := i_bd (m 103 l2.toNatClampNeg)
        first | have f25 := i_div (x := (m 103 l2.toNatClampNeg)) (y := (m 94 18)) (by omega) (by omega) | have b26 := i_bd ((m 103 l2.toNatClampNeg) / (m 94 18))
        try have au := RG_at r_RG (s := l2.toNatClampNeg) (by omega) (by assumption)
        try have rsi := r_RG.1
        try have dv : 0 ≤ (((m 103 l2.toNatClampNeg) / (m 94 18))).toInt ∧ (((m 103 l2.toNatClampNeg) / (m 94 18))).toInt ≤ 93 := i_div16 (by omega) (by omega) (by omega)
        have hg27 : (0 ≤ ((m 103 l2.toNatClampNeg) / (m 94 18)) ∧ ((m 103 l2.toNatClampNeg) / (m 94 18)).toNatClampNeg < 128) := i_ix (by omega) (by omega)
        refine ⟨hg27, ?_⟩
        skip
        skip
        have hg28 : (0 ≤ l2 ∧ l2.toNatClampNeg < 3100) := i_ix (by omega) (by omega)
        refine ⟨hg28, ?_⟩
        try have au := RG_at r_RG (s := l2.toNatClampNeg) (by omega) (by assumption)
        try have rsi := r_RG.1
        try have dv : 0 ≤ (((m 103 l2.toNatClampNeg) / (m 94 18))).toInt ∧ (((m 103 l2.toNatClampNeg) / (m 94 18))).toInt ≤ 93 := i_div16 (by omega) (by omega) (by omega)
        have hg29 : (0 ≤ ((m 103 l2.toNatClampNeg) / (m 94 18)) ∧ ((m 103 l2.toNatClampNeg) / (m 94 18)).toNatClampNeg < 128) := i_ix (by omega) (by omega)
        refine ⟨hg29, ?_⟩
        have hg30 : (0 ≤ l2 ∧ l2.toNatClampNeg < 3100) := i_ix (by omega) (by omega)
        refine ⟨hg30, ?_⟩
        have b31 := i_bd (m 107 l2.toNatClampNeg)
        refine zd (fun (h32 : (m 107 l2.toNatClampNeg) ≤ (0 : Int32)) => ?_) (fun (h32 : ¬ (m 107 l2.toNatClampNeg) ≤ (0 : Int32)) => ?_)
        · skip
          have g33 := i_le h32
          try have rpr := r_RG.2.2.2.1
          try have rsi := r_RG.1
          try have rrg := r_RG.2.1
          skip
          try have rml2 := RG_ml (r := l2) r_RG (by have := rs_94_18 hV; omega) (by have := rs_94_64 hV; omega)
          have hV34 : zV (ma_u m 122 ((m 103 l2.toNatClampNeg) / (m 94 18)).toNatClampNeg ((m 122 ((m 103 l2.toNatClampNeg) / (m 94 18)).toNatClampNeg) + ((m 102 l2.toNatClampNeg) + (1 : Int32)))) := ua_122 hV
          have b35 := i_bd l1
          first | have e36 : (l2 + (1 : Int32)).toInt = l2.toInt + (1) := i_addk rfl (by omega) (by omega) | have b37 := i_bd (l2 + (1 : Int32))
          exact IH (3100 - (l2 + (1 : Int32)).toInt).toNat (by omega) _ (l1) ((l2 + (1 : Int32))) rfl (zF_u hF rfl) hV34 (by omega) (by omega) (by omega) r_W r_GW r_GU r_OW (show (m 94 10).toInt = 6 ∧ (m 94 58).toInt = 0 from by omega) r_WTS r_RG r_RB r_RV r_RLo r_TE (show qKS (m 99) (m 102) (m 107) (m 103) ((ma_u m 122 ((m 103 l2.toNatClampNeg) / (m 94 18)).toNatClampNeg ((m 122 ((m 103 l2.toNatClampNeg) / (m 94 18)).toNatClampNeg) + ((m 102 l2.toNatClampNeg) + (1 : Int32)))) 122) (m 123) (m 124) (m 94 18).toInt (m 94 64).toInt (l2 + (1 : Int32)).toNatClampNeg from by first | (exact KS_y r_RB.1 r_KS (by omega) (by omega) r_RG.1 (by assumption) (by omega) (fun r => mu_at r) (Or.inr ⟨by omega, rfl⟩)) | (exact KS_n r_KS (by omega) (by assumption) (by omega)) | (exact KS_y r_RB.1 r_KS (by omega) (by omega) r_RG.1 (by assumption) (by omega) (fun r => mu_at r) (Or.inl ⟨by omega, fun r => mu_at r⟩)) | (exact KS_push r_KS (by assumption) (by omega) (by decide) (by assumption)) | (exact KS_push (KS_0 (r := m 110) (y := m 94 73) (by omega)) (by assumption) (by omega) (by decide) (by assumption)) | (exfalso; omega; done) | (exfalso; contradiction; done))
        · skip
          have g38 := i_nle h32
          try have rpr := r_RG.2.2.2.1
          try have rsi := r_RG.1
          try have rrg := r_RG.2.1
          skip
          try have rml2 := RG_ml (r := l2) r_RG (by have := rs_94_18 hV; omega) (by have := rs_94_64 hV; omega)
          have hg39 : (0 ≤ l2 ∧ l2.toNatClampNeg < 3100) := i_ix (by omega) (by omega)
          refine ⟨hg39, ?_⟩
          have hg40 : (m 94 18) ≠ 0 := i_nz (by omega)
          refine ⟨hg40, ?_⟩
          try have au := RG_at r_RG (s := l2.toNatClampNeg) (by omega) (by assumption)
          try have rsi := r_RG.1
          try have dv : 0 ≤ (((m 103 l2.toNatClampNeg) / (m 94 18))).toInt ∧ (((m 103 l2.toNatClampNeg) / (m 94 18))).toInt ≤ 93 := i_div16 (by omega) (by omega) (by omega)
          have hg41 : (0 ≤ ((m 103 l2.toNatClampNeg) / (m 94 18)) ∧ ((m 103 l2.toNatClampNeg) / (m 94 18)).toNatClampNeg < 128) := i_ix (by omega) (by omega)
          refine ⟨hg41, ?_⟩
          try have rpr := r_RG.2.2.2.1
          try have rsi := r_RG.1
          try have rrg := r_RG.2.1
          skip
          try have rml2 := RG_ml (r := l2) r_RG (by have := rs_94_18 hV; omega) (by have := rs_94_64 hV; omega)
          have hV42 : zV (ma_u m 122 ((m 103 l2.toNatClampNeg) / (m 94 18)).toNatClampNeg ((m 122 ((m 103 l2.toNatClampNeg) / (m 94 18)).toNatClampNeg) + ((m 102 l2.toNatClampNeg) + (1 : Int32)))) := ua_122 hV
          have li44 : (1 : Int32).toInt = 1 := rfl
          have hV43 : zV (ma_u (ma_u m 122 ((m 103 l2.toNatClampNeg) / (m 94 18)).toNatClampNeg ((m 122 ((m 103 l2.toNatClampNeg) / (m 94 18)).toNatClampNeg) + ((m 102 l2.toNatClampNeg) + (1 : Int32)))) 123 ((m 103 l2.toNatClampNeg) / (m 94 18)).toNatClampNeg (1 : Int32)) := ua_123 hV42 (by omega) (by omega)
          have b45 := i_bd l1
          first | have e46 : (l2 + (1 : Int32)).toInt = l2.toInt + (1) := i_addk rfl (by omega) (by omega) | have b47 := i_bd (l2 + (1 : Int32))
          exact IH (3100 - (l2 + (1 : Int32)).toInt).toNat (by omega) _ (l1) ((l2 + (1 : Int32))) rfl (zF_u (zF_u hF rfl) rfl) hV43 (by omega) (by omega) (by omega) r_W r_GW r_GU r_OW (show (m 94 10).toInt = 6 ∧ (m 94 58).toInt = 0 from by omega) r_WTS r_RG r_RB r_RV r_RLo r_TE (show qKS (m 99) (m 102) (m 107) (m 103) ((ma_u m 122 ((m 103 l2.toNatClampNeg) / (m 94 18)).toNatClampNeg ((m 122 ((m 103 l2.toNatClampNeg) / (m 94 18)).toNatClampNeg) + ((m 102 l2.toNatClampNeg) + (1 : Int32)))) 122) ((ma_u m 123 ((m 103 l2.toNatClampNeg) / (m 94 18)).toNatClampNeg (1 : Int32)) 123) (m 124) (m 94 18).toInt (m 94 64).toInt (l2 + (1 : Int32)).toNatClampNeg from by first | (exact KS_y r_RB.1 r_KS (by omega) (by omega) r_RG.1 (by assumption) (by omega) (fun r => mu_at r) (Or.inl ⟨by omega, fun r => mu_at r⟩)) | (exact KS_n r_KS (by omega) (by assumption) (by omega)) | (exact KS_y r_RB.1 r_KS (by omega) (by omega) r_RG.1 (by assumption) (by omega) (fun r => mu_at r) (Or.inr ⟨by omega, rfl⟩)) | (exact KS_push r_KS (by assumption) (by omega) (by decide) (by assumption)) | (exact KS_push (KS_0 (r := m 110) (y := m 94 73) (by omega)) (by assumption) (by omega) (by decide) (by assumption)) | (exfalso; omega; done) | (exfalso; contradiction; done))
set_option maxHeartbeats 8000000 in
theorem lp_235rz_7 {X : Nat × (Nat → Int32)} {P : Option ma_V → (Nat → Nat → Int32) → Prop} {T : Nat} {aa : Nat→Nat→Int32} {ro : Int32} {m0 : Nat → Nat → Int32} (h0 : zV m0) (K : ∀ v m₉, zF wr_235 m0 m₉ → zV m₉ → (zGW T (m₉ 94 55) (m₉ 109)) → (zGU T (m₉ 94 46) (m₉ 99)) → (zOw (m₉ 99) (m₉ 103) (m₉ 111)) → (zRG1 (m₉ 94 18) (m₉ 94 64) (m₉ 94 63) (m₉ 99) (m₉ 103) (m₉ 102) (m₉ 116)) → (qRB (m₉ 99) (m₉ 100) (m₉ 98) (m₉ 101) (m₉ 102) (m₉ 103) (m₉ 107) (m₉ 108) (m₉ 109) (m₉ 111) (m₉ 112) (m₉ 113) (m₉ 114) (m₉ 94 55) (m₉ 94 46) ro 0 0 0 1 (rCl aa)) → (qRv (rCl aa)) → (qRL (rCl aa) (m₉ 94 18) (m₉ 94 64) (m₉ 94 19) (m₉ 94 63) (m₉ 116)) → ((m₉ 94 45).toInt = sm (zbU (m₉ 99)) (m₉ 102) 3100) → P (some (.inl v)) m₉) : ∀ (n : Nat) (m : Nat → Nat → Int32) (l1 : Int32) (l2 : Int32), (128 - l2.toInt).toNat = n → zF wr_235 m0 m → zV m → (0 ≤ l2.toInt) → (T ≤ 512) → (zW (m 94 7) (m 98) (m 101) (m 102) (m 108)) → (zGW T (m 94 55) (m 109)) → (zGU T (m 94 46) (m 99)) → (zOw (m 99) (m 103) (m 111)) → ((m 94 10).toInt = 6 ∧ (m 94 58).toInt = 0) → ((m 94 45).toInt = sm (zbU (m 99)) (m 102) 3100) → (zRG1 (m 94 18) (m 94 64) (m 94 63) (m 99) (m 103) (m 102) (m 116)) → (qRB (m 99) (m 100) (m 98) (m 101) (m 102) (m 103) (m 107) (m 108) (m 109) (m 111) (m 112) (m 113) (m 114) (m 94 55) (m 94 46) ro 0 0 0 1 (aSw aa)) → (qRv aa) → (qRL aa (m 94 18) (m 94 64) (m 94 19) (m 94 63) (m0 116)) → ((m 116) = (m0 116)) → (qK0 (m 122) (m 123) (m 124) l2.toInt) → zm X 5 108 235 7 [(0, .inr (.inr (some 94))), (1, .inl l1), (2, .inl l2)] m P := by
  intro n
  induction n using Nat.strongRecOn with
  | _ n IH =>
    intro m l1 l2 hmu hF hV hi0 hi1 r_W r_GW r_GU r_OW hi6 r_WTS r_RG r_RB r_RV r_RLo r_TE r_K0
    refine g_235_7 l1 l2 ?_
    have f1 : 0 ≤ (m 94 10).toInt ∧ (m 94 10).toInt ≤ 6 := rs_94_10 (m := m) hV
    have f2 : 0 ≤ (m 94 58).toInt ∧ (m 94 58).toInt ≤ 1 := rs_94_58 (m := m) hV
    have f3 : 0 ≤ (m 94 64).toInt ∧ (m 94 64).toInt ≤ 93 := rs_94_64 (m := m) hV
    have b4 := i_bd l2
    refine zd (fun (h5 : (m 94 64) ≤ l2) => ?_) (fun (h5 : ¬ (m 94 64) ≤ l2) => ?_)
    · skip
      have g6 := i_le h5
      try have rpr := r_RG.2.2.2.1
      try have rsi := r_RG.1
      try have rrg := r_RG.2.1
      skip
      try have rml2 := RG_ml (r := l2) r_RG (by have := rs_94_18 hV; omega) (by have := rs_94_64 hV; omega)
      have b7 := i_bd l1
      have li8 : (0 : Int32).toInt = 0 := rfl
      exact lp_235rz_44 h0 K _ _ (l1) ((0 : Int32)) rfl hF hV (by omega) (by omega) (by omega) r_W r_GW r_GU r_OW (show (m 94 10).toInt = 6 ∧ (m 94 58).toInt = 0 from by omega) r_WTS r_RG r_RB r_RV r_RLo r_TE (show qKS (m 99) (m 102) (m 107) (m 103) (m 122) (m 123) (m 124) (m 94 18).toInt (m 94 64).toInt (0 : Int32).toNatClampNeg from by first | (exact KZ_0 r_K0 (by omega)) | (exact KS_0 (by omega)) | (exfalso; omega; done) | (exfalso; contradiction; done))
    · skip
      have g9 := i_nle h5
      skip
      try have rsi := r_RG.1
      skip
      have hg10 : (0 ≤ l2 ∧ l2.toNatClampNeg < 128) := i_ix (by omega) (by omega)
      refine ⟨hg10, ?_⟩
      skip
      try have rsi := r_RG.1
      skip
      have hg11 : (0 ≤ l2 ∧ l2.toNatClampNeg < 128) := i_ix (by omega) (by omega)
      refine ⟨hg11, ?_⟩
      try have rpr := r_RG.2.2.2.1
      try have rsi := r_RG.1
      try have rrg := r_RG.2.1
      skip
      try have rml2 := RG_ml (r := l2) r_RG (by have := rs_94_18 hV; omega) (by have := rs_94_64 hV; omega)
      have hg12 : (0 ≤ l2 ∧ l2.toNatClampNeg < 128) := i_ix (by omega) (by omega)
      refine ⟨hg12, ?_⟩
      try have rpr := r_RG.2.2.2.1
      try have rsi := r_RG.1
      try have rrg := r_RG.2.1
      skip
      try have rml2 := RG_ml (r := l2) r_RG (by have := rs_94_18 hV; omega) (by have := rs_94_64 hV; omega)
      have hV13 : zV (ma_u m 122 l2.toNatClampNeg (0 : Int32)) := ua_122 hV
      have li15 : (0 : Int32).toInt = 0 := rfl
      have hV14 : zV (ma_u (ma_u m 122 l2.toNatClampNeg (0 : Int32)) 123 l2.toNatClampNeg (0 : Int32)) := ua_123 hV13 (by omega) (by omega)
      have hV16 : zV (ma_u (ma_u (ma_u m 122 l2.toNatClampNeg (0 : Int32)) 123 l2.toNatClampNeg (0 : Int32)) 124 l2.toNatClampNeg (0 : Int32)) := ua_124 hV14 (by omega) (by omega)
      have b17 := i_bd l1
      first | have e18 : (l2 + (1 : Int32)).toInt = l2.toInt + (1) := i_addk rfl (by omega) (by omega) | have b19 := i_bd (l2 + (1 : Int32))
      exact IH (128 - (l2 + (1 : Int32)).toInt).toNat (by omega) _ (l1) ((l2 + (1 : Int32))) rfl (zF_u (zF_u (zF_u hF rfl) rfl) rfl) hV16 (by omega) (by omega) r_W r_GW r_GU r_OW (show (m 94 10).toInt = 6 ∧ (m 94 58).toInt = 0 from by omega) r_WTS r_RG r_RB r_RV r_RLo r_TE (show qK0 ((ma_u m 122 l2.toNatClampNeg (0 : Int32)) 122) ((ma_u m 123 l2.toNatClampNeg (0 : Int32)) 123) ((ma_u m 124 l2.toNatClampNeg (0 : Int32)) 124) (l2 + (1 : Int32)).toInt from by first | (exact K0_nx r_K0 (by omega) (by omega) (fun r => mu_at r) (fun r => mu_at r) (fun r => mu_at r)) | (exact K0_0) | (exfalso; omega; done) | (exfalso; contradiction; done))
set_option maxHeartbeats 8000000 in
theorem sp_235rz {X : Nat × (Nat → Int32)} {P : Option ma_V → (Nat → Nat → Int32) → Prop} {T : Nat} {aa : Nat→Nat→Int32} {ro : Int32} {m : Nat → Nat → Int32}  (hV : zV m) (hpre0 : T ≤ 512) (r_W : zW (m 94 7) (m 98) (m 101) (m 102) (m 108)) (r_GW : zGW T (m 94 55) (m 109)) (r_GU : zGU T (m 94 46) (m 99)) (r_OW : zOw (m 99) (m 103) (m 111)) (hpre5 : (m 94 10).toInt = 6 ∧ (m 94 58).toInt = 0) (r_RB : qRB (m 99) (m 100) (m 98) (m 101) (m 102) (m 103) (m 107) (m 108) (m 109) (m 111) (m 112) (m 113) (m 114) (m 94 55) (m 94 46) ro 0 0 0 1 aa) (r_RV : qRv aa) (r_RL : qRL aa (m 94 18) (m 94 64) (m 94 19) (m 94 63) (m 116)) (r_RG : zRG1 (m 94 18) (m 94 64) (m 94 63) (m 99) (m 103) (m 102) (m 116)) (r_WTS : (m 94 45).toInt = sm (zbU (m 99)) (m 102) 3100) (KZ : ∀ v m₉, zV (zov wr_235 m m₉) → (zGW T (m₉ 94 55) (m₉ 109)) → (zGU T (m 94 46) (m₉ 99)) → (zOw (m₉ 99) (m₉ 103) (m₉ 111)) → (zRG1 (m 94 18) (m 94 64) (m₉ 94 63) (m₉ 99) (m₉ 103) (m 102) (m₉ 116)) → (qRB (m₉ 99) (m 100) (m 98) (m 101) (m 102) (m₉ 103) (m 107) (m 108) (m₉ 109) (m₉ 111) (m 112) (m₉ 113) (m₉ 114) (m₉ 94 55) (m 94 46) ro 0 0 0 1 (rCl aa)) → (qRv (rCl aa)) → (qRL (rCl aa) (m 94 18) (m 94 64) (m 94 19) (m₉ 94 63) (m₉ 116)) → ((m₉ 94 45).toInt = sm (zbU (m₉ 99)) (m 102) 3100) → P (some (.inl v)) (zov wr_235 m m₉)) : zm X 5 108 235 0 [(0, .inr (.inr (some 94)))] m P := by
  have K : ∀ v m₉, zF wr_235 m m₉ → zV m₉ → (zGW T (m₉ 94 55) (m₉ 109)) → (zGU T (m₉ 94 46) (m₉ 99)) → (zOw (m₉ 99) (m₉ 103) (m₉ 111)) → (zRG1 (m₉ 94 18) (m₉ 94 64) (m₉ 94 63) (m₉ 99) (m₉ 103) (m₉ 102) (m₉ 116)) → (qRB (m₉ 99) (m₉ 100) (m₉ 98) (m₉ 101) (m₉ 102) (m₉ 103) (m₉ 107) (m₉ 108) (m₉ 109) (m₉ 111) (m₉ 112) (m₉ 113) (m₉ 114) (m₉ 94 55) (m₉ 94 46) ro 0 0 0 1 (rCl aa)) → (qRv (rCl aa)) → (qRL (rCl aa) (m₉ 94 18) (m₉ 94 64) (m₉ 94 19) (m₉ 94 63) (m₉ 116)) → ((m₉ 94 45).toInt = sm (zbU (m₉ 99)) (m₉ 102) 3100) → P (some (.inl v)) m₉ := by
    intro v m₉ hf z q0 q1 q2 q3 q4 q5 q6 q7
    have e := zov_eq hf
    rw [e] at z ⊢
    try rw [e] at q0
    try rw [e] at q1
    try rw [e] at q2
    try rw [e] at q3
    try rw [e] at q4
    skip
    try rw [e] at q6
    try rw [e] at q7
    exact KZ v m₉ z q0 q1 q2 q3 q4 q5 q6 q7
  refine g_235_0  ?_
  have f1 : 0 ≤ (m 94 10).toInt ∧ (m 94 10).toInt ≤ 6 := rs_94_10 (m := m) hV
  have f2 : 0 ≤ (m 94 58).toInt ∧ (m 94 58).toInt ≤ 1 := rs_94_58 (m := m) hV
  refine sp_187rm (aa := aa)  hV (by omega) r_W r_GW r_GU r_OW (show (m 94 10).toInt ≠ 4 from by omega) r_RB (show qI aa from by first | (exact r_RV.1) | (exfalso; omega; done) | (exfalso; contradiction; done)) r_WTS (fun v2 m1 hV_m1 p0_m1 p1_m1 p2_m1 p3_m1 p4_m1 p5_m1 => zmi_n ?_)
  have p0_m1 : zGW T (m1 94 55) (m1 109) := p0_m1
  have p1_m1 : zGU T (m 94 46) (m1 99) := p1_m1
  have p2_m1 : zOw (m1 99) (m 103) (m1 111) := p2_m1
  have p3_m1 : qRB (m1 99) (m 100) (m 98) (m 101) (m 102) (m 103) (m 107) (m 108) (m1 109) (m1 111) (m 112) (m1 113) (m1 114) (m1 94 55) (m 94 46) ro 0 0 0 1 (aSw aa) := p3_m1
  have p4_m1 : qI (aSw aa) := p4_m1
  have p5_m1 : (m1 94 45).toInt = sm (zbU (m1 99)) (m 102) 3100 := p5_m1
  try have rpr := r_RG.2.2.2.1
  try have rsi := r_RG.1
  try have rrg := r_RG.2.1
  skip
  skip
  have b3 := i_bd v2
  have li4 : (0 : Int32).toInt = 0 := rfl
  exact lp_235rz_7 hV K _ _ (v2) ((0 : Int32)) rfl (zF_zov zF_rfl ws_187_235) hV_m1 (by omega) (by omega) r_W p0_m1 p1_m1 p2_m1 (show (m 94 10).toInt = 6 ∧ (m 94 58).toInt = 0 from by omega) p5_m1 (show zRG1 (m 94 18) (m 94 64) (m 94 63) (m1 99) (m 103) (m 102) (m 116) from by first | (exact RG_of p3_m1 (Rv_sw r_RV) (RL_sw r_RL)) | (exfalso; omega; done) | (exfalso; contradiction; done)) p3_m1 r_RV (show qRL aa (m 94 18) (m 94 64) (m 94 19) (m 94 63) (m 116) from by first | (exact r_RL) | (exfalso; omega; done) | (exfalso; contradiction; done)) (show (m 116) = (m 116) from by first | (exact rfl) | (exfalso; omega; done) | (exfalso; contradiction; done)) (show qK0 (m 122) (m 123) (m 124) (0 : Int32).toInt from by first | (exact K0_0) | (exfalso; omega; done) | (exfalso; contradiction; done))

/-! from 95.t05 -/
/-! REGIONS, the reference (written by wip/tools/gen15t.py) -/
/-! REGIONS: room and a new one in the reference -/
def rFt (a : Nat → Nat → Int32) (z v : Int32) : Nat → Nat → Int32 := if v.toInt < 0 then a else ma_u a 92 (a 87 9).toNatClampNeg (a 92 (a 87 9).toNatClampNeg + z)
def rGt (a : Nat → Nat → Int32) (z v : Int32) : Nat → Nat → Int32 := rFt (rRs a z.toInt) z v
def qFI (a : Nat → Nat → Int32) (z v : Int) : Prop := (v = -1 ∧ ¬ rFi a z) ∨ (rFi a z ∧ 0 ≤ v ∧ v = (a 87 9).toInt * (a 87 3).toInt + (a 92 (a 87 9).toNatClampNeg).toInt)
section F19
variable {a b b0 d aa : Nat → Nat → Int32} {us nr kr kd ws at₉ ho wd wi ow rt wk wl tp tp2 : Nat → Int32} {wm nu ro si rg sh pr x y v z w pl kk i : Int32} {n k : Nat} {t e p : Int} {L : Int64} {F : Nat → Int32}
theorem rFt_n (h : v.toInt < 0) : rFt a z v = a := if_pos h
theorem rFt_y (h : 0 ≤ v.toInt) : rFt a z v = ma_u a 92 (a 87 9).toNatClampNeg (a 92 (a 87 9).toNatClampNeg + z) := if_neg (by omega)
theorem rFt_r {c : Nat} (h : c ≠ 92) : rFt a z v c = a c := by
  unfold rFt
  split
  · rfl
  · exact ma_u_ne _ _ _ h
theorem RL_top (h : qRL a si rg sh pr tp) (hv : qRv a) : 0 ≤ (tp pr.toNatClampNeg).toInt ∧ (tp pr.toNatClampNeg).toInt ≤ si.toInt := by
  have b := RL_b h hv
  have tc := tn_cast b.2.2.1.1
  have q := (hv.2.2.2.1 pr.toNatClampNeg (by omega)).1
  rw [RL_t h b.2.2.1.1 b.2.2.1.2, h.1] at q
  exact q
theorem RL_take (h : qRL a si rg sh pr tp) (hv : qRv a) : 0 ≤ (pr * si).toInt ∧ (pr * si).toInt + si.toInt ≤ 1500 := by
  have b := RL_b h hv
  have m := i_muln (x := pr) (y := si) (by omega) (by omega) (by omega) (by omega)
  have l := ml_le (s := si.toInt) b.2.2.1.2 (by omega)
  rw [m.2.2]
  exact ⟨by rw [← m.2.2]; exact m.1, by omega⟩
theorem RL_pt (h : qRL a si rg sh pr tp) (hv : qRv a) : a 92 (a 87 9).toNatClampNeg = tp pr.toNatClampNeg := by
  have b := RL_b h hv
  rw [h.2.2.2.1]
  exact RL_t h b.2.2.1.1 b.2.2.1.2
theorem FI_n (h : qRL a si rg sh pr tp) (hv : qRv a) (hf : si.toInt < (tp pr.toNatClampNeg).toInt + z.toInt) : qFI a z.toInt (-1 : Int32).toInt := Or.inl ⟨rfl, fun w => by
  unfold rFi at w
  rw [RL_pt h hv, h.1] at w
  omega⟩
theorem FI_y (h : qRL a si rg sh pr tp) (hv : qRv a) (hf : ¬ si.toInt < (tp pr.toNatClampNeg).toInt + z.toInt) (hp : v.toInt = pr.toInt * si.toInt + (tp pr.toNatClampNeg).toInt) : qFI a z.toInt v.toInt := by
  have b := RL_b h hv
  have t := RL_top h hv
  have m0 : 0 ≤ pr.toInt * si.toInt := Int.mul_nonneg b.2.2.1.1 (by omega)
  refine Or.inr ⟨?_, by omega, ?_⟩
  · unfold rFi
    rw [RL_pt h hv, h.1]
    omega
  · rw [RL_pt h hv, h.1, h.2.2.2.1]
    exact hp
theorem RL_fy (h : qRL a si rg sh pr tp) (hv : qRv a) (h0 : 0 ≤ v.toInt) (e : ∀ r, tp2 r = if r = pr.toNatClampNeg then tp pr.toNatClampNeg + z else tp r) : qRL (rFt a z v) si rg sh pr tp2 := by
  rw [rFt_y h0, RL_pt h hv, h.2.2.2.1]
  refine ⟨?_, ?_, ?_, ?_, fun r hr => ?_⟩
  · rw [xu_o (by omega)]
    exact h.1
  · rw [xu_o (by omega)]
    exact h.2.1
  · rw [xu_o (by omega)]
    exact h.2.2.1
  · rw [xu_o (by omega)]
    exact h.2.2.2.1
  · rw [e]
    show (if (92 : Nat) = 92 ∧ r = pr.toNatClampNeg then _ else a 92 r) = _
    by_cases w : r = pr.toNatClampNeg
    · rw [if_pos ⟨rfl, w⟩, if_pos w]
    · rw [if_neg (fun z => w z.2), if_neg w]
      exact h.2.2.2.2 r hr
theorem RL_9 (h : qRL a si rg sh pr tp) : qRL (ma_u a 87 9 x) si rg sh x tp := by
  unfold qRL at h ⊢
  rw [ma_u_ne _ _ _ (show (92 : Nat) ≠ 87 by decide), xu_s, xu_o (by decide), xu_o (by decide), xu_o (by decide)]
  exact ⟨h.1, h.2.1, h.2.2.1, rfl, h.2.2.2.2⟩
theorem Rv_ft (hv : qRv a) (hf : v.toInt < 0 ∨ rFi a z.toInt) (hz : 1 ≤ z.toInt) : qRv (rFt a z v) := by
  by_cases h0 : v.toInt < 0
  · rw [rFt_n h0]
    exact hv
  · have fi : rFi a z.toInt := hf.elim (fun q => absurd q h0) id
    unfold rFi at fi
    rw [rFt_y (by omega)]
    obtain ⟨hI, h2, h3, h4, h5⟩ := hv
    have tc := tn_cast h3.2.2.1.1
    have tp0 := (h4 (a 87 9).toNatClampNeg (by have := h3.2.1; have := h3.2.2.1; omega)).1
    have s : (a 92 (a 87 9).toNatClampNeg + z).toInt = (a 92 (a 87 9).toNatClampNeg).toInt + z.toInt := i_add (by omega) (by have := h3.1; omega)
    have r : ∀ c, c ≠ 92 → ma_u a 92 (a 87 9).toNatClampNeg (a 92 (a 87 9).toNatClampNeg + z) c = a c := fun c hc => ma_u_ne _ _ _ hc
    unfold qRv xAl
    rw [r 87 (by decide), r 126 (by decide), r 128 (by decide), r 130 (by decide)]
    refine ⟨I_cg hI (r _ (by decide)) (r _ (by decide)) (r _ (by decide)) (r _ (by decide)) (r _ (by decide)) (r _ (by decide)) (fun j => r _ (by omega)), h2, h3, fun k hk => ?_, fun n hn => ?_⟩
    · by_cases w : k = (a 87 9).toNatClampNeg
      · rw [w, xu_s]
        exact ⟨⟨by omega, by omega⟩, fun q => by have := h3.2.2.1.2; omega⟩
      · rw [xu_o (fun z => w z.2)]
        exact h4 k hk
    · have g := h5 n hn
      by_cases w : ((a 130 n).toInt / (a 87 3).toInt).toNat = (a 87 9).toNatClampNeg
      · rw [w] at g ⊢
        rw [xu_s]
        exact ⟨g.1, by omega⟩
      · rw [xu_o (fun z => w z.2)]
        exact g
theorem FS (h : ¬ (a 87 3).toInt < p) (h1 : rR1 a p = b0) (h2 : rR2 b0 p = b) (hf : qFI b p v.toInt) : rRs a p = b ∧ qEq v.toInt (rRp a p) ∧ (v.toInt < 0 ∨ rFi b p) := by
  have g := Rs_g h h1 h2
  refine ⟨g.1, ?_, ?_⟩
  · rcases hf with w | w
    · show v.toInt = rRp a p
      rw [g.2.2 w.2]
      exact w.1
    · show v.toInt = rRp a p
      rw [g.2.1 w.1]
      exact w.2.2
  · rcases hf with w | w
    · exact Or.inl (by omega)
    · exact Or.inr w.1
theorem FI_no (hf : qFI a p v.toInt) (h : v.toInt < 0) : ¬ rFi a p := hf.elim (fun w => w.2) (fun w => absurd w.2.1 (by omega))
theorem FI_ye (hf : qFI a p v.toInt) (h : 0 ≤ v.toInt) : rFi a p := hf.elim (fun w => absurd w.1 (by omega)) (fun w => w.1)
theorem RB_ft (h : qRB us nr kr kd ws at₉ ho wd wi ow rt wk wl wm nu ro 0 0 0 1 a) : qRB us nr kr kd ws at₉ ho wd wi ow rt wk wl wm nu ro 0 0 0 1 (rFt a z v) := RB_c9 h (fun c h2 _ => rFt_r h2)
/-! rows 87 behind a cleaning -/
theorem Mf_87 {c : Nat} (h1 : c ≠ 71) (h2 : c ≠ 130) (h3 : c ≠ 92) : ∀ (f : Nat) (a : Nat → Nat → Int32) (p t : Int), (rMf e f a p t).1 c k = a c k := by
  intro f
  induction f with
  | zero => intro a p t; rfl
  | succ f ih =>
    intro a p t
    by_cases c : p < e
    · by_cases d : (zOb a p).toInt < 0
      · rw [rMf_fr c d]
        exact ih _ _ _
      · by_cases w : rTo a t (a 128 (zOb a p).toNatClampNeg).toInt = -1
        · rw [rMf_no c (by omega) w]
        · rw [rMf_go c (by omega) w, ih, M1_r h1 h2 h3]
    · rw [rMf_e c]
theorem Of_r9 {c : Nat} (h1 : c ≠ 71) (h2 : c ≠ 130) (h3 : c ≠ 92) (h4 : c ≠ 93) : ∀ (f : Nat) (a : Nat → Nat → Int32) (t : Int), (rOf f a t).1 c k = a c k := by
  intro f
  induction f with
  | zero => intro a t; rfl
  | succ f ih =>
    intro a t
    by_cases z : rFw a = -1
    · rw [Of_e z]
    · cases ok : (rM2 a (rFw a) t).2.2 with
      | false =>
        rw [Of_n rfl z ok]
        exact Mf_87 h1 h2 h3 _ _ _ _
      | true =>
        rw [Of_y rfl z ok, ih, xu_o (fun w => h3 w.1), xu_o (fun w => h4 w.1)]
        exact Mf_87 h1 h2 h3 _ _ _ _
theorem rCl_r {c : Nat} (h1 : c ≠ 71) (h2 : c ≠ 130) (h3 : c ≠ 92) (h4 : c ≠ 93) (h5 : ¬ (c = 87 ∧ k = 9)) : rCl a c k = aSw a c k := by
  unfold rCl rC0
  rw [xu_o h5, Of_r9 h1 h2 h3 h4, B0_o h3 h4]
theorem rCl_87 (h : k ≠ 9) : rCl a 87 k = a 87 k := (rCl_r (by decide) (by decide) (by decide) (by decide) (fun w => h w.2)).trans sw_87
theorem rR1_87 (h : k ≠ 9) : rR1 a p 87 k = a 87 k := by
  unfold rR1
  split
  · rfl
  · split
    · exact rCl_87 h
    · rfl
theorem rR2_87 (h : k ≠ 9) : rR2 a p 87 k = a 87 k := by
  unfold rR2
  split
  · rfl
  · split
    · exact xu_o (fun w => h w.2)
    · rfl
theorem rRs_87 (h : k ≠ 9) : rRs a p 87 k = a 87 k := by
  unfold rRs
  split
  · rfl
  · rw [rR2_87 h, rR1_87 h]
theorem Gt_7 (h : k ≠ 9) : rGt a z v 87 k = a 87 k := by
  unfold rGt
  rw [rFt_r (by decide)]
  exact rRs_87 h
theorem rGt_n (h : v.toInt < 0) : rGt a z v = rRs a z.toInt := rFt_n h
theorem Rp_v (h : qEq v.toInt (rRp a z.toInt)) (h0 : 0 ≤ v.toInt) : rFi (rRs a z.toInt) z.toInt ∧ v.toInt = (rRs a z.toInt 87 9).toInt * (rRs a z.toInt 87 3).toInt + (rRs a z.toInt 92 (rRs a z.toInt 87 9).toNatClampNeg).toInt := by
  have q := qE h
  unfold rRp at q
  by_cases w : (a 87 3).toInt < z.toInt
  · rw [if_pos w] at q
    omega
  · rw [if_neg w] at q
    by_cases w2 : (rRs a z.toInt 92 (rRs a z.toInt 87 9).toNatClampNeg).toInt + z.toInt ≤ (rRs a z.toInt 87 3).toInt
    · rw [if_pos w2] at q
      exact ⟨w2, q⟩
    · rw [if_neg w2] at q
      omega
theorem Rv_gt (hv : qRv (rRs a z.toInt)) (h : qEq v.toInt (rRp a z.toInt)) (hz : 1 ≤ z.toInt) : qRv (rGt a z v) := Rv_ft hv (by
  by_cases w : v.toInt < 0
  · exact Or.inl w
  · exact Or.inr (Rp_v h (by omega)).1) hz
theorem Ne_r (hv : qRv (rRs aa (w + 1).toInt)) (hR : qEq pl.toInt (rRp aa (w + 1).toInt)) (h0 : 0 ≤ pl.toInt) (hw : 0 ≤ w.toInt) (hw6 : w.toInt ≤ 60) (hy : rGt aa (w + 1) pl 69 6 = y) (hy5 : y.toInt < 512) : qNe (rGt aa (w + 1) pl) y w pl := by
  have e1 := i_p1 (i := w) (by omega)
  have f := Rp_v hR h0
  have g := (Rv_gt (v := pl) hv hR (by omega)).1
  refine ⟨g, hy.symm, hy5, ⟨hw, hw6⟩, h0, ?_, fun x hx => ?_⟩
  · unfold rGt
    rw [rFt_r (by decide)]
    have bd := Rp_bd hv (by omega) f.1
    obtain ⟨_, _, h3, h4, _⟩ := hv
    have m := ml_le (q := (rRs aa (w + 1).toInt 87 9).toInt) (t := (rRs aa (w + 1).toInt 87 4).toInt) (s := (rRs aa (w + 1).toInt 87 3).toInt) h3.2.2.1.2 (by have := h3.1; omega)
    have fi := f.1
    unfold rFi at fi
    have := h3.2.2.2.2.1
    omega
  · unfold rGt at hx ⊢
    unfold xAl at hx
    rw [rFt_r (by decide)] at hx
    rw [rFt_r (c := 130) (by decide), rFt_r (c := 128) (by decide)]
    have fi := f.1
    have pv := f.2
    obtain ⟨hI, _, h3, h4, h5⟩ := hv
    generalize rRs aa (w + 1).toInt = B at *
    have c5 := h5 x hx
    have i := (hI.1 x hx).1.2
    have db := dv_b (p := (B 130 x).toInt) (s := (B 87 3).toInt) (by have := h3.1; omega)
    have d0 : 0 ≤ (B 130 x).toInt / (B 87 3).toInt := Int.ediv_nonneg i (by have := h3.1; omega)
    have tx := (h4 ((B 130 x).toInt / (B 87 3).toInt).toNat (by have := h3.2.1; omega)).1
    unfold rFi at fi
    have tc := tn_cast h3.2.2.1.1
    have tq := (h4 (B 87 9).toNatClampNeg (by have := h3.2.1; have := h3.2.2.1; omega)).1
    by_cases z1 : (B 130 x).toInt / (B 87 3).toInt = (B 87 9).toInt
    · rw [z1, show (B 87 9).toInt.toNat = (B 87 9).toNatClampNeg from by omega] at c5
      exact Or.inl (by omega)
    · by_cases z2 : (B 130 x).toInt / (B 87 3).toInt < (B 87 9).toInt
      · have m := ml_le (s := (B 87 3).toInt) z2 (by have := h3.1; omega)
        exact Or.inl (by omega)
      · have m := ml_le (q := (B 87 9).toInt) (t := (B 130 x).toInt / (B 87 3).toInt) (s := (B 87 3).toInt) (by omega) (by have := h3.1; omega)
        exact Or.inr (by omega)
theorem Ad_92 : aAd (ma_u b 92 k x) y F L = ma_u (aAd b y F L) 92 k x := by
  funext c₉ k₉
  by_cases w : c₉ = 92
  · rw [w, ad_9 (by decide)]
    show (if (92 : Nat) = 92 ∧ k₉ = k then x else b 92 k₉) = (if (92 : Nat) = 92 ∧ k₉ = k then x else aAd b y F L 92 k₉)
    rw [ad_9 (by decide)]
  · rw [xu_o (fun z => w z.1)]
    by_cases h : c₉ < 82 ∨ 93 < c₉
    · exact o9_ad (a := ma_u b 92 k x) (b := b) (fun c2 k2 h2 => xu_o (fun z => by omega)) c₉ k₉ h
    · rw [ad_9 (by omega), ad_9 (by omega), xu_o (fun z => w z.1)]
theorem rMk_2b {kd wd rt : Int32} (hv : qRv (rRs a (wd + 1).toInt)) (h : (a 69 6).toInt < 512) (h1 : pl.toInt = rRp a (wd + 1).toInt) (h2 : 0 ≤ pl.toInt) (hw : 0 ≤ wd.toInt) (hw6 : wd.toInt ≤ 60) (hp5 : pl.toInt ≤ 4500) (hy0 : 0 ≤ y.toInt) (hy : y = rGt a (wd + 1) pl 69 6) (h8 : rGt a (wd + 1) pl 87 8 = 0) : rMk a kd wd L rt = aRt (aAd (rGt a (wd + 1) pl) y (zFn y kd (wd + 1) pl) L) rt y ∧ rMn a wd = y := by
  have A := Ad_of (b := rRs a (wd + 1).toInt) (y := y) (kk := kd) (w := wd) (pl := pl) (L := L) hy0 hw hw6 h2 hp5
  rw [← r0_rt (ad_87.trans h8)]
  unfold rGt at hy h8 ⊢
  rw [rFt_r (by decide)] at hy h8
  rw [rFt_y h2]
  have e := rMk_2 (a := a) (kd := kd) (wd := wd) (rt := rt) (L := L) (pl := pl) h rfl h1 (by omega) hy
  rw [e.1, Ad_92]
  refine ⟨?_, e.2⟩
  have m1 := A.1.2.1
  rw [aMd_n (ad_87.trans h8), xu_o (by omega)] at m1
  have h3 := hv.2.2.1
  unfold rMd
  rw [ad_87, ad_9 (by decide), m1, if_pos ⟨h3.2.2.1.1, by have := h3.2.1; have := h3.2.2.1; omega⟩]
theorem Rv_cg (h : qRv a) (e1 : b 126 = a 126) (e2 : b 128 = a 128) (e3 : b 130 = a 130) (e9 : b 92 = a 92) (e7 : b 87 = a 87) (hI : qI b) : qRv b := by
  obtain ⟨_, h2, h3, h4, h5⟩ := h
  unfold qRv xAl at *
  rw [e1, e2, e3, e7, e9]
  exact ⟨hI, h2, h3, h4, h5⟩
/-- a new one is there -/
theorem Rv_new {rt : Int32} (hv : qRv (rRs aa (w + 1).toInt)) (h : qNe (rGt aa (w + 1) pl) y w pl) (hR : qEq pl.toInt (rRp aa (w + 1).toInt)) (h0 : 0 ≤ pl.toInt) (h8 : rGt aa (w + 1) pl 87 8 = 0) : qRv (aRt (aAd (rGt aa (w + 1) pl) y (zFn y kk (w + 1) pl) L) rt y) := by
  have q := Ne_b h
  have f := Rp_v hR h0
  have hw := h.2.2.2.1
  have g := Rv_gt (v := pl) hv hR (by omega)
  have A := Ad_of (b := rGt aa (w + 1) pl) (y := y) (kk := kk) (w := w) (pl := pl) (L := L) q.1 hw.1 hw.2 h0 (by omega)
  have I := I_ad h A
  have e := hd_0 (b := rGt aa (w + 1) pl) (y := y) (F := zFn y kk (w + 1) pl) (L := L) g.2.1 h8
  have I2 : qI (aAd (rGt aa (w + 1) pl) y (zFn y kk (w + 1) pl) L) := by
    rw [← e]
    exact I_872 I (by decide) I.2.2.2.1.2.2.1.1 (Gd_0 I)
  have ro : ∀ c, c ≠ 87 → aAd (rGt aa (w + 1) pl) y (zFn y kk (w + 1) pl) L c = aMd (aAd (rGt aa (w + 1) pl) y (zFn y kk (w + 1) pl) L) y c := fun c hc => by
    rw [aMd_n (ad_87.trans h8), ma_u_ne _ _ _ hc]
  have al : ∀ x, xAl (aAd (rGt aa (w + 1) pl) y (zFn y kk (w + 1) pl) L) x ↔ xAl (rGt aa (w + 1) pl) x ∨ x = y.toNatClampNeg := fun x => by
    unfold xAl
    rw [ro 126 (by decide)]
    exact Al_ad h A
  have e7 : aAd (rGt aa (w + 1) pl) y (zFn y kk (w + 1) pl) L 87 = rGt aa (w + 1) pl 87 := funext (fun _ => ad_87)
  have e9 : aAd (rGt aa (w + 1) pl) y (zFn y kk (w + 1) pl) L 92 = rGt aa (w + 1) pl 92 := funext (fun _ => ad_9 (by decide))
  have pl2 : pl.toInt / (rGt aa (w + 1) pl 87 3).toInt = (rGt aa (w + 1) pl 87 9).toInt ∧ pl.toInt + (w.toInt + 1) ≤ (rGt aa (w + 1) pl 87 9).toInt * (rGt aa (w + 1) pl 87 3).toInt + (rGt aa (w + 1) pl 92 (rGt aa (w + 1) pl 87 9).toNatClampNeg).toInt := by
    unfold rGt
    rw [rFt_r (c := 87) (by decide), rFt_y h0, xu_s]
    have fi := f.1
    have pv := f.2
    unfold rFi at fi
    obtain ⟨_, _, h3, h4, _⟩ := hv
    generalize rRs aa (w + 1).toInt = B at *
    have tc := tn_cast h3.2.2.1.1
    have tq := (h4 (B 87 9).toNatClampNeg (by have := h3.2.1; have := h3.2.2.1; omega)).1
    have e1 := q.2.2.2.2.2.1
    have s : (B 92 (B 87 9).toNatClampNeg + (w + 1)).toInt = (B 92 (B 87 9).toNatClampNeg).toInt + (w + 1).toInt := i_add (by omega) (by have := h3.1; omega)
    rw [s]
    refine ⟨?_, by omega⟩
    rw [pv]
    exact dv_e (by have := h3.1; omega) (by omega) (by omega)
  obtain ⟨g1, g2, g3, g4, g5⟩ := g
  have H : qRv (aAd (rGt aa (w + 1) pl) y (zFn y kk (w + 1) pl) L) := by
    refine ⟨I2, by rw [e7]; exact g2, by rw [e7]; exact g3, by rw [e7, e9]; exact g4, fun n hn => ?_⟩
    rw [e7, e9, ro 130 (by decide), ro 128 (by decide)]
    rcases (al n).mp hn with z | z
    · have o := ne_al h z
      rw [A.2.1 130 n (by decide) (by decide) o, A.2.1 128 n (by decide) (by decide) o]
      exact g5 n z
    · rw [z, A.1.2.2.1, A.1.2.1, q.2.2.2.2.2.1, pl2.1]
      have tc := tn_cast g3.2.2.1.1
      rw [show (rGt aa (w + 1) pl 87 9).toInt.toNat = (rGt aa (w + 1) pl 87 9).toNatClampNeg from by omega]
      exact ⟨g3.2.2.1.2, pl2.2⟩
  have rr : ∀ c, c ≠ 72 → c ≠ 75 → c ≠ 76 → c ≠ 77 → aRt (aAd (rGt aa (w + 1) pl) y (zFn y kk (w + 1) pl) L) rt y c = aAd (rGt aa (w + 1) pl) y (zFn y kk (w + 1) pl) L c := fun c h1 h2 h3 h4 => rt_r h1 h2 h3 h4
  exact Rv_cg H (rr 126 (by decide) (by decide) (by decide) (by decide)) (rr 128 (by decide) (by decide) (by decide) (by decide)) (rr 130 (by decide) (by decide) (by decide) (by decide)) (rr 92 (by decide) (by decide) (by decide) (by decide)) (rr 87 (by decide) (by decide) (by decide) (by decide)) (I_cg I2 (rr 126 (by decide) (by decide) (by decide) (by decide)) (rr 128 (by decide) (by decide) (by decide) (by decide)) (rr 130 (by decide) (by decide) (by decide) (by decide)) (rr 71 (by decide) (by decide) (by decide) (by decide)) (rr 69 (by decide) (by decide) (by decide) (by decide)) (rr 87 (by decide) (by decide) (by decide) (by decide)) (fun n => rr (1000 + n) (by omega) (by omega) (by omega) (by omega)))
theorem RL_cg (h : qRL a si rg sh pr tp) (e7 : b 87 = a 87) (e9 : b 92 = a 92) : qRL b si rg sh pr tp := by
  unfold qRL
  rw [e7, e9]
  exact h
theorem RL_new {rt : Int32} (h : qRL a si rg sh pr tp) : qRL (aRt (aAd a y F L) rt y) si rg sh pr tp := RL_cg h ((rt_r (by decide) (by decide) (by decide) (by decide)).trans (funext (fun _ => ad_87))) ((rt_r (by decide) (by decide) (by decide) (by decide)).trans (funext (fun _ => ad_9 (by decide))))
end F19
theorem sp_232rz {X : Nat × (Nat → Int32)} {P : Option ma_V → (Nat → Nat → Int32) → Prop} {aa : Nat→Nat→Int32} {m : Nat → Nat → Int32} (nw : Int32) (hV : zV m) (hpre0 : 1 ≤ nw.toInt) (hpre1 : nw.toInt ≤ 61) (r_RV : qRv aa) (r_RL : qRL aa (m 94 18) (m 94 64) (m 94 19) (m 94 63) (m 116)) (KZ : ∀ v m₉, zV (zov wr_232 m m₉) → (qRL (rFt aa nw v) (m 94 18) (m 94 64) (m 94 19) (m 94 63) (m₉ 116)) → (qFI aa nw.toInt v.toInt) → (-1 ≤ v.toInt ∧ v.toInt ≤ 1500) → P (some (.inl v)) (zov wr_232 m m₉)) : zm X 0 0 232 0 [(0, .inr (.inr (some 94))), (1, .inl nw)] m P := by
  have K : ∀ v m₉, zF wr_232 m m₉ → zV m₉ → (qRL (rFt aa nw v) (m₉ 94 18) (m₉ 94 64) (m₉ 94 19) (m₉ 94 63) (m₉ 116)) → (qFI aa nw.toInt v.toInt) → (-1 ≤ v.toInt ∧ v.toInt ≤ 1500) → P (some (.inl v)) m₉ := by
    intro v m₉ hf z q0 q1 q2
    have e := zov_eq hf
    rw [e] at z ⊢
    try rw [e] at q0
    try rw [e] at q1
    try rw [e] at q2
    exact KZ v m₉ z q0 q1 q2
  refine g_232_0 nw ?_
  have f1 : 0 ≤ (m 94 63).toInt ∧ (m 94 63).toInt ≤ 127 := rs_94_63 (m := m) hV
  try have rlb := RL_b r_RL r_RV
  try have rlt := RL_top r_RL r_RV
  try have rlk := RL_take r_RL r_RV
  have hg2 : (0 ≤ (m 94 63) ∧ (m 94 63).toNatClampNeg < 128) := i_ix (by omega) (by omega)
  refine ⟨hg2, ?_⟩
  first | have f3 : 0 ≤ (m 116 (m 94 63).toNatClampNeg).toInt ∧ (m 116 (m 94 63).toNatClampNeg).toInt ≤ 4600 := ra_116 (m := m) hV (k := (m 94 63).toNatClampNeg) (i_ix (n := 128) (by omega) (by omega)).2 | have b4 := i_bd (m 116 (m 94 63).toNatClampNeg)
  have b5 := i_bd nw
  first | have e6 : ((m 116 (m 94 63).toNatClampNeg) + nw).toInt = (m 116 (m 94 63).toNatClampNeg).toInt + nw.toInt := i_add (by omega) (by omega) | have b7 := i_bd ((m 116 (m 94 63).toNatClampNeg) + nw)
  have f8 : 0 ≤ (m 94 18).toInt ∧ (m 94 18).toInt ≤ 256 := rs_94_18 (m := m) hV
  refine zd (fun (h9 : ((m 116 (m 94 63).toNatClampNeg) + nw) ≤ (m 94 18)) => ?_) (fun (h9 : ¬ ((m 116 (m 94 63).toNatClampNeg) + nw) ≤ (m 94 18)) => ?_)
  · skip
    have g10 := i_le h9
    try have rlb := RL_b r_RL r_RV
    try have rlt := RL_top r_RL r_RV
    try have rlk := RL_take r_RL r_RV
    have hg11 : (0 ≤ (m 94 63) ∧ (m 94 63).toNatClampNeg < 128) := i_ix (by omega) (by omega)
    refine ⟨hg11, ?_⟩
    try have rlb := RL_b r_RL r_RV
    try have rlt := RL_top r_RL r_RV
    try have rlk := RL_take r_RL r_RV
    have hg12 : (0 ≤ (m 94 63) ∧ (m 94 63).toNatClampNeg < 128) := i_ix (by omega) (by omega)
    refine ⟨hg12, ?_⟩
    try have rlb := RL_b r_RL r_RV
    try have rlt := RL_top r_RL r_RV
    try have rlk := RL_take r_RL r_RV
    have hg13 : (0 ≤ (m 94 63) ∧ (m 94 63).toNatClampNeg < 128) := i_ix (by omega) (by omega)
    refine ⟨hg13, ?_⟩
    try have rlb := RL_b r_RL r_RV
    try have rlt := RL_top r_RL r_RV
    try have rlk := RL_take r_RL r_RV
    have hV14 : zV (ma_u m 116 (m 94 63).toNatClampNeg ((m 116 (m 94 63).toNatClampNeg) + nw)) := ua_116 hV (by omega) (by omega)
    first | have f15 := i_muln (x := (m 94 63)) (y := (m 94 18)) (by omega) (by omega) (by omega) (by omega) | have b16 := i_bd ((m 94 63) * (m 94 18))
    first | have e17 : (((m 94 63) * (m 94 18)) + (m 116 (m 94 63).toNatClampNeg)).toInt = ((m 94 63) * (m 94 18)).toInt + (m 116 (m 94 63).toNatClampNeg).toInt := i_add (by omega) (by omega) | have b18 := i_bd (((m 94 63) * (m 94 18)) + (m 116 (m 94 63).toNatClampNeg))
    exact K ((((m 94 63) * (m 94 18)) + (m 116 (m 94 63).toNatClampNeg))) _ (zF_u zF_rfl rfl) hV14 (show qRL (rFt aa nw (((m 94 63) * (m 94 18)) + (m 116 (m 94 63).toNatClampNeg))) (m 94 18) (m 94 64) (m 94 19) (m 94 63) ((ma_u m 116 (m 94 63).toNatClampNeg ((m 116 (m 94 63).toNatClampNeg) + nw)) 116) from by first | (rw [rFt_n (by decide)]; exact r_RL; done) | (have mm := (i_muln (x := m 94 63) (y := m 94 18) (by omega) (by omega) (by omega) (by omega)).2.2; exact RL_fy r_RL r_RV (by rw [i_add (by omega) (by omega)]; omega) (fun r => mu_at r); done) | (exact r_RL) | (exfalso; omega; done) | (exfalso; contradiction; done)) (show qFI aa nw.toInt (((m 94 63) * (m 94 18)) + (m 116 (m 94 63).toNatClampNeg)).toInt from by first | (exact FI_n r_RL r_RV (by omega)) | (have mm := (i_muln (x := m 94 63) (y := m 94 18) (by omega) (by omega) (by omega) (by omega)).2.2; exact FI_y r_RL r_RV (by omega) (by rw [i_add (by omega) (by omega), mm]); done) | (exfalso; omega; done) | (exfalso; contradiction; done)) (show -1 ≤ (((m 94 63) * (m 94 18)) + (m 116 (m 94 63).toNatClampNeg)).toInt ∧ (((m 94 63) * (m 94 18)) + (m 116 (m 94 63).toNatClampNeg)).toInt ≤ 1500 from by omega)
  · skip
    have g19 := i_nle h9
    try have rlb := RL_b r_RL r_RV
    try have rlt := RL_top r_RL r_RV
    try have rlk := RL_take r_RL r_RV
    have li20 : (-1 : Int32).toInt = -1 := rfl
    exact K ((-1 : Int32)) _ zF_rfl hV (show qRL (rFt aa nw (-1 : Int32)) (m 94 18) (m 94 64) (m 94 19) (m 94 63) (m 116) from by first | (rw [rFt_n (by decide)]; exact r_RL; done) | (have mm := (i_muln (x := m 94 63) (y := m 94 18) (by omega) (by omega) (by omega) (by omega)).2.2; exact RL_fy r_RL r_RV (by rw [i_add (by omega) (by omega)]; omega) (fun r => mu_at r); done) | (exact r_RL) | (exfalso; omega; done) | (exfalso; contradiction; done)) (show qFI aa nw.toInt (-1 : Int32).toInt from by first | (exact FI_n r_RL r_RV (by omega)) | (have mm := (i_muln (x := m 94 63) (y := m 94 18) (by omega) (by omega) (by omega) (by omega)).2.2; exact FI_y r_RL r_RV (by omega) (by rw [i_add (by omega) (by omega), mm]); done) | (exfalso; omega; done) | (exfalso; contradiction; done)) (show -1 ≤ (-1 : Int32).toInt ∧ (-1 : Int32).toInt ≤ 1500 from by omega)

/-! from 95.t06 -/
/-! REGIONS, the reference (written by wip/tools/gen15t.py) -/
set_option maxHeartbeats 8000000 in
theorem sp_231rz {X : Nat × (Nat → Int32)} {P : Option ma_V → (Nat → Nat → Int32) → Prop} {T : Nat} {aa : Nat→Nat→Int32} {ro : Int32} {m : Nat → Nat → Int32} (nw : Int32) (hV : zV m) (hpre0 : 1 ≤ nw.toInt) (hpre1 : nw.toInt ≤ 61) (hpre2 : T ≤ 512) (r_W : zW (m 94 7) (m 98) (m 101) (m 102) (m 108)) (r_GW : zGW T (m 94 55) (m 109)) (r_GU : zGU T (m 94 46) (m 99)) (r_OW : zOw (m 99) (m 103) (m 111)) (hpre7 : (m 94 10).toInt = 6 ∧ (m 94 58).toInt = 0) (r_RB : qRB (m 99) (m 100) (m 98) (m 101) (m 102) (m 103) (m 107) (m 108) (m 109) (m 111) (m 112) (m 113) (m 114) (m 94 55) (m 94 46) ro 0 0 0 1 aa) (r_RV : qRv aa) (r_RL : qRL aa (m 94 18) (m 94 64) (m 94 19) (m 94 63) (m 116)) (r_WTS : (m 94 45).toInt = sm (zbU (m 99)) (m 102) 3100) (KZ : ∀ v m₉, zV (zov wr_231 m m₉) → (zGW T (m₉ 94 55) (m₉ 109)) → (zGU T (m 94 46) (m₉ 99)) → (zOw (m₉ 99) (m₉ 103) (m₉ 111)) → (-1 ≤ v.toInt ∧ v.toInt ≤ 1500) → (qRB (m₉ 99) (m 100) (m 98) (m 101) (m 102) (m₉ 103) (m 107) (m 108) (m₉ 109) (m₉ 111) (m 112) (m₉ 113) (m₉ 114) (m₉ 94 55) (m 94 46) ro 0 0 0 1 (rGt aa nw v)) → (qRv (rGt aa nw v)) → (qRL (rGt aa nw v) (m 94 18) (m 94 64) (m 94 19) (m₉ 94 63) (m₉ 116)) → (qEq v.toInt (rRp aa nw.toInt)) → (qRv (rRs aa nw.toInt)) → ((m₉ 94 45).toInt = sm (zbU (m₉ 99)) (m 102) 3100) → P (some (.inl v)) (zov wr_231 m m₉)) : zm X 6 137 231 0 [(0, .inr (.inr (some 94))), (1, .inl nw)] m P := by
  have K : ∀ v m₉, zF wr_231 m m₉ → zV m₉ → (zGW T (m₉ 94 55) (m₉ 109)) → (zGU T (m₉ 94 46) (m₉ 99)) → (zOw (m₉ 99) (m₉ 103) (m₉ 111)) → (-1 ≤ v.toInt ∧ v.toInt ≤ 1500) → (qRB (m₉ 99) (m₉ 100) (m₉ 98) (m₉ 101) (m₉ 102) (m₉ 103) (m₉ 107) (m₉ 108) (m₉ 109) (m₉ 111) (m₉ 112) (m₉ 113) (m₉ 114) (m₉ 94 55) (m₉ 94 46) ro 0 0 0 1 (rGt aa nw v)) → (qRv (rGt aa nw v)) → (qRL (rGt aa nw v) (m₉ 94 18) (m₉ 94 64) (m₉ 94 19) (m₉ 94 63) (m₉ 116)) → (qEq v.toInt (rRp aa nw.toInt)) → (qRv (rRs aa nw.toInt)) → ((m₉ 94 45).toInt = sm (zbU (m₉ 99)) (m₉ 102) 3100) → P (some (.inl v)) m₉ := by
    intro v m₉ hf z q0 q1 q2 q3 q4 q5 q6 q7 q8 q9
    have e := zov_eq hf
    rw [e] at z ⊢
    try rw [e] at q0
    try rw [e] at q1
    try rw [e] at q2
    try rw [e] at q3
    try rw [e] at q4
    try rw [e] at q5
    try rw [e] at q6
    try rw [e] at q7
    try rw [e] at q8
    try rw [e] at q9
    exact KZ v m₉ z q0 q1 q2 q3 q4 q5 q6 q7 q8 q9
  refine g_231_0 nw ?_
  have f1 : 0 ≤ (m 94 10).toInt ∧ (m 94 10).toInt ≤ 6 := rs_94_10 (m := m) hV
  have f2 : 0 ≤ (m 94 58).toInt ∧ (m 94 58).toInt ≤ 1 := rs_94_58 (m := m) hV
  have b3 := i_bd nw
  have f4 : 0 ≤ (m 94 18).toInt ∧ (m 94 18).toInt ≤ 256 := rs_94_18 (m := m) hV
  refine zd (fun (h5 : nw ≤ (m 94 18)) => ?_) (fun (h5 : ¬ nw ≤ (m 94 18)) => ?_)
  · skip
    have g6 := i_le h5
    try have rlb := RL_b r_RL r_RV
    refine sp_232rz (aa := aa) (nw) hV (by omega) (by omega) r_RV r_RL (fun v2 m1 hV_m1 p0_m1 p1_m1 p2_m1 => zmi_n ?_)
    have p0_m1 : qRL (rFt aa nw v2) (m 94 18) (m 94 64) (m 94 19) (m 94 63) (m1 116) := p0_m1
    have p1_m1 : qFI aa nw.toInt v2.toInt := p1_m1
    have p2_m1 : -1 ≤ v2.toInt ∧ v2.toInt ≤ 1500 := p2_m1
    have b7 := i_bd v2
    have li8 : (0 : Int32).toInt = 0 := rfl
    refine zd (fun (h9 : v2 < (0 : Int32)) => ?_) (fun (h9 : ¬ v2 < (0 : Int32)) => ?_)
    · skip
      have g10 := i_lt h9
      try have rlb := RL_b r_RL r_RV
      refine sp_233rz (aa := aa)  hV_m1 r_RV (show qRL aa (m 94 18) (m 94 64) (m 94 19) (m 94 63) (m1 116) from by first | (exact (show qRL aa _ _ _ _ _ from by have q := p0_m1; rw [rFt_n (by omega)] at q; exact q)) | (exact p0_m1) | (exfalso; omega; done) | (exfalso; contradiction; done)) (fun v4 m3 hV_m3 p0_m3 p1_m3 => zmi_n ?_)
      have p0_m3 : v4.toInt ≤ 0 ∨ ∃ r : Nat, (r : Int) < (m 94 64).toInt ∧ (m1 116) r = 0 := p0_m3
      have p1_m3 : qEq v4.toInt (rEf aa 93) := p1_m3
      have b11 := i_bd v4
      have li12 : (2 : Int32).toInt = 2 := rfl
      refine zd (fun (h13 : v4 < (2 : Int32)) => ?_) (fun (h13 : ¬ v4 < (2 : Int32)) => ?_)
      · skip
        have g14 := i_lt h13
        try have rlb := RL_b r_RL r_RV
        refine sp_235rz (aa := aa)  hV_m3 (by omega) r_W r_GW r_GU r_OW (show (m 94 10).toInt = 6 ∧ (m 94 58).toInt = 0 from by omega) r_RB r_RV (show qRL aa (m 94 18) (m 94 64) (m 94 19) (m 94 63) (m1 116) from by first | (exact (show qRL aa _ _ _ _ _ from by have q := p0_m1; rw [rFt_n (by omega)] at q; exact q)) | (exact p0_m1) | (exfalso; omega; done) | (exfalso; contradiction; done)) (show zRG1 (m 94 18) (m 94 64) (m 94 63) (m 99) (m 103) (m 102) (m1 116) from by first | (exact RG_of r_RB r_RV (show qRL aa _ _ _ _ _ from by have q := p0_m1; rw [rFt_n (by omega)] at q; exact q)) | (exfalso; omega; done) | (exfalso; contradiction; done)) r_WTS (fun v6 m5 hV_m5 p0_m5 p1_m5 p2_m5 p3_m5 p4_m5 p5_m5 p6_m5 p7_m5 => zmi_n ?_)
        have p0_m5 : zGW T (m5 94 55) (m5 109) := p0_m5
        have p1_m5 : zGU T (m 94 46) (m5 99) := p1_m5
        have p2_m5 : zOw (m5 99) (m5 103) (m5 111) := p2_m5
        have p3_m5 : zRG1 (m 94 18) (m 94 64) (m5 94 63) (m5 99) (m5 103) (m 102) (m5 116) := p3_m5
        have p4_m5 : qRB (m5 99) (m 100) (m 98) (m 101) (m 102) (m5 103) (m 107) (m 108) (m5 109) (m5 111) (m 112) (m5 113) (m5 114) (m5 94 55) (m 94 46) ro 0 0 0 1 (rCl aa) := p4_m5
        have p5_m5 : qRv (rCl aa) := p5_m5
        have p6_m5 : qRL (rCl aa) (m 94 18) (m 94 64) (m 94 19) (m5 94 63) (m5 116) := p6_m5
        have p7_m5 : (m5 94 45).toInt = sm (zbU (m5 99)) (m 102) 3100 := p7_m5
        try have rlb := RL_b r_RL r_RV
        refine sp_232rz (aa := (rCl aa)) (nw) hV_m5 (by omega) (by omega) p5_m5 p6_m5 (fun v8 m7 hV_m7 p0_m7 p1_m7 p2_m7 => zmi_n ?_)
        have p0_m7 : qRL (rFt (rCl aa) nw v8) (m 94 18) (m 94 64) (m 94 19) (m5 94 63) (m7 116) := p0_m7
        have p1_m7 : qFI (rCl aa) nw.toInt v8.toInt := p1_m7
        have p2_m7 : -1 ≤ v8.toInt ∧ v8.toInt ≤ 1500 := p2_m7
        have b15 := i_bd v8
        refine zd (fun (h16 : v8 < (0 : Int32)) => ?_) (fun (h16 : ¬ v8 < (0 : Int32)) => ?_)
        · skip
          have g17 := i_lt h16
          try have rlb := RL_b r_RL r_RV
          refine sp_234rz (aa := (rCl aa))  hV_m7 p5_m5 (show qRL (rCl aa) (m 94 18) (m 94 64) (m 94 19) (m5 94 63) (m7 116) from by first | (exact (show qRL (rCl aa) _ _ _ _ _ from by have q := p0_m7; rw [rFt_n (by omega)] at q; exact q)) | (exact p0_m7) | (exfalso; omega; done) | (exfalso; contradiction; done)) (fun v10 m9 hV_m9 p0_m9 p1_m9 => zmi_n ?_)
          have p0_m9 : zLE (m7 116) (m 94 64) v10 := p0_m9
          have p1_m9 : qEq v10.toInt (rLe (rCl aa)) := p1_m9
          try have rgb := rs_94_64 hV
          try have lel := LE_lo p0_m9
          try have lex := LE_ex p0_m9 (p0_m3.elim (fun z => by omega) id)
          try have lex3 := LE_ex p0_m9 (lexi (by omega))
          try have lexi := LE_some p0_m9
          try have lqq := qE p1_m9
          have b18 := i_bd v10
          refine zd (fun (h19 : (0 : Int32) ≤ v10) => ?_) (fun (h19 : ¬ (0 : Int32) ≤ v10) => ?_)
          · skip
            have g20 := i_le h19
            try have rlb := RL_b r_RL r_RV
            refine sp_234rz (aa := (rCl aa))  hV_m9 p5_m5 (show qRL (rCl aa) (m 94 18) (m 94 64) (m 94 19) (m5 94 63) (m7 116) from by first | (exact (show qRL (rCl aa) _ _ _ _ _ from by have q := p0_m7; rw [rFt_n (by omega)] at q; exact q)) | (exact p0_m7) | (exfalso; omega; done) | (exfalso; contradiction; done)) (fun v12 m11 hV_m11 p0_m11 p1_m11 => zmi_n ?_)
            have p0_m11 : zLE (m7 116) (m 94 64) v12 := p0_m11
            have p1_m11 : qEq v12.toInt (rLe (rCl aa)) := p1_m11
            try have rgb := rs_94_64 hV
            try have lel := LE_lo p0_m11
            try have lex := LE_ex p0_m11 (p0_m3.elim (fun z => by omega) id)
            try have lex3 := LE_ex p0_m11 (lexi (by omega))
            try have lexi := LE_some p0_m11
            try have lqq := qE p1_m11
            have b22 := i_bd v12
            have hV21 : zV (ma_u (zov wr_234 (zov wr_234 (zov wr_232 (zov wr_235 (zov wr_233 (zov wr_232 m m1) m3) m5) m7) m9) m11) 94 63 v12) := us_94_63 hV_m11 (by omega) (by omega)
            try have rlb := RL_b r_RL r_RV
            refine sp_232rz (aa := (ma_u (rCl aa) 87 9 v12)) (nw) hV21 (by omega) (by omega) (show qRv (ma_u (rCl aa) 87 9 v12) from by first | (have lq := qE p1_m11; have ly := Le_y (a := (rCl aa)) (by have := LE_lo p0_m11; omega); exact Rv_9 p5_m5 (by omega) (by omega); done) | (exact p5_m5) | (exfalso; omega; done) | (exfalso; contradiction; done)) (show qRL (ma_u (rCl aa) 87 9 v12) (m 94 18) (m 94 64) (m 94 19) v12 (m7 116) from by first | (exact RL_9 (show qRL (rCl aa) _ _ _ _ _ from by have q := p0_m7; rw [rFt_n (by omega)] at q; exact q)) | (exact p0_m7) | (exfalso; omega; done) | (exfalso; contradiction; done)) (fun v14 m13 hV_m13 p0_m13 p1_m13 p2_m13 => zmi_n ?_)
            have p0_m13 : qRL (rFt (ma_u (rCl aa) 87 9 v12) nw v14) (m 94 18) (m 94 64) (m 94 19) v12 (m13 116) := p0_m13
            have p1_m13 : qFI (ma_u (rCl aa) 87 9 v12) nw.toInt v14.toInt := p1_m13
            have p2_m13 : -1 ≤ v14.toInt ∧ v14.toInt ≤ 1500 := p2_m13
            try have rlb := RL_b r_RL r_RV
            have b23 := i_bd v14
            exact K (v14) _ (zF_zov (zF_u (zF_zov (zF_zov (zF_zov (zF_zov (zF_zov (zF_zov zF_rfl ws_232_231) ws_233_231) ws_235_231) ws_232_231) ws_234_231) ws_234_231) rfl) ws_232_231) hV_m13 p0_m5 p1_m5 p2_m5 (show -1 ≤ v14.toInt ∧ v14.toInt ≤ 1500 from by omega) (show qRB (m5 99) (m 100) (m 98) (m 101) (m 102) (m5 103) (m 107) (m 108) (m5 109) (m5 111) (m 112) (m5 113) (m5 114) (m5 94 55) (m 94 46) ro 0 0 0 1 (rGt aa nw v14) from by first | (have E := (FS (by rw [r_RL.1]; omega) (R1_c (FI_no p1_m1 (by omega)) (by have ef := qE p1_m3; omega)) (R2_l (FI_no p1_m7 (by omega)) (qE p1_m11) (by have := LE_lo p0_m11; omega)) p1_m13); unfold rGt; rw [E.1]; exact RB_ft (RB_87k p4_m5 (by decide) (by decide) (by decide) (by decide) (by decide)); done) | (exfalso; omega; done) | (exfalso; contradiction; done)) (show qRv (rGt aa nw v14) from by first | (have E := (FS (by rw [r_RL.1]; omega) (R1_c (FI_no p1_m1 (by omega)) (by have ef := qE p1_m3; omega)) (R2_l (FI_no p1_m7 (by omega)) (qE p1_m11) (by have := LE_lo p0_m11; omega)) p1_m13); unfold rGt; rw [E.1]; exact Rv_ft (Rv_9 p5_m5 (by have lq := qE p1_m11; have ly := Le_y (a := (rCl aa)) (by have := LE_lo p0_m11; omega); omega) (by have lq := qE p1_m11; have ly := Le_y (a := (rCl aa)) (by have := LE_lo p0_m11; omega); omega)) E.2.2 (by omega); done) | (exact p5_m5) | (exfalso; omega; done) | (exfalso; contradiction; done)) (show qRL (rGt aa nw v14) (m 94 18) (m 94 64) (m 94 19) v12 (m13 116) from by first | (have E := (FS (by rw [r_RL.1]; omega) (R1_c (FI_no p1_m1 (by omega)) (by have ef := qE p1_m3; omega)) (R2_l (FI_no p1_m7 (by omega)) (qE p1_m11) (by have := LE_lo p0_m11; omega)) p1_m13); unfold rGt; rw [E.1]; exact p0_m13; done) | (exact p0_m13) | (exfalso; omega; done) | (exfalso; contradiction; done)) (show qEq v14.toInt (rRp aa nw.toInt) from by first | (have E := (FS (by rw [r_RL.1]; omega) (R1_c (FI_no p1_m1 (by omega)) (by have ef := qE p1_m3; omega)) (R2_l (FI_no p1_m7 (by omega)) (qE p1_m11) (by have := LE_lo p0_m11; omega)) p1_m13); exact E.2.1; done) | (exfalso; omega; done) | (exfalso; contradiction; done)) (show qRv (rRs aa nw.toInt) from by first | (have E := (FS (by rw [r_RL.1]; omega) (R1_c (FI_no p1_m1 (by omega)) (by have ef := qE p1_m3; omega)) (R2_l (FI_no p1_m7 (by omega)) (qE p1_m11) (by have := LE_lo p0_m11; omega)) p1_m13); rw [E.1]; exact (Rv_9 p5_m5 (by have lq := qE p1_m11; have ly := Le_y (a := (rCl aa)) (by have := LE_lo p0_m11; omega); omega) (by have lq := qE p1_m11; have ly := Le_y (a := (rCl aa)) (by have := LE_lo p0_m11; omega); omega)); done) | (exfalso; omega; done) | (exfalso; contradiction; done)) p7_m5
          · skip
            have g24 := i_nle h19
            try have rlb := RL_b r_RL r_RV
            have li25 : (-1 : Int32).toInt = -1 := rfl
            exact K ((-1 : Int32)) _ (zF_zov (zF_zov (zF_zov (zF_zov (zF_zov zF_rfl ws_232_231) ws_233_231) ws_235_231) ws_232_231) ws_234_231) hV_m9 p0_m5 p1_m5 p2_m5 (show -1 ≤ (-1 : Int32).toInt ∧ (-1 : Int32).toInt ≤ 1500 from by omega) (show qRB (m5 99) (m 100) (m 98) (m 101) (m 102) (m5 103) (m 107) (m 108) (m5 109) (m5 111) (m 112) (m5 113) (m5 114) (m5 94 55) (m 94 46) ro 0 0 0 1 (rGt aa nw (-1 : Int32)) from by first | (have E := (FS (v := (-1 : Int32)) (by rw [r_RL.1]; omega) (R1_c (FI_no p1_m1 (by omega)) (by have ef := qE p1_m3; omega)) (R2_n (FI_no p1_m7 (by omega)) (by have lq := qE p1_m9; have := LE_lo p0_m9; omega)) (Or.inl ⟨rfl, FI_no p1_m7 (by omega)⟩)); unfold rGt; rw [E.1]; exact RB_ft p4_m5; done) | (exfalso; omega; done) | (exfalso; contradiction; done)) (show qRv (rGt aa nw (-1 : Int32)) from by first | (have E := (FS (v := (-1 : Int32)) (by rw [r_RL.1]; omega) (R1_c (FI_no p1_m1 (by omega)) (by have ef := qE p1_m3; omega)) (R2_n (FI_no p1_m7 (by omega)) (by have lq := qE p1_m9; have := LE_lo p0_m9; omega)) (Or.inl ⟨rfl, FI_no p1_m7 (by omega)⟩)); unfold rGt; rw [E.1]; exact Rv_ft p5_m5 E.2.2 (by omega); done) | (exact p5_m5) | (exfalso; omega; done) | (exfalso; contradiction; done)) (show qRL (rGt aa nw (-1 : Int32)) (m 94 18) (m 94 64) (m 94 19) (m5 94 63) (m7 116) from by first | (have E := (FS (v := (-1 : Int32)) (by rw [r_RL.1]; omega) (R1_c (FI_no p1_m1 (by omega)) (by have ef := qE p1_m3; omega)) (R2_n (FI_no p1_m7 (by omega)) (by have lq := qE p1_m9; have := LE_lo p0_m9; omega)) (Or.inl ⟨rfl, FI_no p1_m7 (by omega)⟩)); unfold rGt; rw [E.1, rFt_n (by decide)]; have q := p0_m7; rw [rFt_n (by omega)] at q; exact q; done) | (exact p0_m7) | (exfalso; omega; done) | (exfalso; contradiction; done)) (show qEq (-1 : Int32).toInt (rRp aa nw.toInt) from by first | (have E := (FS (v := (-1 : Int32)) (by rw [r_RL.1]; omega) (R1_c (FI_no p1_m1 (by omega)) (by have ef := qE p1_m3; omega)) (R2_n (FI_no p1_m7 (by omega)) (by have lq := qE p1_m9; have := LE_lo p0_m9; omega)) (Or.inl ⟨rfl, FI_no p1_m7 (by omega)⟩)); exact E.2.1; done) | (exfalso; omega; done) | (exfalso; contradiction; done)) (show qRv (rRs aa nw.toInt) from by first | (have E := (FS (v := (-1 : Int32)) (by rw [r_RL.1]; omega) (R1_c (FI_no p1_m1 (by omega)) (by have ef := qE p1_m3; omega)) (R2_n (FI_no p1_m7 (by omega)) (by have lq := qE p1_m9; have := LE_lo p0_m9; omega)) (Or.inl ⟨rfl, FI_no p1_m7 (by omega)⟩)); rw [E.1]; exact p5_m5; done) | (exfalso; omega; done) | (exfalso; contradiction; done)) p7_m5
        · skip
          have g26 := i_nlt h16
          try have rlb := RL_b r_RL r_RV
          exact K (v8) _ (zF_zov (zF_zov (zF_zov (zF_zov zF_rfl ws_232_231) ws_233_231) ws_235_231) ws_232_231) hV_m7 p0_m5 p1_m5 p2_m5 (show -1 ≤ v8.toInt ∧ v8.toInt ≤ 1500 from by omega) (show qRB (m5 99) (m 100) (m 98) (m 101) (m 102) (m5 103) (m 107) (m 108) (m5 109) (m5 111) (m 112) (m5 113) (m5 114) (m5 94 55) (m 94 46) ro 0 0 0 1 (rGt aa nw v8) from by first | (have E := (FS (by rw [r_RL.1]; omega) (R1_c (FI_no p1_m1 (by omega)) (by have ef := qE p1_m3; omega)) (R2_y (FI_ye p1_m7 (by omega))) p1_m7); unfold rGt; rw [E.1]; exact RB_ft p4_m5; done) | (exfalso; omega; done) | (exfalso; contradiction; done)) (show qRv (rGt aa nw v8) from by first | (have E := (FS (by rw [r_RL.1]; omega) (R1_c (FI_no p1_m1 (by omega)) (by have ef := qE p1_m3; omega)) (R2_y (FI_ye p1_m7 (by omega))) p1_m7); unfold rGt; rw [E.1]; exact Rv_ft p5_m5 E.2.2 (by omega); done) | (exact p5_m5) | (exfalso; omega; done) | (exfalso; contradiction; done)) (show qRL (rGt aa nw v8) (m 94 18) (m 94 64) (m 94 19) (m5 94 63) (m7 116) from by first | (have E := (FS (by rw [r_RL.1]; omega) (R1_c (FI_no p1_m1 (by omega)) (by have ef := qE p1_m3; omega)) (R2_y (FI_ye p1_m7 (by omega))) p1_m7); unfold rGt; rw [E.1]; exact p0_m7; done) | (exact p0_m7) | (exfalso; omega; done) | (exfalso; contradiction; done)) (show qEq v8.toInt (rRp aa nw.toInt) from by first | (have E := (FS (by rw [r_RL.1]; omega) (R1_c (FI_no p1_m1 (by omega)) (by have ef := qE p1_m3; omega)) (R2_y (FI_ye p1_m7 (by omega))) p1_m7); exact E.2.1; done) | (exfalso; omega; done) | (exfalso; contradiction; done)) (show qRv (rRs aa nw.toInt) from by first | (have E := (FS (by rw [r_RL.1]; omega) (R1_c (FI_no p1_m1 (by omega)) (by have ef := qE p1_m3; omega)) (R2_y (FI_ye p1_m7 (by omega))) p1_m7); rw [E.1]; exact p5_m5; done) | (exfalso; omega; done) | (exfalso; contradiction; done)) p7_m5
      · skip
        have g27 := i_nlt h13
        try have rlb := RL_b r_RL r_RV
        refine sp_234rz (aa := aa)  hV_m3 r_RV (show qRL aa (m 94 18) (m 94 64) (m 94 19) (m 94 63) (m1 116) from by first | (exact (show qRL aa _ _ _ _ _ from by have q := p0_m1; rw [rFt_n (by omega)] at q; exact q)) | (exact p0_m1) | (exfalso; omega; done) | (exfalso; contradiction; done)) (fun v16 m15 hV_m15 p0_m15 p1_m15 => zmi_n ?_)
        have p0_m15 : zLE (m1 116) (m 94 64) v16 := p0_m15
        have p1_m15 : qEq v16.toInt (rLe aa) := p1_m15
        try have rgb := rs_94_64 hV
        try have lel := LE_lo p0_m15
        try have lex := LE_ex p0_m15 (p0_m3.elim (fun z => by omega) id)
        try have lex3 := LE_ex p0_m15 (lexi (by omega))
        try have lexi := LE_some p0_m15
        try have lqq := qE p1_m15
        have b29 := i_bd v16
        have hV28 : zV (ma_u (zov wr_234 (zov wr_233 (zov wr_232 m m1) m3) m15) 94 63 v16) := us_94_63 hV_m15 (by omega) (by omega)
        try have rlb := RL_b r_RL r_RV
        refine sp_232rz (aa := (ma_u aa 87 9 v16)) (nw) hV28 (by omega) (by omega) (show qRv (ma_u aa 87 9 v16) from by first | (have lq := qE p1_m15; have ly := Le_y (a := aa) (by have := LE_lo p0_m15; omega); exact Rv_9 r_RV (by omega) (by omega); done) | (exact r_RV) | (exfalso; omega; done) | (exfalso; contradiction; done)) (show qRL (ma_u aa 87 9 v16) (m 94 18) (m 94 64) (m 94 19) v16 (m1 116) from by first | (exact RL_9 (show qRL aa _ _ _ _ _ from by have q := p0_m1; rw [rFt_n (by omega)] at q; exact q)) | (exact p0_m1) | (exfalso; omega; done) | (exfalso; contradiction; done)) (fun v18 m17 hV_m17 p0_m17 p1_m17 p2_m17 => zmi_n ?_)
        have p0_m17 : qRL (rFt (ma_u aa 87 9 v16) nw v18) (m 94 18) (m 94 64) (m 94 19) v16 (m17 116) := p0_m17
        have p1_m17 : qFI (ma_u aa 87 9 v16) nw.toInt v18.toInt := p1_m17
        have p2_m17 : -1 ≤ v18.toInt ∧ v18.toInt ≤ 1500 := p2_m17
        try have rlb := RL_b r_RL r_RV
        have b30 := i_bd v18
        exact K (v18) _ (zF_zov (zF_u (zF_zov (zF_zov (zF_zov zF_rfl ws_232_231) ws_233_231) ws_234_231) rfl) ws_232_231) hV_m17 r_GW r_GU r_OW (show -1 ≤ v18.toInt ∧ v18.toInt ≤ 1500 from by omega) (show qRB (m 99) (m 100) (m 98) (m 101) (m 102) (m 103) (m 107) (m 108) (m 109) (m 111) (m 112) (m 113) (m 114) (m 94 55) (m 94 46) ro 0 0 0 1 (rGt aa nw v18) from by first | (have E := (FS (by rw [r_RL.1]; omega) (R1_n (FI_no p1_m1 (by omega)) (by have ef := qE p1_m3; omega)) (R2_l (FI_no p1_m1 (by omega)) (qE p1_m15) (by have := LE_lo p0_m15; omega)) p1_m17); unfold rGt; rw [E.1]; exact RB_ft (RB_87k r_RB (by decide) (by decide) (by decide) (by decide) (by decide)); done) | (exfalso; omega; done) | (exfalso; contradiction; done)) (show qRv (rGt aa nw v18) from by first | (have E := (FS (by rw [r_RL.1]; omega) (R1_n (FI_no p1_m1 (by omega)) (by have ef := qE p1_m3; omega)) (R2_l (FI_no p1_m1 (by omega)) (qE p1_m15) (by have := LE_lo p0_m15; omega)) p1_m17); unfold rGt; rw [E.1]; exact Rv_ft (Rv_9 r_RV (by have lq := qE p1_m15; have ly := Le_y (a := aa) (by have := LE_lo p0_m15; omega); omega) (by have lq := qE p1_m15; have ly := Le_y (a := aa) (by have := LE_lo p0_m15; omega); omega)) E.2.2 (by omega); done) | (exact r_RV) | (exfalso; omega; done) | (exfalso; contradiction; done)) (show qRL (rGt aa nw v18) (m 94 18) (m 94 64) (m 94 19) v16 (m17 116) from by first | (have E := (FS (by rw [r_RL.1]; omega) (R1_n (FI_no p1_m1 (by omega)) (by have ef := qE p1_m3; omega)) (R2_l (FI_no p1_m1 (by omega)) (qE p1_m15) (by have := LE_lo p0_m15; omega)) p1_m17); unfold rGt; rw [E.1]; exact p0_m17; done) | (exact p0_m17) | (exfalso; omega; done) | (exfalso; contradiction; done)) (show qEq v18.toInt (rRp aa nw.toInt) from by first | (have E := (FS (by rw [r_RL.1]; omega) (R1_n (FI_no p1_m1 (by omega)) (by have ef := qE p1_m3; omega)) (R2_l (FI_no p1_m1 (by omega)) (qE p1_m15) (by have := LE_lo p0_m15; omega)) p1_m17); exact E.2.1; done) | (exfalso; omega; done) | (exfalso; contradiction; done)) (show qRv (rRs aa nw.toInt) from by first | (have E := (FS (by rw [r_RL.1]; omega) (R1_n (FI_no p1_m1 (by omega)) (by have ef := qE p1_m3; omega)) (R2_l (FI_no p1_m1 (by omega)) (qE p1_m15) (by have := LE_lo p0_m15; omega)) p1_m17); rw [E.1]; exact (Rv_9 r_RV (by have lq := qE p1_m15; have ly := Le_y (a := aa) (by have := LE_lo p0_m15; omega); omega) (by have lq := qE p1_m15; have ly := Le_y (a := aa) (by have := LE_lo p0_m15; omega); omega)); done) | (exfalso; omega; done) | (exfalso; contradiction; done)) r_WTS
    · skip
      have g31 := i_nlt h9
      try have rlb := RL_b r_RL r_RV
      exact K (v2) _ (zF_zov zF_rfl ws_232_231) hV_m1 r_GW r_GU r_OW (show -1 ≤ v2.toInt ∧ v2.toInt ≤ 1500 from by omega) (show qRB (m 99) (m 100) (m 98) (m 101) (m 102) (m 103) (m 107) (m 108) (m 109) (m 111) (m 112) (m 113) (m 114) (m 94 55) (m 94 46) ro 0 0 0 1 (rGt aa nw v2) from by first | (have E := (FS (by rw [r_RL.1]; omega) (R1_y (FI_ye p1_m1 (by omega))) (R2_y (FI_ye p1_m1 (by omega))) p1_m1); unfold rGt; rw [E.1]; exact RB_ft r_RB; done) | (exfalso; omega; done) | (exfalso; contradiction; done)) (show qRv (rGt aa nw v2) from by first | (have E := (FS (by rw [r_RL.1]; omega) (R1_y (FI_ye p1_m1 (by omega))) (R2_y (FI_ye p1_m1 (by omega))) p1_m1); unfold rGt; rw [E.1]; exact Rv_ft r_RV E.2.2 (by omega); done) | (exact r_RV) | (exfalso; omega; done) | (exfalso; contradiction; done)) (show qRL (rGt aa nw v2) (m 94 18) (m 94 64) (m 94 19) (m 94 63) (m1 116) from by first | (have E := (FS (by rw [r_RL.1]; omega) (R1_y (FI_ye p1_m1 (by omega))) (R2_y (FI_ye p1_m1 (by omega))) p1_m1); unfold rGt; rw [E.1]; exact p0_m1; done) | (exact p0_m1) | (exfalso; omega; done) | (exfalso; contradiction; done)) (show qEq v2.toInt (rRp aa nw.toInt) from by first | (have E := (FS (by rw [r_RL.1]; omega) (R1_y (FI_ye p1_m1 (by omega))) (R2_y (FI_ye p1_m1 (by omega))) p1_m1); exact E.2.1; done) | (exfalso; omega; done) | (exfalso; contradiction; done)) (show qRv (rRs aa nw.toInt) from by first | (have E := (FS (by rw [r_RL.1]; omega) (R1_y (FI_ye p1_m1 (by omega))) (R2_y (FI_ye p1_m1 (by omega))) p1_m1); rw [E.1]; exact r_RV; done) | (exfalso; omega; done) | (exfalso; contradiction; done)) r_WTS
  · skip
    have g32 := i_nle h5
    try have rlb := RL_b r_RL r_RV
    have li33 : (-1 : Int32).toInt = -1 := rfl
    exact K ((-1 : Int32)) _ zF_rfl hV r_GW r_GU r_OW (show -1 ≤ (-1 : Int32).toInt ∧ (-1 : Int32).toInt ≤ 1500 from by omega) (show qRB (m 99) (m 100) (m 98) (m 101) (m 102) (m 103) (m 107) (m 108) (m 109) (m 111) (m 112) (m 113) (m 114) (m 94 55) (m 94 46) ro 0 0 0 1 (rGt aa nw (-1 : Int32)) from by first | (have sz := congrArg Int32.toInt r_RL.1; have s := Rs_s (a := aa) (z := nw.toInt) (by omega); rw [rGt_n (by decide), s.1]; exact r_RB; done) | (exfalso; omega; done) | (exfalso; contradiction; done)) (show qRv (rGt aa nw (-1 : Int32)) from by first | (have sz := congrArg Int32.toInt r_RL.1; have s := Rs_s (a := aa) (z := nw.toInt) (by omega); rw [rGt_n (by decide), s.1]; exact r_RV; done) | (exact r_RV) | (exfalso; omega; done) | (exfalso; contradiction; done)) (show qRL (rGt aa nw (-1 : Int32)) (m 94 18) (m 94 64) (m 94 19) (m 94 63) (m 116) from by first | (have sz := congrArg Int32.toInt r_RL.1; have s := Rs_s (a := aa) (z := nw.toInt) (by omega); rw [rGt_n (by decide), s.1]; exact r_RL; done) | (exact r_RL) | (exfalso; omega; done) | (exfalso; contradiction; done)) (show qEq (-1 : Int32).toInt (rRp aa nw.toInt) from by first | (have sz := congrArg Int32.toInt r_RL.1; have s := Rs_s (a := aa) (z := nw.toInt) (by omega); show _ = _; rw [s.2]; rfl; done) | (exfalso; omega; done) | (exfalso; contradiction; done)) (show qRv (rRs aa nw.toInt) from by first | (have sz := congrArg Int32.toInt r_RL.1; have s := Rs_s (a := aa) (z := nw.toInt) (by omega); rw [s.1]; exact r_RV; done) | (exfalso; omega; done) | (exfalso; contradiction; done)) r_WTS
set_option maxHeartbeats 8000000 in
theorem sp_184rz {X : Nat × (Nat → Int32)} {P : Option ma_V → (Nat → Nat → Int32) → Prop} {T : Nat} {aa : Nat→Nat→Int32} {ro : Int32} {m : Nat → Nat → Int32} (nz : Int32) (hV : zV m) (hpre0 : 1 ≤ nz.toInt) (hpre1 : nz.toInt ≤ 61) (hpre2 : T ≤ 512) (r_W : zW (m 94 7) (m 98) (m 101) (m 102) (m 108)) (r_GW : zGW T (m 94 55) (m 109)) (r_GU : zGU T (m 94 46) (m 99)) (r_OW : zOw (m 99) (m 103) (m 111)) (r_GG : zGG (m 94 58) (m 94 56) (m 94 57) (m 106)) (hpre8 : (m 94 10).toInt = 6 ∧ (m 94 58).toInt = 0) (r_RB : qRB (m 99) (m 100) (m 98) (m 101) (m 102) (m 103) (m 107) (m 108) (m 109) (m 111) (m 112) (m 113) (m 114) (m 94 55) (m 94 46) ro 0 0 0 1 aa) (r_RV : qRv aa) (r_RL : qRL aa (m 94 18) (m 94 64) (m 94 19) (m 94 63) (m 116)) (r_MG : qMG (m 94 58) (m 106) (m 115) (m 94 57) (m 94 56) (m 99) (m 100) aa) (r_MK : aa 87 8 = (m 94 58)) (r_WTS : (m 94 45).toInt = sm (zbU (m 99)) (m 102) 3100) (KZ : ∀ v m₉, zV (zov wr_184 m m₉) → (zGW T (m₉ 94 55) (m₉ 109)) → (zGU T (m 94 46) (m₉ 99)) → (zOw (m₉ 99) (m₉ 103) (m₉ 111)) → (zGG (m₉ 94 58) (m₉ 94 56) (m₉ 94 57) (m₉ 106)) → (-1 ≤ v.toInt ∧ v.toInt ≤ 1500) → (qRB (m₉ 99) (m 100) (m 98) (m 101) (m 102) (m₉ 103) (m 107) (m 108) (m₉ 109) (m₉ 111) (m 112) (m₉ 113) (m₉ 114) (m₉ 94 55) (m 94 46) ro 0 0 0 1 (rGt aa nz v)) → (qRv (rGt aa nz v)) → (qRL (rGt aa nz v) (m 94 18) (m 94 64) (m 94 19) (m₉ 94 63) (m₉ 116)) → (qI (rGt aa nz v)) → (qMG (m₉ 94 58) (m₉ 106) (m₉ 115) (m₉ 94 57) (m₉ 94 56) (m₉ 99) (m 100) (rGt aa nz v)) → ((rGt aa nz v) 87 8 = (m₉ 94 58)) → ((m₉ 94 45).toInt = sm (zbU (m₉ 99)) (m 102) 3100) → (qEq v.toInt (rRp aa nz.toInt)) → (qRv (rRs aa nz.toInt)) → ((m₉ 94 58).toInt = 0) → P (some (.inl v)) (zov wr_184 m m₉)) : zm X 8 175 184 0 [(0, .inr (.inr (some 94))), (1, .inl nz)] m P := by
  have K : ∀ v m₉, zF wr_184 m m₉ → zV m₉ → (zGW T (m₉ 94 55) (m₉ 109)) → (zGU T (m₉ 94 46) (m₉ 99)) → (zOw (m₉ 99) (m₉ 103) (m₉ 111)) → (zGG (m₉ 94 58) (m₉ 94 56) (m₉ 94 57) (m₉ 106)) → (-1 ≤ v.toInt ∧ v.toInt ≤ 1500) → (qRB (m₉ 99) (m₉ 100) (m₉ 98) (m₉ 101) (m₉ 102) (m₉ 103) (m₉ 107) (m₉ 108) (m₉ 109) (m₉ 111) (m₉ 112) (m₉ 113) (m₉ 114) (m₉ 94 55) (m₉ 94 46) ro 0 0 0 1 (rGt aa nz v)) → (qRv (rGt aa nz v)) → (qRL (rGt aa nz v) (m₉ 94 18) (m₉ 94 64) (m₉ 94 19) (m₉ 94 63) (m₉ 116)) → (qI (rGt aa nz v)) → (qMG (m₉ 94 58) (m₉ 106) (m₉ 115) (m₉ 94 57) (m₉ 94 56) (m₉ 99) (m₉ 100) (rGt aa nz v)) → ((rGt aa nz v) 87 8 = (m₉ 94 58)) → ((m₉ 94 45).toInt = sm (zbU (m₉ 99)) (m₉ 102) 3100) → (qEq v.toInt (rRp aa nz.toInt)) → (qRv (rRs aa nz.toInt)) → ((m₉ 94 58).toInt = 0) → P (some (.inl v)) m₉ := by
    intro v m₉ hf z q0 q1 q2 q3 q4 q5 q6 q7 q8 q9 q10 q11 q12 q13 q14
    have e := zov_eq hf
    rw [e] at z ⊢
    try rw [e] at q0
    try rw [e] at q1
    try rw [e] at q2
    try rw [e] at q3
    try rw [e] at q4
    try rw [e] at q5
    try rw [e] at q6
    try rw [e] at q7
    try rw [e] at q8
    try rw [e] at q9
    try rw [e] at q10
    try rw [e] at q11
    try rw [e] at q12
    try rw [e] at q13
    try rw [e] at q14
    exact KZ v m₉ z q0 q1 q2 q3 q4 q5 q6 q7 q8 q9 q10 q11 q12 q13 q14
  refine g_184_0 nz ?_
  have f1 : 0 ≤ (m 94 10).toInt ∧ (m 94 10).toInt ≤ 6 := rs_94_10 (m := m) hV
  have f2 : 0 ≤ (m 94 58).toInt ∧ (m 94 58).toInt ≤ 1 := rs_94_58 (m := m) hV
  have li3 : (1 : Int32).toInt = 1 := rfl
  refine zd (fun (h4 : (m 94 10) = (1 : Int32)) => ?_) (fun (h4 : ¬ (m 94 10) = (1 : Int32)) => ?_)
  · skip
    have g5 := i_eq h4
    exfalso; omega
  · skip
    have g6 := i_ne h4
    have li7 : (2 : Int32).toInt = 2 := rfl
    refine zd (fun (h8 : (m 94 10) = (2 : Int32)) => ?_) (fun (h8 : ¬ (m 94 10) = (2 : Int32)) => ?_)
    · skip
      have g9 := i_eq h8
      exfalso; omega
    · skip
      have g10 := i_ne h8
      have li11 : (3 : Int32).toInt = 3 := rfl
      refine zd (fun (h12 : (m 94 10) = (3 : Int32)) => ?_) (fun (h12 : ¬ (m 94 10) = (3 : Int32)) => ?_)
      · skip
        have g13 := i_eq h12
        exfalso; omega
      · skip
        have g14 := i_ne h12
        have li15 : (4 : Int32).toInt = 4 := rfl
        refine zd (fun (h16 : (m 94 10) = (4 : Int32)) => ?_) (fun (h16 : ¬ (m 94 10) = (4 : Int32)) => ?_)
        · skip
          have g17 := i_eq h16
          exfalso; omega
        · skip
          have g18 := i_ne h16
          have li19 : (5 : Int32).toInt = 5 := rfl
          refine zd (fun (h20 : (m 94 10) = (5 : Int32)) => ?_) (fun (h20 : ¬ (m 94 10) = (5 : Int32)) => ?_)
          · skip
            have g21 := i_eq h20
            exfalso; omega
          · skip
            have g22 := i_ne h20
            have li23 : (6 : Int32).toInt = 6 := rfl
            refine zd (fun (h24 : (m 94 10) = (6 : Int32)) => ?_) (fun (h24 : ¬ (m 94 10) = (6 : Int32)) => ?_)
            · skip
              have g25 := i_eq h24
              have b26 := i_bd nz
              refine sp_231rz (aa := aa) (nz) hV (by omega) (by omega) (by omega) r_W r_GW r_GU r_OW (show (m 94 10).toInt = 6 ∧ (m 94 58).toInt = 0 from by omega) r_RB r_RV r_RL r_WTS (fun v16 m15 hV_m15 p0_m15 p1_m15 p2_m15 p3_m15 p4_m15 p5_m15 p6_m15 p7_m15 p8_m15 p9_m15 => zmi_n ?_)
              have p0_m15 : zGW T (m15 94 55) (m15 109) := p0_m15
              have p1_m15 : zGU T (m 94 46) (m15 99) := p1_m15
              have p2_m15 : zOw (m15 99) (m15 103) (m15 111) := p2_m15
              have p3_m15 : -1 ≤ v16.toInt ∧ v16.toInt ≤ 1500 := p3_m15
              have p4_m15 : qRB (m15 99) (m 100) (m 98) (m 101) (m 102) (m15 103) (m 107) (m 108) (m15 109) (m15 111) (m 112) (m15 113) (m15 114) (m15 94 55) (m 94 46) ro 0 0 0 1 (rGt aa nz v16) := p4_m15
              have p5_m15 : qRv (rGt aa nz v16) := p5_m15
              have p6_m15 : qRL (rGt aa nz v16) (m 94 18) (m 94 64) (m 94 19) (m15 94 63) (m15 116) := p6_m15
              have p7_m15 : qEq v16.toInt (rRp aa nz.toInt) := p7_m15
              have p8_m15 : qRv (rRs aa nz.toInt) := p8_m15
              have p9_m15 : (m15 94 45).toInt = sm (zbU (m15 99)) (m 102) 3100 := p9_m15
              have b27 := i_bd v16
              exact K (v16) _ (zF_zov zF_rfl ws_231_184) hV_m15 p0_m15 p1_m15 p2_m15 r_GG (show -1 ≤ v16.toInt ∧ v16.toInt ≤ 1500 from by omega) p4_m15 p5_m15 p6_m15 (show qI (rGt aa nz v16) from by first | (exact p5_m15.1) | (exfalso; omega; done) | (exfalso; contradiction; done)) (show qMG (m 94 58) (m 106) (m 115) (m 94 57) (m 94 56) (m15 99) (m 100) (rGt aa nz v16) from by first | (exact fun z => absurd (by omega) z) | (exfalso; omega; done) | (exfalso; contradiction; done)) (show (rGt aa nz v16) 87 8 = (m 94 58) from by first | (rw [Gt_7 (by decide)]; exact r_MK; done) | (exfalso; omega; done) | (exfalso; contradiction; done)) p9_m15 p7_m15 p8_m15 (show (m 94 58).toInt = 0 from by omega)
            · skip
              have g28 := i_ne h24
              exfalso; omega
set_option maxHeartbeats 8000000 in
theorem sp_256rz {X : Nat × (Nat → Int32)} {P : Option ma_V → (Nat → Nat → Int32) → Prop} {T : Nat} {aa : Nat→Nat→Int32} {ro : Int32} {m : Nat → Nat → Int32}  (hV : zV m) (hpre0 : T ≤ 512) (r_W : zW (m 94 7) (m 98) (m 101) (m 102) (m 108)) (r_GW : zGW T (m 94 55) (m 109)) (r_GU : zGU T (m 94 46) (m 99)) (r_OW : zOw (m 99) (m 103) (m 111)) (r_GG : zGG (m 94 58) (m 94 56) (m 94 57) (m 106)) (hpre6 : (m 94 10).toInt = 6 ∧ (m 94 58).toInt = 0) (hpre7 : (m 94 8).toInt = 1) (r_RB : qRB (m 99) (m 100) (m 98) (m 101) (m 102) (m 103) (m 107) (m 108) (m 109) (m 111) (m 112) (m 113) (m 114) (m 94 55) (m 94 46) ro 0 0 0 1 aa) (r_RV : qRv aa) (r_RL : qRL aa (m 94 18) (m 94 64) (m 94 19) (m 94 63) (m 116)) (r_MG : qMG (m 94 58) (m 106) (m 115) (m 94 57) (m 94 56) (m 99) (m 100) aa) (r_MK : aa 87 8 = (m 94 58)) (r_WTS : (m 94 45).toInt = sm (zbU (m 99)) (m 102) 3100) (KZ : ∀ v m₉, zV (zov wr_256 m m₉) → (zW (m 94 7) (m 98) (m 101) (m 102) (m 108)) → (zGW T (m₉ 94 55) (m₉ 109)) → (zGU T (m 94 46) (m₉ 99)) → (zOw (m₉ 99) (m₉ 103) (m₉ 111)) → (zGG (m₉ 94 58) (m₉ 94 56) (m₉ 94 57) (m₉ 106)) → (qRB (m₉ 99) (m 100) (m 98) (m 101) (m 102) (m₉ 103) (m 107) (m 108) (m₉ 109) (m₉ 111) (m 112) (m₉ 113) (m₉ 114) (m₉ 94 55) (m 94 46) ro 0 0 0 1 (rCl aa)) → (qRv (rCl aa)) → (qRL (rCl aa) (m 94 18) (m 94 64) (m 94 19) (m₉ 94 63) (m₉ 116)) → (qMG (m₉ 94 58) (m₉ 106) (m₉ 115) (m₉ 94 57) (m₉ 94 56) (m₉ 99) (m 100) (rCl aa)) → ((rCl aa) 87 8 = (m₉ 94 58)) → ((m₉ 94 45).toInt = sm (zbU (m₉ 99)) (m 102) 3100) → ((m₉ 94 58).toInt = 0) → P (some (.inl v)) (zov wr_256 m m₉)) : zm X 7 152 256 0 [(0, .inr (.inr (some 94)))] m P := by
  have K : ∀ v m₉, zF wr_256 m m₉ → zV m₉ → (zW (m₉ 94 7) (m₉ 98) (m₉ 101) (m₉ 102) (m₉ 108)) → (zGW T (m₉ 94 55) (m₉ 109)) → (zGU T (m₉ 94 46) (m₉ 99)) → (zOw (m₉ 99) (m₉ 103) (m₉ 111)) → (zGG (m₉ 94 58) (m₉ 94 56) (m₉ 94 57) (m₉ 106)) → (qRB (m₉ 99) (m₉ 100) (m₉ 98) (m₉ 101) (m₉ 102) (m₉ 103) (m₉ 107) (m₉ 108) (m₉ 109) (m₉ 111) (m₉ 112) (m₉ 113) (m₉ 114) (m₉ 94 55) (m₉ 94 46) ro 0 0 0 1 (rCl aa)) → (qRv (rCl aa)) → (qRL (rCl aa) (m₉ 94 18) (m₉ 94 64) (m₉ 94 19) (m₉ 94 63) (m₉ 116)) → (qMG (m₉ 94 58) (m₉ 106) (m₉ 115) (m₉ 94 57) (m₉ 94 56) (m₉ 99) (m₉ 100) (rCl aa)) → ((rCl aa) 87 8 = (m₉ 94 58)) → ((m₉ 94 45).toInt = sm (zbU (m₉ 99)) (m₉ 102) 3100) → ((m₉ 94 58).toInt = 0) → P (some (.inl v)) m₉ := by
    intro v m₉ hf z q0 q1 q2 q3 q4 q5 q6 q7 q8 q9 q10 q11
    have e := zov_eq hf
    rw [e] at z ⊢
    try rw [e] at q0
    try rw [e] at q1
    try rw [e] at q2
    try rw [e] at q3
    try rw [e] at q4
    try rw [e] at q5
    try rw [e] at q6
    try rw [e] at q7
    try rw [e] at q8
    try rw [e] at q9
    try rw [e] at q10
    try rw [e] at q11
    exact KZ v m₉ z q0 q1 q2 q3 q4 q5 q6 q7 q8 q9 q10 q11
  refine g_256_0  ?_
  have f1 : 0 ≤ (m 94 10).toInt ∧ (m 94 10).toInt ≤ 6 := rs_94_10 (m := m) hV
  have f2 : 0 ≤ (m 94 58).toInt ∧ (m 94 58).toInt ≤ 1 := rs_94_58 (m := m) hV
  have f3 : 0 ≤ (m 94 8).toInt ∧ (m 94 8).toInt ≤ 1 := rs_94_8 (m := m) hV
  have li4 : (0 : Int32).toInt = 0 := rfl
  refine zd (fun (h5 : (m 94 8) = (0 : Int32)) => ?_) (fun (h5 : ¬ (m 94 8) = (0 : Int32)) => ?_)
  · skip
    have g6 := i_eq h5
    exfalso; omega
  · skip
    have g7 := i_ne h5
    have li8 : (1 : Int32).toInt = 1 := rfl
    refine zd (fun (h9 : (m 94 10) = (1 : Int32)) => ?_) (fun (h9 : ¬ (m 94 10) = (1 : Int32)) => ?_)
    · skip
      have g10 := i_eq h9
      exfalso; omega
    · skip
      have g11 := i_ne h9
      have li12 : (2 : Int32).toInt = 2 := rfl
      refine zd (fun (h13 : (m 94 10) = (2 : Int32)) => ?_) (fun (h13 : ¬ (m 94 10) = (2 : Int32)) => ?_)
      · skip
        have g14 := i_eq h13
        exfalso; omega
      · skip
        have g15 := i_ne h13
        have li16 : (3 : Int32).toInt = 3 := rfl
        refine zd (fun (h17 : (m 94 10) = (3 : Int32)) => ?_) (fun (h17 : ¬ (m 94 10) = (3 : Int32)) => ?_)
        · skip
          have g18 := i_eq h17
          exfalso; omega
        · skip
          have g19 := i_ne h17
          have li20 : (4 : Int32).toInt = 4 := rfl
          refine zd (fun (h21 : (m 94 10) = (4 : Int32)) => ?_) (fun (h21 : ¬ (m 94 10) = (4 : Int32)) => ?_)
          · skip
            have g22 := i_eq h21
            exfalso; omega
          · skip
            have g23 := i_ne h21
            have li24 : (5 : Int32).toInt = 5 := rfl
            refine zd (fun (h25 : (m 94 10) = (5 : Int32)) => ?_) (fun (h25 : ¬ (m 94 10) = (5 : Int32)) => ?_)
            · skip
              have g26 := i_eq h25
              exfalso; omega
            · skip
              have g27 := i_ne h25
              have li28 : (6 : Int32).toInt = 6 := rfl
              refine zd (fun (h29 : (m 94 10) = (6 : Int32)) => ?_) (fun (h29 : ¬ (m 94 10) = (6 : Int32)) => ?_)
              · skip
                have g30 := i_eq h29
                have hV31 : zV (ma_u m 94 0 (0 : Int32)) := uf_94_0 hV
                refine sp_235rz (aa := aa)  hV31 (by omega) r_W r_GW r_GU r_OW (show (m 94 10).toInt = 6 ∧ (m 94 58).toInt = 0 from by omega) r_RB r_RV r_RL (show zRG1 (m 94 18) (m 94 64) (m 94 63) (m 99) (m 103) (m 102) (m 116) from by first | (exact RG_of r_RB r_RV r_RL) | (exfalso; omega; done) | (exfalso; contradiction; done)) r_WTS (fun v18 m17 hV_m17 p0_m17 p1_m17 p2_m17 p3_m17 p4_m17 p5_m17 p6_m17 p7_m17 => zmi_n ?_)
                have p0_m17 : zGW T (m17 94 55) (m17 109) := p0_m17
                have p1_m17 : zGU T (m 94 46) (m17 99) := p1_m17
                have p2_m17 : zOw (m17 99) (m17 103) (m17 111) := p2_m17
                have p3_m17 : zRG1 (m 94 18) (m 94 64) (m17 94 63) (m17 99) (m17 103) (m 102) (m17 116) := p3_m17
                have p4_m17 : qRB (m17 99) (m 100) (m 98) (m 101) (m 102) (m17 103) (m 107) (m 108) (m17 109) (m17 111) (m 112) (m17 113) (m17 114) (m17 94 55) (m 94 46) ro 0 0 0 1 (rCl aa) := p4_m17
                have p5_m17 : qRv (rCl aa) := p5_m17
                have p6_m17 : qRL (rCl aa) (m 94 18) (m 94 64) (m 94 19) (m17 94 63) (m17 116) := p6_m17
                have p7_m17 : (m17 94 45).toInt = sm (zbU (m17 99)) (m 102) 3100 := p7_m17
                have b32 := i_bd v18
                exact K (v18) _ (zF_zov (zF_u zF_rfl rfl) ws_235_256) hV_m17 r_W p0_m17 p1_m17 p2_m17 r_GG p4_m17 p5_m17 p6_m17 (show qMG (m 94 58) (m 106) (m 115) (m 94 57) (m 94 56) (m17 99) (m 100) (rCl aa) from by first | (exact fun z => absurd (by omega) z) | (exfalso; omega; done) | (exfalso; contradiction; done)) (show (rCl aa) 87 8 = (m 94 58) from by first | (rw [rCl_87 (by decide)]; exact r_MK; done) | (exfalso; omega; done) | (exfalso; contradiction; done)) p7_m17 (show (m 94 58).toInt = 0 from by omega)
              · skip
                have g33 := i_ne h29
                exfalso; omega

/-! from 95.t07 -/
/-! REGIONS, the reference (written by wip/tools/gen15t.py) -/
set_option maxHeartbeats 8000000 in
theorem lp_183rz_142 {X : Nat × (Nat → Int32)} {P : Option ma_V → (Nat → Nat → Int32) → Prop} {T : Nat} {aa : Nat→Nat→Int32} {ro : Int32} {LL : Int64} {kk : Int32} {nn : Int32} {r1 : Int32} {m0 : Nat → Nat → Int32} (h0 : zV m0) (K : ∀ v m₉, zF wr_183 m0 m₉ → zV m₉ → (zW (m₉ 94 7) (m₉ 98) (m₉ 101) (m₉ 102) (m₉ 108)) → (zGW (T + 1) (m₉ 94 55) (m₉ 109)) → (zGU (T + 1) (m₉ 94 46) (m₉ 99)) → (zOw (m₉ 99) (m₉ 103) (m₉ 111)) → (zGG (m₉ 94 58) (m₉ 94 56) (m₉ 94 57) (m₉ 106)) → (qRB (m₉ 99) (m₉ 100) (m₉ 98) (m₉ 101) (m₉ 102) (m₉ 103) (m₉ 107) (m₉ 108) (m₉ 109) (m₉ 111) (m₉ 112) (m₉ 113) (m₉ 114) (m₉ 94 55) (m₉ 94 46) ro 0 0 0 1 (rMk aa kk nn LL r1)) → (qMG (m₉ 94 58) (m₉ 106) (m₉ 115) (m₉ 94 57) (m₉ 94 56) (m₉ 99) (m₉ 100) (rMk aa kk nn LL r1)) → ((rMk aa kk nn LL r1) 87 8 = (m₉ 94 58)) → ((m₉ 94 45).toInt = sm (zbU (m₉ 99)) (m₉ 102) 3100) → ((m₉ 94 58).toInt = 0) → (v = rMn aa nn) → (qRv (rMk aa kk nn LL r1)) → (qRL (rMk aa kk nn LL r1) (m₉ 94 18) (m₉ 94 64) (m₉ 94 19) (m₉ 94 63) (m₉ 116)) → P (some (.inl v)) m₉) : ∀ (n : Nat) (m : Nat → Nat → Int32) (l2 : Int32) (l3 : Int32) (l4 : Int32) (l5 : Int32) (l6 : Int32), (61 - l6.toInt).toNat = n → zF wr_183 m0 m → zV m → (l2.toInt = nn.toInt) → (0 ≤ l2.toInt) → (l2.toInt ≤ 60) → (0 ≤ l3.toInt) → (l3.toInt ≤ 15) → (0 ≤ l4.toInt) → (l4.toInt ≤ 3000) → (0 ≤ l5.toInt) → (l5.toInt ≤ 3099) → (T + 1 ≤ 512) → (0 ≤ l6.toInt) → ((m 94 10).toInt = 6 ∧ (m 94 58).toInt = 0) → ((m 94 8).toInt = 1) → ((m 94 46).toInt ≤ 511) → (l2 = nn) → (l3 = r1) → (qEq l4.toInt (rRp aa (nn + (1 : Int32)).toInt)) → ((m 102 l5.toNatClampNeg).toInt = l2.toInt) → ((m 99) l5.toNatClampNeg ≠ 0) → (zGUp T (m 94 46) (m 99)) → (zOw (m 99) (m 103) (m 111)) → (zGG (m 94 58) (m 94 56) (m 94 57) (m 106)) → (qI (rGt aa (nn + (1 : Int32)) l4)) → (qNs (m 99) (m 100) (m 98) (m 101) (m 102) (m 103) (m 107) (m 108) (m 109) (m 111) (m 112) (m 113) (m 114) (m 94 55) (m 94 46) ro 0 0 0 1 (rGt aa (nn + (1 : Int32)) l4) l5.toNatClampNeg (m 94 46) kk nn l4) → (qMG (m 94 58) (m 106) (m 115) (m 94 57) (m 94 56) (zmk (m 99) l5.toNatClampNeg) (m 100) (rGt aa (nn + (1 : Int32)) l4)) → ((rGt aa (nn + (1 : Int32)) l4) 87 8 = (m 94 58)) → ((m 94 45).toInt = sm (zbU (zmk (m 99) l5.toNatClampNeg)) (m 102) 3100) → (∀ j : Nat, (j : Int) < nn.toInt → (zbit LL (Int32.ofNat j) ≠ 0 ↔ (kk = 16 ∨ (kk < 16 ∧ (((m 98) kk.toNatClampNeg >>> (Int32.ofNat j &&& 31)) &&& 1) = 1)))) → ((aa 69 6).toInt < 512) → (aa 87 2 = 0) → (zWn (m 94 7) (m 98) (m 101) (m 102) (m 108) l5.toNatClampNeg l6.toNatClampNeg) → (zGW (T + 1) (m 94 55) (m 109)) → (qCo (m 94 58) (m 106) l5.toNatClampNeg) → ((m 107) l5.toNatClampNeg = 0) → ((m 109) l5.toNatClampNeg = 0) → (qRv (rRs aa (nn + (1 : Int32)).toInt)) → (qRL (rGt aa (nn + (1 : Int32)) l4) (m 94 18) (m 94 64) (m 94 19) (m 94 63) (m 116)) → zm X 9 198 183 142 [(0, .inr (.inr (some 94))), (2, .inl l2), (3, .inl l3), (4, .inl l4), (5, .inl l5), (6, .inl l6)] m P := by
  intro n
  induction n using Nat.strongRecOn with
  | _ n IH =>
    intro m l2 l3 l4 l5 l6 hmu hF hV hi0 hi1 hi2 hi3 hi4 hi5 hi6 hi7 hi8 hi9 hi10 hi11 hi12 hi13 r_L2n r_L3r r_PLq hi17 r_USn r_GUp r_OW r_GG r_QIb r_NS r_MGz r_MKb r_WTz r_BTS r_N6 r_Q0 r_WN r_GW r_COs r_HOs r_WIs r_RVs r_RLb
    refine g_183_142 l2 l3 l4 l5 l6 ?_
    have f1 : 0 ≤ (m 94 10).toInt ∧ (m 94 10).toInt ≤ 6 := rs_94_10 (m := m) hV
    have f2 : 0 ≤ (m 94 58).toInt ∧ (m 94 58).toInt ≤ 1 := rs_94_58 (m := m) hV
    have f3 : 0 ≤ (m 94 8).toInt ∧ (m 94 8).toInt ≤ 1 := rs_94_8 (m := m) hV
    have f4 : 0 ≤ (m 94 46).toInt ∧ (m 94 46).toInt ≤ 100000 := rs_94_46 (m := m) hV
    have b5 := i_bd l5
    first | have f6 : 0 ≤ (m 102 l5.toNatClampNeg).toInt ∧ (m 102 l5.toNatClampNeg).toInt ≤ 60 := ra_102 (m := m) hV (k := l5.toNatClampNeg) (i_ix (n := 3100) (by omega) (by omega)).2 | have b7 := i_bd (m 102 l5.toNatClampNeg)
    have b8 := i_bd l2
    have b9 := i_bd l6
    refine zd (fun (h10 : l2 ≤ l6) => ?_) (fun (h10 : ¬ l2 ≤ l6) => ?_)
    · skip
      have g11 := i_le h10
      have b12 := i_bd l3
      first | have e14 : ((m 94 46) + (1 : Int32)).toInt = (m 94 46).toInt + (1) := i_addk rfl (by omega) (by omega) | have b15 := i_bd ((m 94 46) + (1 : Int32))
      have hV13 : zV (ma_u m 94 46 ((m 94 46) + (1 : Int32))) := us_94_46 hV (by omega) (by omega)
      have hV16 : zV (ma_u (ma_u m 94 46 ((m 94 46) + (1 : Int32))) 94 44 ((m 94 44) + (1 : Int32))) := uf_94_44 hV13
      have hV17 : zV (ma_u (ma_u (ma_u m 94 46 ((m 94 46) + (1 : Int32))) 94 44 ((m 94 44) + (1 : Int32))) 94 45 ((m 94 45) + (l2 + (1 : Int32)))) := uf_94_45 hV16
      have b19 := i_bd l4
      first | have e20 : (l4 + l2).toInt = l4.toInt + l2.toInt := i_add (by omega) (by omega) | have b21 := i_bd (l4 + l2)
      first | have e22 : ((l4 + l2) + (1 : Int32)).toInt = (l4 + l2).toInt + (1) := i_addk rfl (by omega) (by omega) | have b23 := i_bd ((l4 + l2) + (1 : Int32))
      have hV18 : zV (ma_u (ma_u (ma_u (ma_u m 94 46 ((m 94 46) + (1 : Int32))) 94 44 ((m 94 44) + (1 : Int32))) 94 45 ((m 94 45) + (l2 + (1 : Int32)))) 94 62 ((l4 + l2) + (1 : Int32))) := us_94_62 hV17 (by omega) (by omega)
      refine sp_238rm (T := (T + 1)) (aa := (aAd (rGt aa (nn + (1 : Int32)) l4) (m 94 46) (zFn (m 94 46) kk (nn + (1 : Int32)) l4) LL)) (l3) (l5) hV18 (by omega) (by omega) (by omega) (by omega) (show ((m 94 10).toInt = 1 ∨ (m 94 10).toInt = 2 ∨ (m 94 10).toInt = 3 ∨ (m 94 10).toInt = 6) ∧ (m 94 58).toInt = 0 from by omega) (show zW (m 94 7) (m 98) (m 101) (m 102) (m 108) from by first | (exact Wn_end r_WN (by rw [tn_cast (x := l6) (by omega)]; omega)) | (exfalso; omega; done) | (exfalso; contradiction; done)) r_GW (show zGU (T + 1) ((m 94 46) + (1 : Int32)) (m 99) from by first | (exact GUp_end r_GUp (by omega)) | (exfalso; omega; done) | (exfalso; contradiction; done)) r_OW r_GG (show qRB (m 99) (m 100) (m 98) (m 101) (m 102) (m 103) (m 107) (m 108) (m 109) (m 111) (m 112) (m 113) (m 114) (m 94 55) ((m 94 46) + (1 : Int32)) ro 0 0 0 1 (aAd (rGt aa (nn + (1 : Int32)) l4) (m 94 46) (zFn (m 94 46) kk (nn + (1 : Int32)) l4) LL) from by first | (rw [← (hd_0 ((Gt_7 (by decide)).trans r_Q0) (r_MKb.trans (i_zer (by omega))))]; exact RB_872 (RB_nz r_NS (Ne_r r_RVs r_PLq (by omega) (by omega) (by omega) r_NS.1.2.2.2.2.2.2.2.1 (by omega)) (Ad_of (b := (rGt aa (nn + (1 : Int32)) l4)) (y := (m 94 46)) (kk := kk) (w := nn) (pl := l4) (L := LL) (by omega) (by omega) (by omega) (by omega) (by omega)) (tn_lt (by omega) (by omega)) r_HOs r_WIs (fun j hj => r_WN.2.1 j (by have := tn_cast (x := l6) (by omega); omega)) (fun j hj => (r_BTS j hj).trans (by unfold qIr; rw [r_NS.2.2.2.1])) rfl); done) | (exfalso; omega; done) | (exfalso; contradiction; done)) (show qI (aAd (rGt aa (nn + (1 : Int32)) l4) (m 94 46) (zFn (m 94 46) kk (nn + (1 : Int32)) l4) LL) from by first | (rw [← (hd_0 ((Gt_7 (by decide)).trans r_Q0) (r_MKb.trans (i_zer (by omega))))]; exact I_872 (I_ad (Ne_r r_RVs r_PLq (by omega) (by omega) (by omega) r_NS.1.2.2.2.2.2.2.2.1 (by omega)) (Ad_of (b := (rGt aa (nn + (1 : Int32)) l4)) (y := (m 94 46)) (kk := kk) (w := nn) (pl := l4) (L := LL) (by omega) (by omega) (by omega) (by omega) (by omega))) (by decide) (I_ad (Ne_r r_RVs r_PLq (by omega) (by omega) (by omega) r_NS.1.2.2.2.2.2.2.2.1 (by omega)) (Ad_of (b := (rGt aa (nn + (1 : Int32)) l4)) (y := (m 94 46)) (kk := kk) (w := nn) (pl := l4) (L := LL) (by omega) (by omega) (by omega) (by omega) (by omega))).2.2.2.1.2.2.1.1 (Gd_0 (I_ad (Ne_r r_RVs r_PLq (by omega) (by omega) (by omega) r_NS.1.2.2.2.2.2.2.2.1 (by omega)) (Ad_of (b := (rGt aa (nn + (1 : Int32)) l4)) (y := (m 94 46)) (kk := kk) (w := nn) (pl := l4) (L := LL) (by omega) (by omega) (by omega) (by omega) (by omega)))); done) | (exfalso; omega; done) | (exfalso; contradiction; done)) (show qMG (m 94 58) (m 106) (m 115) (m 94 57) (m 94 56) (m 99) (m 100) (aAd (rGt aa (nn + (1 : Int32)) l4) (m 94 46) (zFn (m 94 46) kk (nn + (1 : Int32)) l4) LL) from by first | (exact fun z => absurd (by omega) z) | (exfalso; omega; done) | (exfalso; contradiction; done)) (show (aAd (rGt aa (nn + (1 : Int32)) l4) (m 94 46) (zFn (m 94 46) kk (nn + (1 : Int32)) l4) LL) 87 8 = (m 94 58) from by first | (exact ad_87.trans r_MKb) | (exfalso; omega; done) | (exfalso; contradiction; done)) (show ((m 94 45) + (l2 + (1 : Int32))).toInt = sm (zbU (m 99)) (m 102) 3100 from by first | (have q := WT_ad r_WTz (tn_lt (by omega) (by omega)) r_USn (fun t ht => ra_102 hV ht); rw [r_NS.2.2.2.2.1, ← r_L2n] at q; exact q; done) | (exfalso; omega; done) | (exfalso; contradiction; done)) (show qU (m 99) l5 from by first | (exact Or.inr ⟨by omega, r_USn⟩) | (assumption; done) | (exact ow5.1) | (exact ow3.1) | (exfalso; omega; done) | (exfalso; contradiction; done)) (show qMS (m 94 58) (aAd (rGt aa (nn + (1 : Int32)) l4) (m 94 46) (zFn (m 94 46) kk (nn + (1 : Int32)) l4) LL) (qNo (m 100) l5) from by first | (exact fun z => absurd (by omega) z) | (exfalso; omega; done) | (exfalso; contradiction; done)) (fun m1 hV_m1 p0_m1 p1_m1 p2_m1 p3_m1 p4_m1 p5_m1 p6_m1 p7_m1 p8_m1 => zmv_n ?_)
      have p0_m1 : zGW (T + 1) (m1 94 55) (m1 109) := p0_m1
      have p1_m1 : zGU (T + 1) ((m 94 46) + (1 : Int32)) (m1 99) := p1_m1
      have p2_m1 : zOw (m1 99) (m 103) (m1 111) := p2_m1
      have p3_m1 : zGG (m 94 58) (m1 94 56) (m 94 57) (m1 106) := p3_m1
      have p4_m1 : qRB (m1 99) (m 100) (m 98) (m 101) (m 102) (m 103) (m 107) (m 108) (m1 109) (m1 111) (m1 112) (m1 113) (m1 114) (m1 94 55) ((m 94 46) + (1 : Int32)) ro 0 0 0 1 (aRt (aAd (rGt aa (nn + (1 : Int32)) l4) (m 94 46) (zFn (m 94 46) kk (nn + (1 : Int32)) l4) LL) l3 (qNo (m 100) l5)) := p4_m1
      have p5_m1 : qI (aRt (aAd (rGt aa (nn + (1 : Int32)) l4) (m 94 46) (zFn (m 94 46) kk (nn + (1 : Int32)) l4) LL) l3 (qNo (m 100) l5)) := p5_m1
      have p6_m1 : qMG (m 94 58) (m1 106) (m1 115) (m 94 57) (m1 94 56) (m1 99) (m 100) (aRt (aAd (rGt aa (nn + (1 : Int32)) l4) (m 94 46) (zFn (m 94 46) kk (nn + (1 : Int32)) l4) LL) l3 (qNo (m 100) l5)) := p6_m1
      have p7_m1 : (aRt (aAd (rGt aa (nn + (1 : Int32)) l4) (m 94 46) (zFn (m 94 46) kk (nn + (1 : Int32)) l4) LL) l3 (qNo (m 100) l5)) 87 8 = (m 94 58) := p7_m1
      have p8_m1 : (m1 94 45).toInt = sm (zbU (m1 99)) (m 102) 3100 := p8_m1
      have hg24 : (0 ≤ l5 ∧ l5.toNatClampNeg < 3100) := i_ix (by omega) (by omega)
      refine ⟨hg24, ?_⟩
      try have e21 : (l2 + (1 : Int32)).toInt = l2.toInt + 1 := i_addk rfl (by omega) (by omega)
      try have gun := GU_nu p1_m1
      first | have f25 : 0 ≤ (m 100 l5.toNatClampNeg).toInt ∧ (m 100 l5.toNatClampNeg).toInt ≤ 100000 := ra_100 (m := m) hV (k := l5.toNatClampNeg) (i_ix (n := 3100) (by omega) (by omega)).2 | have b26 := i_bd (m 100 l5.toNatClampNeg)
      exact K ((m 100 l5.toNatClampNeg)) _ (zF_zov (zF_u (zF_u (zF_u (zF_u hF rfl) rfl) rfl) rfl) ws_238_183) hV_m1 (show zW (m 94 7) (m 98) (m 101) (m 102) (m 108) from by first | (exact Wn_end r_WN (by rw [tn_cast (x := l6) (by omega)]; omega)) | (exfalso; omega; done) | (exfalso; contradiction; done)) p0_m1 p1_m1 p2_m1 p3_m1 (show qRB (m1 99) (m 100) (m 98) (m 101) (m 102) (m 103) (m 107) (m 108) (m1 109) (m1 111) (m1 112) (m1 113) (m1 114) (m1 94 55) ((m 94 46) + (1 : Int32)) ro 0 0 0 1 (rMk aa kk nn LL r1) from by first | (have e := p4_m1; rw [No_y (by omega), r_NS.2.2.1, r_L3r] at e; rw [(rMk_2b (a := aa) (kd := kk) (wd := nn) (rt := r1) (L := LL) (pl := l4) (y := (m 94 46)) r_RVs r_N6 (qE r_PLq) (by omega) (by omega) (by omega) (by omega) (by omega) r_NS.1.2.2.2.2.2.2.2.1.symm (r_MKb.trans (i_zer (by omega)))).1]; exact e; done) | (exfalso; omega; done) | (exfalso; contradiction; done)) (show qMG (m 94 58) (m1 106) (m1 115) (m 94 57) (m1 94 56) (m1 99) (m 100) (rMk aa kk nn LL r1) from by first | (have e := p6_m1; rw [No_y (by omega), r_NS.2.2.1, r_L3r] at e; rw [(rMk_2b (a := aa) (kd := kk) (wd := nn) (rt := r1) (L := LL) (pl := l4) (y := (m 94 46)) r_RVs r_N6 (qE r_PLq) (by omega) (by omega) (by omega) (by omega) (by omega) r_NS.1.2.2.2.2.2.2.2.1.symm (r_MKb.trans (i_zer (by omega)))).1]; exact e; done) | (exfalso; omega; done) | (exfalso; contradiction; done)) (show (rMk aa kk nn LL r1) 87 8 = (m 94 58) from by first | (have e := p7_m1; rw [No_y (by omega), r_NS.2.2.1, r_L3r] at e; rw [(rMk_2b (a := aa) (kd := kk) (wd := nn) (rt := r1) (L := LL) (pl := l4) (y := (m 94 46)) r_RVs r_N6 (qE r_PLq) (by omega) (by omega) (by omega) (by omega) (by omega) r_NS.1.2.2.2.2.2.2.2.1.symm (r_MKb.trans (i_zer (by omega)))).1]; exact e; done) | (exfalso; omega; done) | (exfalso; contradiction; done)) p8_m1 (show (m 94 58).toInt = 0 from by omega) (show (m 100 l5.toNatClampNeg) = rMn aa nn from by first | (rw [r_NS.2.2.1]; exact (rMk_2b (a := aa) (kd := kk) (wd := nn) (rt := r1) (L := LL) (pl := l4) (y := (m 94 46)) r_RVs r_N6 (qE r_PLq) (by omega) (by omega) (by omega) (by omega) (by omega) r_NS.1.2.2.2.2.2.2.2.1.symm (r_MKb.trans (i_zer (by omega)))).2.symm; done) | (exfalso; omega; done) | (exfalso; contradiction; done)) (show qRv (rMk aa kk nn LL r1) from by first | (rw [(rMk_2b (a := aa) (kd := kk) (wd := nn) (rt := r1) (L := LL) (pl := l4) (y := (m 94 46)) r_RVs r_N6 (qE r_PLq) (by omega) (by omega) (by omega) (by omega) (by omega) r_NS.1.2.2.2.2.2.2.2.1.symm (r_MKb.trans (i_zer (by omega)))).1]; exact Rv_new r_RVs (Ne_r r_RVs r_PLq (by omega) (by omega) (by omega) r_NS.1.2.2.2.2.2.2.2.1 (by omega)) r_PLq (by omega) (r_MKb.trans (i_zer (by omega))); done) | (exfalso; omega; done) | (exfalso; contradiction; done)) (show qRL (rMk aa kk nn LL r1) (m 94 18) (m 94 64) (m 94 19) (m 94 63) (m 116) from by first | (rw [(rMk_2b (a := aa) (kd := kk) (wd := nn) (rt := r1) (L := LL) (pl := l4) (y := (m 94 46)) r_RVs r_N6 (qE r_PLq) (by omega) (by omega) (by omega) (by omega) (by omega) r_NS.1.2.2.2.2.2.2.2.1.symm (r_MKb.trans (i_zer (by omega)))).1]; exact RL_new r_RLb; done) | (exfalso; omega; done) | (exfalso; contradiction; done))
    · skip
      have g27 := i_nle h10
      have hg28 : (0 ≤ l5 ∧ l5.toNatClampNeg < 3100) := i_ix (by omega) (by omega)
      refine ⟨hg28, ?_⟩
      first | have f29 : 0 ≤ (m 101 l5.toNatClampNeg).toInt ∧ (m 101 l5.toNatClampNeg).toInt ≤ 17 := ra_101 (m := m) hV (k := l5.toNatClampNeg) (i_ix (n := 3100) (by omega) (by omega)).2 | have b30 := i_bd (m 101 l5.toNatClampNeg)
      have li31 : (16 : Int32).toInt = 16 := rfl
      refine zd (fun (h32 : (m 101 l5.toNatClampNeg) = (16 : Int32)) => ?_) (fun (h32 : ¬ (m 101 l5.toNatClampNeg) = (16 : Int32)) => ?_)
      · skip
        have g33 := i_eq h32
        have li34 : (60 : Int32).toInt = 60 := rfl
        first | have e35 : (l5 * (60 : Int32)).toInt = l5.toInt * 60 := i_mulk rfl (by omega) (by omega) | have b36 := i_bd (l5 * (60 : Int32))
        first | have e37 : ((l5 * (60 : Int32)) + l6).toInt = (l5 * (60 : Int32)).toInt + l6.toInt := i_add (by omega) (by omega) | have b38 := i_bd ((l5 * (60 : Int32)) + l6)
        have hg39 : (0 ≤ ((l5 * (60 : Int32)) + l6) ∧ ((l5 * (60 : Int32)) + l6).toNatClampNeg < 186000) := i_ix (by omega) (by omega)
        refine ⟨hg39, ?_⟩
        try have e21 : (l2 + (1 : Int32)).toInt = l2.toInt + 1 := i_addk rfl (by omega) (by omega)
        have hV40 : zV (ma_u m 108 ((l5 * (60 : Int32)) + l6).toNatClampNeg (-1 : Int32)) := ua_108 hV
        have b41 := i_bd l3
        have b42 := i_bd l4
        first | have e43 : (l6 + (1 : Int32)).toInt = l6.toInt + (1) := i_addk rfl (by omega) (by omega) | have b44 := i_bd (l6 + (1 : Int32))
        exact IH (61 - (l6 + (1 : Int32)).toInt).toNat (by omega) _ (l2) (l3) (l4) (l5) ((l6 + (1 : Int32))) rfl (zF_u hF rfl) hV40 (by omega) (by omega) (by omega) (by omega) (by omega) (by omega) (by omega) (by omega) (by omega) (by omega) (by omega) (show (m 94 10).toInt = 6 ∧ (m 94 58).toInt = 0 from by omega) (show (m 94 8).toInt = 1 from by omega) (show (m 94 46).toInt ≤ 511 from by omega) r_L2n r_L3r r_PLq (show (m 102 l5.toNatClampNeg).toInt = l2.toInt from by omega) r_USn r_GUp r_OW r_GG r_QIb (show qNs (m 99) (m 100) (m 98) (m 101) (m 102) (m 103) (m 107) ((ma_u m 108 ((l5 * (60 : Int32)) + l6).toNatClampNeg (-1 : Int32)) 108) (m 109) (m 111) (m 112) (m 113) (m 114) (m 94 55) (m 94 46) ro 0 0 0 1 (rGt aa (nn + (1 : Int32)) l4) l5.toNatClampNeg (m 94 46) kk nn l4 from by first | (exact NS_h r_NS (fun _ _ => rfl) (fun _ _ => rfl) (fun t ht hne i hi => (zrf_oth (ix_word (by omega) (by omega) (by omega) (by omega)) (by rw [tn_eq]; omega) (fun t ht => (ra_102 hV ht).2)) t i hne ht hi)) | (exfalso; omega; done) | (exfalso; contradiction; done)) r_MGz r_MKb r_WTz r_BTS r_N6 r_Q0 (show zWn (m 94 7) (m 98) (m 101) (m 102) ((ma_u m 108 ((l5 * (60 : Int32)) + l6).toNatClampNeg (-1 : Int32)) 108) l5.toNatClampNeg (l6 + (1 : Int32)).toNatClampNeg from by first | (exact Wn_put r_WN (zrf_oth (ix_word (by omega) (by omega) (by omega) (by omega)) (by rw [tn_eq]; omega) (fun t ht => (ra_102 hV ht).2)) (zrf_bef (ix_word (by omega) (by omega) (by omega) (by omega))) (zrf_m1 (ix_word (by omega) (by omega) (by omega) (by omega)) rfl) (tn_succ (by omega) (by omega))) | (exact Wn_put r_WN (zrf_oth (ix_word (by omega) (by omega) (by omega) (by omega)) (by rw [tn_eq]; omega) (fun t ht => (ra_102 hV ht).2)) (zrf_bef (ix_word (by omega) (by omega) (by omega) (by omega))) (zrf_nr rfl (by omega) (by assumption) (fun z => by first | exact absurd (Int32.lt_iff_toInt_lt.mp z.1) (by omega) | exact absurd z.2 (by assumption))) (tn_succ (by omega) (by omega))) | (exfalso; omega; done) | (exfalso; contradiction; done)) r_GW r_COs r_HOs r_WIs r_RVs r_RLb
      · skip
        have g45 := i_ne h32
        have hg46 : (0 ≤ l5 ∧ l5.toNatClampNeg < 3100) := i_ix (by omega) (by omega)
        refine ⟨hg46, ?_⟩
        refine zd (fun (h47 : (16 : Int32) ≤ (m 101 l5.toNatClampNeg)) => ?_) (fun (h47 : ¬ (16 : Int32) ≤ (m 101 l5.toNatClampNeg)) => ?_)
        · skip
          have g48 := i_le h47
          have li49 : (60 : Int32).toInt = 60 := rfl
          first | have e50 : (l5 * (60 : Int32)).toInt = l5.toInt * 60 := i_mulk rfl (by omega) (by omega) | have b51 := i_bd (l5 * (60 : Int32))
          first | have e52 : ((l5 * (60 : Int32)) + l6).toInt = (l5 * (60 : Int32)).toInt + l6.toInt := i_add (by omega) (by omega) | have b53 := i_bd ((l5 * (60 : Int32)) + l6)
          have hg54 : (0 ≤ ((l5 * (60 : Int32)) + l6) ∧ ((l5 * (60 : Int32)) + l6).toNatClampNeg < 186000) := i_ix (by omega) (by omega)
          refine ⟨hg54, ?_⟩
          try have e21 : (l2 + (1 : Int32)).toInt = l2.toInt + 1 := i_addk rfl (by omega) (by omega)
          have hV55 : zV (ma_u m 108 ((l5 * (60 : Int32)) + l6).toNatClampNeg (0 : Int32)) := ua_108 hV
          have b56 := i_bd l3
          have b57 := i_bd l4
          first | have e58 : (l6 + (1 : Int32)).toInt = l6.toInt + (1) := i_addk rfl (by omega) (by omega) | have b59 := i_bd (l6 + (1 : Int32))
          exact IH (61 - (l6 + (1 : Int32)).toInt).toNat (by omega) _ (l2) (l3) (l4) (l5) ((l6 + (1 : Int32))) rfl (zF_u hF rfl) hV55 (by omega) (by omega) (by omega) (by omega) (by omega) (by omega) (by omega) (by omega) (by omega) (by omega) (by omega) (show (m 94 10).toInt = 6 ∧ (m 94 58).toInt = 0 from by omega) (show (m 94 8).toInt = 1 from by omega) (show (m 94 46).toInt ≤ 511 from by omega) r_L2n r_L3r r_PLq (show (m 102 l5.toNatClampNeg).toInt = l2.toInt from by omega) r_USn r_GUp r_OW r_GG r_QIb (show qNs (m 99) (m 100) (m 98) (m 101) (m 102) (m 103) (m 107) ((ma_u m 108 ((l5 * (60 : Int32)) + l6).toNatClampNeg (0 : Int32)) 108) (m 109) (m 111) (m 112) (m 113) (m 114) (m 94 55) (m 94 46) ro 0 0 0 1 (rGt aa (nn + (1 : Int32)) l4) l5.toNatClampNeg (m 94 46) kk nn l4 from by first | (exact NS_h r_NS (fun _ _ => rfl) (fun _ _ => rfl) (fun t ht hne i hi => (zrf_oth (ix_word (by omega) (by omega) (by omega) (by omega)) (by rw [tn_eq]; omega) (fun t ht => (ra_102 hV ht).2)) t i hne ht hi)) | (exfalso; omega; done) | (exfalso; contradiction; done)) r_MGz r_MKb r_WTz r_BTS r_N6 r_Q0 (show zWn (m 94 7) (m 98) (m 101) (m 102) ((ma_u m 108 ((l5 * (60 : Int32)) + l6).toNatClampNeg (0 : Int32)) 108) l5.toNatClampNeg (l6 + (1 : Int32)).toNatClampNeg from by first | (exact Wn_put r_WN (zrf_oth (ix_word (by omega) (by omega) (by omega) (by omega)) (by rw [tn_eq]; omega) (fun t ht => (ra_102 hV ht).2)) (zrf_bef (ix_word (by omega) (by omega) (by omega) (by omega))) (zrf_m1 (ix_word (by omega) (by omega) (by omega) (by omega)) rfl) (tn_succ (by omega) (by omega))) | (exact Wn_put r_WN (zrf_oth (ix_word (by omega) (by omega) (by omega) (by omega)) (by rw [tn_eq]; omega) (fun t ht => (ra_102 hV ht).2)) (zrf_bef (ix_word (by omega) (by omega) (by omega) (by omega))) (zrf_nr rfl (by omega) (by assumption) (fun z => by first | exact absurd (Int32.lt_iff_toInt_lt.mp z.1) (by omega) | exact absurd z.2 (by assumption))) (tn_succ (by omega) (by omega))) | (exfalso; omega; done) | (exfalso; contradiction; done)) r_GW r_COs r_HOs r_WIs r_RVs r_RLb
        · skip
          have g60 := i_nle h47
          have hg61 : (0 ≤ l5 ∧ l5.toNatClampNeg < 3100) := i_ix (by omega) (by omega)
          refine ⟨hg61, ?_⟩
          have hg62 : (0 ≤ (m 101 l5.toNatClampNeg) ∧ (m 101 l5.toNatClampNeg).toNatClampNeg < 16) := i_ix (by omega) (by omega)
          refine ⟨hg62, ?_⟩
          have b63 := i_bd (((m 98 (m 101 l5.toNatClampNeg).toNatClampNeg) >>> (l6 &&& 31)) &&& (1 : Int32))
          have li64 : (1 : Int32).toInt = 1 := rfl
          refine zd (fun (h65 : (((m 98 (m 101 l5.toNatClampNeg).toNatClampNeg) >>> (l6 &&& 31)) &&& (1 : Int32)) = (1 : Int32)) => ?_) (fun (h65 : ¬ (((m 98 (m 101 l5.toNatClampNeg).toNatClampNeg) >>> (l6 &&& 31)) &&& (1 : Int32)) = (1 : Int32)) => ?_)
          · skip
            have g66 := i_eq h65
            have li67 : (60 : Int32).toInt = 60 := rfl
            first | have e68 : (l5 * (60 : Int32)).toInt = l5.toInt * 60 := i_mulk rfl (by omega) (by omega) | have b69 := i_bd (l5 * (60 : Int32))
            first | have e70 : ((l5 * (60 : Int32)) + l6).toInt = (l5 * (60 : Int32)).toInt + l6.toInt := i_add (by omega) (by omega) | have b71 := i_bd ((l5 * (60 : Int32)) + l6)
            have hg72 : (0 ≤ ((l5 * (60 : Int32)) + l6) ∧ ((l5 * (60 : Int32)) + l6).toNatClampNeg < 186000) := i_ix (by omega) (by omega)
            refine ⟨hg72, ?_⟩
            try have e21 : (l2 + (1 : Int32)).toInt = l2.toInt + 1 := i_addk rfl (by omega) (by omega)
            have hV73 : zV (ma_u m 108 ((l5 * (60 : Int32)) + l6).toNatClampNeg (-1 : Int32)) := ua_108 hV
            have b74 := i_bd l3
            have b75 := i_bd l4
            first | have e76 : (l6 + (1 : Int32)).toInt = l6.toInt + (1) := i_addk rfl (by omega) (by omega) | have b77 := i_bd (l6 + (1 : Int32))
            exact IH (61 - (l6 + (1 : Int32)).toInt).toNat (by omega) _ (l2) (l3) (l4) (l5) ((l6 + (1 : Int32))) rfl (zF_u hF rfl) hV73 (by omega) (by omega) (by omega) (by omega) (by omega) (by omega) (by omega) (by omega) (by omega) (by omega) (by omega) (show (m 94 10).toInt = 6 ∧ (m 94 58).toInt = 0 from by omega) (show (m 94 8).toInt = 1 from by omega) (show (m 94 46).toInt ≤ 511 from by omega) r_L2n r_L3r r_PLq (show (m 102 l5.toNatClampNeg).toInt = l2.toInt from by omega) r_USn r_GUp r_OW r_GG r_QIb (show qNs (m 99) (m 100) (m 98) (m 101) (m 102) (m 103) (m 107) ((ma_u m 108 ((l5 * (60 : Int32)) + l6).toNatClampNeg (-1 : Int32)) 108) (m 109) (m 111) (m 112) (m 113) (m 114) (m 94 55) (m 94 46) ro 0 0 0 1 (rGt aa (nn + (1 : Int32)) l4) l5.toNatClampNeg (m 94 46) kk nn l4 from by first | (exact NS_h r_NS (fun _ _ => rfl) (fun _ _ => rfl) (fun t ht hne i hi => (zrf_oth (ix_word (by omega) (by omega) (by omega) (by omega)) (by rw [tn_eq]; omega) (fun t ht => (ra_102 hV ht).2)) t i hne ht hi)) | (exfalso; omega; done) | (exfalso; contradiction; done)) r_MGz r_MKb r_WTz r_BTS r_N6 r_Q0 (show zWn (m 94 7) (m 98) (m 101) (m 102) ((ma_u m 108 ((l5 * (60 : Int32)) + l6).toNatClampNeg (-1 : Int32)) 108) l5.toNatClampNeg (l6 + (1 : Int32)).toNatClampNeg from by first | (exact Wn_put r_WN (zrf_oth (ix_word (by omega) (by omega) (by omega) (by omega)) (by rw [tn_eq]; omega) (fun t ht => (ra_102 hV ht).2)) (zrf_bef (ix_word (by omega) (by omega) (by omega) (by omega))) (zrf_m1 (ix_word (by omega) (by omega) (by omega) (by omega)) rfl) (tn_succ (by omega) (by omega))) | (exact Wn_put r_WN (zrf_oth (ix_word (by omega) (by omega) (by omega) (by omega)) (by rw [tn_eq]; omega) (fun t ht => (ra_102 hV ht).2)) (zrf_bef (ix_word (by omega) (by omega) (by omega) (by omega))) (zrf_nr rfl (by omega) (by assumption) (fun z => by first | exact absurd (Int32.lt_iff_toInt_lt.mp z.1) (by omega) | exact absurd z.2 (by assumption))) (tn_succ (by omega) (by omega))) | (exfalso; omega; done) | (exfalso; contradiction; done)) r_GW r_COs r_HOs r_WIs r_RVs r_RLb
          · skip
            have g78 := i_ne h65
            have li79 : (60 : Int32).toInt = 60 := rfl
            first | have e80 : (l5 * (60 : Int32)).toInt = l5.toInt * 60 := i_mulk rfl (by omega) (by omega) | have b81 := i_bd (l5 * (60 : Int32))
            first | have e82 : ((l5 * (60 : Int32)) + l6).toInt = (l5 * (60 : Int32)).toInt + l6.toInt := i_add (by omega) (by omega) | have b83 := i_bd ((l5 * (60 : Int32)) + l6)
            have hg84 : (0 ≤ ((l5 * (60 : Int32)) + l6) ∧ ((l5 * (60 : Int32)) + l6).toNatClampNeg < 186000) := i_ix (by omega) (by omega)
            refine ⟨hg84, ?_⟩
            try have e21 : (l2 + (1 : Int32)).toInt = l2.toInt + 1 := i_addk rfl (by omega) (by omega)
            have hV85 : zV (ma_u m 108 ((l5 * (60 : Int32)) + l6).toNatClampNeg (0 : Int32)) := ua_108 hV
            have b86 := i_bd l3
            have b87 := i_bd l4
            first | have e88 : (l6 + (1 : Int32)).toInt = l6.toInt + (1) := i_addk rfl (by omega) (by omega) | have b89 := i_bd (l6 + (1 : Int32))
            exact IH (61 - (l6 + (1 : Int32)).toInt).toNat (by omega) _ (l2) (l3) (l4) (l5) ((l6 + (1 : Int32))) rfl (zF_u hF rfl) hV85 (by omega) (by omega) (by omega) (by omega) (by omega) (by omega) (by omega) (by omega) (by omega) (by omega) (by omega) (show (m 94 10).toInt = 6 ∧ (m 94 58).toInt = 0 from by omega) (show (m 94 8).toInt = 1 from by omega) (show (m 94 46).toInt ≤ 511 from by omega) r_L2n r_L3r r_PLq (show (m 102 l5.toNatClampNeg).toInt = l2.toInt from by omega) r_USn r_GUp r_OW r_GG r_QIb (show qNs (m 99) (m 100) (m 98) (m 101) (m 102) (m 103) (m 107) ((ma_u m 108 ((l5 * (60 : Int32)) + l6).toNatClampNeg (0 : Int32)) 108) (m 109) (m 111) (m 112) (m 113) (m 114) (m 94 55) (m 94 46) ro 0 0 0 1 (rGt aa (nn + (1 : Int32)) l4) l5.toNatClampNeg (m 94 46) kk nn l4 from by first | (exact NS_h r_NS (fun _ _ => rfl) (fun _ _ => rfl) (fun t ht hne i hi => (zrf_oth (ix_word (by omega) (by omega) (by omega) (by omega)) (by rw [tn_eq]; omega) (fun t ht => (ra_102 hV ht).2)) t i hne ht hi)) | (exfalso; omega; done) | (exfalso; contradiction; done)) r_MGz r_MKb r_WTz r_BTS r_N6 r_Q0 (show zWn (m 94 7) (m 98) (m 101) (m 102) ((ma_u m 108 ((l5 * (60 : Int32)) + l6).toNatClampNeg (0 : Int32)) 108) l5.toNatClampNeg (l6 + (1 : Int32)).toNatClampNeg from by first | (exact Wn_put r_WN (zrf_oth (ix_word (by omega) (by omega) (by omega) (by omega)) (by rw [tn_eq]; omega) (fun t ht => (ra_102 hV ht).2)) (zrf_bef (ix_word (by omega) (by omega) (by omega) (by omega))) (zrf_m1 (ix_word (by omega) (by omega) (by omega) (by omega)) rfl) (tn_succ (by omega) (by omega))) | (exact Wn_put r_WN (zrf_oth (ix_word (by omega) (by omega) (by omega) (by omega)) (by rw [tn_eq]; omega) (fun t ht => (ra_102 hV ht).2)) (zrf_bef (ix_word (by omega) (by omega) (by omega) (by omega))) (zrf_nr rfl (by omega) (by assumption) (fun z => by first | exact absurd (Int32.lt_iff_toInt_lt.mp z.1) (by omega) | exact absurd z.2 (by assumption))) (tn_succ (by omega) (by omega))) | (exfalso; omega; done) | (exfalso; contradiction; done)) r_GW r_COs r_HOs r_WIs r_RVs r_RLb
set_option maxHeartbeats 8000000 in
theorem lp_183rz_123 {X : Nat × (Nat → Int32)} {P : Option ma_V → (Nat → Nat → Int32) → Prop} {T : Nat} {aa : Nat→Nat→Int32} {ro : Int32} {LL : Int64} {kk : Int32} {nn : Int32} {r1 : Int32} {m0 : Nat → Nat → Int32} (h0 : zV m0) (K : ∀ v m₉, zF wr_183 m0 m₉ → zV m₉ → (zW (m₉ 94 7) (m₉ 98) (m₉ 101) (m₉ 102) (m₉ 108)) → (zGW (T + 1) (m₉ 94 55) (m₉ 109)) → (zGU (T + 1) (m₉ 94 46) (m₉ 99)) → (zOw (m₉ 99) (m₉ 103) (m₉ 111)) → (zGG (m₉ 94 58) (m₉ 94 56) (m₉ 94 57) (m₉ 106)) → (qRB (m₉ 99) (m₉ 100) (m₉ 98) (m₉ 101) (m₉ 102) (m₉ 103) (m₉ 107) (m₉ 108) (m₉ 109) (m₉ 111) (m₉ 112) (m₉ 113) (m₉ 114) (m₉ 94 55) (m₉ 94 46) ro 0 0 0 1 (rMk aa kk nn LL r1)) → (qMG (m₉ 94 58) (m₉ 106) (m₉ 115) (m₉ 94 57) (m₉ 94 56) (m₉ 99) (m₉ 100) (rMk aa kk nn LL r1)) → ((rMk aa kk nn LL r1) 87 8 = (m₉ 94 58)) → ((m₉ 94 45).toInt = sm (zbU (m₉ 99)) (m₉ 102) 3100) → ((m₉ 94 58).toInt = 0) → (v = rMn aa nn) → (qRv (rMk aa kk nn LL r1)) → (qRL (rMk aa kk nn LL r1) (m₉ 94 18) (m₉ 94 64) (m₉ 94 19) (m₉ 94 63) (m₉ 116)) → P (some (.inl v)) m₉) : ∀ (n : Nat) (m : Nat → Nat → Int32) (l2 : Int32) (l3 : Int32) (l4 : Int32) (l5 : Int32), ((0 : Int)).toNat = n → zF wr_183 m0 m → zV m → (l2.toInt = nn.toInt) → (0 ≤ l2.toInt) → (l2.toInt ≤ 60) → (0 ≤ l3.toInt) → (l3.toInt ≤ 15) → (0 ≤ l4.toInt) → (l4.toInt ≤ 3000) → (0 ≤ l5.toInt) → (l5.toInt ≤ 3099) → (T + 1 ≤ 512) → ((m 94 10).toInt = 6 ∧ (m 94 58).toInt = 0) → ((m 94 8).toInt = 1) → ((m 94 46).toInt ≤ 511) → (l2 = nn) → (l3 = r1) → (qEq l4.toInt (rRp aa (nn + (1 : Int32)).toInt)) → ((m 102 l5.toNatClampNeg).toInt = l2.toInt) → ((m 99) l5.toNatClampNeg ≠ 0) → (zGUp T (m 94 46) (m 99)) → (zOw (m 99) (m 103) (m 111)) → (zGG (m 94 58) (m 94 56) (m 94 57) (m 106)) → (qI (rGt aa (nn + (1 : Int32)) l4)) → (qNs (m 99) (m 100) (m 98) (m 101) (m 102) (m 103) (m 107) (m 108) (m 109) (m 111) (m 112) (m 113) (m 114) (m 94 55) (m 94 46) ro 0 0 0 1 (rGt aa (nn + (1 : Int32)) l4) l5.toNatClampNeg (m 94 46) kk nn l4) → (qMG (m 94 58) (m 106) (m 115) (m 94 57) (m 94 56) (zmk (m 99) l5.toNatClampNeg) (m 100) (rGt aa (nn + (1 : Int32)) l4)) → ((rGt aa (nn + (1 : Int32)) l4) 87 8 = (m 94 58)) → ((m 94 45).toInt = sm (zbU (zmk (m 99) l5.toNatClampNeg)) (m 102) 3100) → (∀ j : Nat, (j : Int) < nn.toInt → (zbit LL (Int32.ofNat j) ≠ 0 ↔ (kk = 16 ∨ (kk < 16 ∧ (((m 98) kk.toNatClampNeg >>> (Int32.ofNat j &&& 31)) &&& 1) = 1)))) → ((aa 69 6).toInt < 512) → (aa 87 2 = 0) → (zWn (m 94 7) (m 98) (m 101) (m 102) (m 108) l5.toNatClampNeg (0 : Int32).toNatClampNeg) → (zGW T (m 94 55) (m 109)) → (qCo (m 94 58) (m 106) l5.toNatClampNeg) → (qRv (rRs aa (nn + (1 : Int32)).toInt)) → (qRL (rGt aa (nn + (1 : Int32)) l4) (m 94 18) (m 94 64) (m 94 19) (m 94 63) (m 116)) → zm X 9 198 183 123 [(0, .inr (.inr (some 94))), (2, .inl l2), (3, .inl l3), (4, .inl l4), (5, .inl l5)] m P := by
  intro n
  induction n using Nat.strongRecOn with
  | _ n IH =>
    intro m l2 l3 l4 l5 hmu hF hV hi0 hi1 hi2 hi3 hi4 hi5 hi6 hi7 hi8 hi9 hi10 hi11 hi12 r_L2n r_L3r r_PLq hi16 r_USn r_GUp r_OW r_GG r_QIb r_NS r_MGz r_MKb r_WTz r_BTS r_N6 r_Q0 r_WN r_GW r_COs r_RVs r_RLb
    refine g_183_123 l2 l3 l4 l5 ?_
    have f1 : 0 ≤ (m 94 10).toInt ∧ (m 94 10).toInt ≤ 6 := rs_94_10 (m := m) hV
    have f2 : 0 ≤ (m 94 58).toInt ∧ (m 94 58).toInt ≤ 1 := rs_94_58 (m := m) hV
    have f3 : 0 ≤ (m 94 8).toInt ∧ (m 94 8).toInt ≤ 1 := rs_94_8 (m := m) hV
    have f4 : 0 ≤ (m 94 46).toInt ∧ (m 94 46).toInt ≤ 100000 := rs_94_46 (m := m) hV
    have b5 := i_bd l5
    first | have f6 : 0 ≤ (m 102 l5.toNatClampNeg).toInt ∧ (m 102 l5.toNatClampNeg).toInt ≤ 60 := ra_102 (m := m) hV (k := l5.toNatClampNeg) (i_ix (n := 3100) (by omega) (by omega)).2 | have b7 := i_bd (m 102 l5.toNatClampNeg)
    have hg8 : (0 ≤ l5 ∧ l5.toNatClampNeg < 3100) := i_ix (by omega) (by omega)
    refine ⟨hg8, ?_⟩
    have hg9 : (0 ≤ l5 ∧ l5.toNatClampNeg < 3100) := i_ix (by omega) (by omega)
    refine ⟨hg9, ?_⟩
    try have e21 : (l2 + (1 : Int32)).toInt = l2.toInt + 1 := i_addk rfl (by omega) (by omega)
    have hV10 : zV (ma_u m 107 l5.toNatClampNeg (0 : Int32)) := ua_107 hV
    have li12 : (0 : Int32).toInt = 0 := rfl
    have hV11 : zV (ma_u (ma_u m 107 l5.toNatClampNeg (0 : Int32)) 109 l5.toNatClampNeg (0 : Int32)) := ua_109 hV10 (by omega) (by omega)
    have b13 := i_bd l2
    have b14 := i_bd l3
    have b15 := i_bd l4
    exact lp_183rz_142 (kk := kk) (nn := nn) (r1 := r1) h0 K _ _ (l2) (l3) (l4) (l5) ((0 : Int32)) rfl (zF_u (zF_u hF rfl) rfl) hV11 (by omega) (by omega) (by omega) (by omega) (by omega) (by omega) (by omega) (by omega) (by omega) (by omega) (by omega) (show (m 94 10).toInt = 6 ∧ (m 94 58).toInt = 0 from by omega) (show (m 94 8).toInt = 1 from by omega) (show (m 94 46).toInt ≤ 511 from by omega) r_L2n r_L3r r_PLq (show (m 102 l5.toNatClampNeg).toInt = l2.toInt from by omega) r_USn r_GUp r_OW r_GG r_QIb (show qNs (m 99) (m 100) (m 98) (m 101) (m 102) (m 103) ((ma_u m 107 l5.toNatClampNeg (0 : Int32)) 107) (m 108) ((ma_u m 109 l5.toNatClampNeg (0 : Int32)) 109) (m 111) (m 112) (m 113) (m 114) (m 94 55) (m 94 46) ro 0 0 0 1 (rGt aa (nn + (1 : Int32)) l4) l5.toNatClampNeg (m 94 46) kk nn l4 from by first | (exact NS_h r_NS (fun t ht => mu_ne ht) (fun t ht => mu_ne ht) (fun _ _ _ _ _ => rfl)) | (exfalso; omega; done) | (exfalso; contradiction; done)) r_MGz r_MKb r_WTz r_BTS r_N6 r_Q0 r_WN (show zGW (T + 1) (m 94 55) ((ma_u m 109 l5.toNatClampNeg (0 : Int32)) 109) from by first | (exact GW_up (GW_0 r_GW) (by omega)) | (exfalso; omega; done) | (exfalso; contradiction; done)) r_COs (show ((ma_u m 107 l5.toNatClampNeg (0 : Int32)) 107) l5.toNatClampNeg = 0 from by first | (exact mu_self) | (exfalso; omega; done) | (exfalso; contradiction; done)) (show ((ma_u m 109 l5.toNatClampNeg (0 : Int32)) 109) l5.toNatClampNeg = 0 from by first | (exact mu_self) | (exfalso; omega; done) | (exfalso; contradiction; done)) r_RVs r_RLb
set_option maxHeartbeats 8000000 in
theorem lp_183rz_88 {X : Nat × (Nat → Int32)} {P : Option ma_V → (Nat → Nat → Int32) → Prop} {T : Nat} {aa : Nat→Nat→Int32} {ro : Int32} {LL : Int64} {kk : Int32} {nn : Int32} {r1 : Int32} {m0 : Nat → Nat → Int32} (h0 : zV m0) (K : ∀ v m₉, zF wr_183 m0 m₉ → zV m₉ → (zW (m₉ 94 7) (m₉ 98) (m₉ 101) (m₉ 102) (m₉ 108)) → (zGW (T + 1) (m₉ 94 55) (m₉ 109)) → (zGU (T + 1) (m₉ 94 46) (m₉ 99)) → (zOw (m₉ 99) (m₉ 103) (m₉ 111)) → (zGG (m₉ 94 58) (m₉ 94 56) (m₉ 94 57) (m₉ 106)) → (qRB (m₉ 99) (m₉ 100) (m₉ 98) (m₉ 101) (m₉ 102) (m₉ 103) (m₉ 107) (m₉ 108) (m₉ 109) (m₉ 111) (m₉ 112) (m₉ 113) (m₉ 114) (m₉ 94 55) (m₉ 94 46) ro 0 0 0 1 (rMk aa kk nn LL r1)) → (qMG (m₉ 94 58) (m₉ 106) (m₉ 115) (m₉ 94 57) (m₉ 94 56) (m₉ 99) (m₉ 100) (rMk aa kk nn LL r1)) → ((rMk aa kk nn LL r1) 87 8 = (m₉ 94 58)) → ((m₉ 94 45).toInt = sm (zbU (m₉ 99)) (m₉ 102) 3100) → ((m₉ 94 58).toInt = 0) → (v = rMn aa nn) → (qRv (rMk aa kk nn LL r1)) → (qRL (rMk aa kk nn LL r1) (m₉ 94 18) (m₉ 94 64) (m₉ 94 19) (m₉ 94 63) (m₉ 116)) → P (some (.inl v)) m₉) : ∀ (n : Nat) (m : Nat → Nat → Int32) (l2 : Int32) (l3 : Int32) (l4 : Int32) (l5 : Int32), ((0 : Int)).toNat = n → zF wr_183 m0 m → zV m → (l2.toInt = nn.toInt) → (0 ≤ l2.toInt) → (l2.toInt ≤ 60) → (0 ≤ l3.toInt) → (l3.toInt ≤ 15) → (0 ≤ l4.toInt) → (l4.toInt ≤ 3000) → (0 ≤ l5.toInt) → (l5.toInt ≤ 3099) → (T + 1 ≤ 512) → ((m 94 10).toInt = 6 ∧ (m 94 58).toInt = 0) → ((m 94 8).toInt = 1) → ((m 94 46).toInt ≤ 511) → (l2 = nn) → (l3 = r1) → (qEq l4.toInt (rRp aa (nn + (1 : Int32)).toInt)) → ((m 102 l5.toNatClampNeg).toInt = l2.toInt) → ((m 99) l5.toNatClampNeg ≠ 0) → (zGUp T (m 94 46) (m 99)) → (zOw (m 99) (m 103) (m 111)) → (zGG (m 94 58) (m 94 56) (m 94 57) (m 106)) → (qI (rGt aa (nn + (1 : Int32)) l4)) → (qNs (m 99) (m 100) (m 98) (m 101) (m 102) (m 103) (m 107) (m 108) (m 109) (m 111) (m 112) (m 113) (m 114) (m 94 55) (m 94 46) ro 0 0 0 1 (rGt aa (nn + (1 : Int32)) l4) l5.toNatClampNeg (m 94 46) kk nn l4) → (qMG (m 94 58) (m 106) (m 115) (m 94 57) (m 94 56) (zmk (m 99) l5.toNatClampNeg) (m 100) (rGt aa (nn + (1 : Int32)) l4)) → ((rGt aa (nn + (1 : Int32)) l4) 87 8 = (m 94 58)) → ((m 94 45).toInt = sm (zbU (zmk (m 99) l5.toNatClampNeg)) (m 102) 3100) → (∀ j : Nat, (j : Int) < nn.toInt → (zbit LL (Int32.ofNat j) ≠ 0 ↔ (kk = 16 ∨ (kk < 16 ∧ (((m 98) kk.toNatClampNeg >>> (Int32.ofNat j &&& 31)) &&& 1) = 1)))) → ((aa 69 6).toInt < 512) → (aa 87 2 = 0) → (zWn (m 94 7) (m 98) (m 101) (m 102) (m 108) l5.toNatClampNeg (0 : Int32).toNatClampNeg) → (zGW T (m 94 55) (m 109)) → (qRv (rRs aa (nn + (1 : Int32)).toInt)) → (qRL (rGt aa (nn + (1 : Int32)) l4) (m 94 18) (m 94 64) (m 94 19) (m 94 63) (m 116)) → zm X 9 198 183 88 [(0, .inr (.inr (some 94))), (2, .inl l2), (3, .inl l3), (4, .inl l4), (5, .inl l5)] m P := by
  intro n
  induction n using Nat.strongRecOn with
  | _ n IH =>
    intro m l2 l3 l4 l5 hmu hF hV hi0 hi1 hi2 hi3 hi4 hi5 hi6 hi7 hi8 hi9 hi10 hi11 hi12 r_L2n r_L3r r_PLq hi16 r_USn r_GUp r_OW r_GG r_QIb r_NS r_MGz r_MKb r_WTz r_BTS r_N6 r_Q0 r_WN r_GW r_RVs r_RLb
    refine g_183_88 l2 l3 l4 l5 ?_
    have f1 : 0 ≤ (m 94 10).toInt ∧ (m 94 10).toInt ≤ 6 := rs_94_10 (m := m) hV
    have f2 : 0 ≤ (m 94 58).toInt ∧ (m 94 58).toInt ≤ 1 := rs_94_58 (m := m) hV
    have f3 : 0 ≤ (m 94 8).toInt ∧ (m 94 8).toInt ≤ 1 := rs_94_8 (m := m) hV
    have f4 : 0 ≤ (m 94 46).toInt ∧ (m 94 46).toInt ≤ 100000 := rs_94_46 (m := m) hV
    have b5 := i_bd l5
    first | have f6 : 0 ≤ (m 102 l5.toNatClampNeg).toInt ∧ (m 102 l5.toNatClampNeg).toInt ≤ 60 := ra_102 (m := m) hV (k := l5.toNatClampNeg) (i_ix (n := 3100) (by omega) (by omega)).2 | have b7 := i_bd (m 102 l5.toNatClampNeg)
    have hg8 : (0 ≤ l5 ∧ l5.toNatClampNeg < 3100) := i_ix (by omega) (by omega)
    refine ⟨hg8, ?_⟩
    have hg9 : (0 ≤ l5 ∧ l5.toNatClampNeg < 3100) := i_ix (by omega) (by omega)
    refine ⟨hg9, ?_⟩
    have li10 : (0 : Int32).toInt = 0 := rfl
    refine zd (fun (h11 : (m 94 58) = (0 : Int32)) => ?_) (fun (h11 : ¬ (m 94 58) = (0 : Int32)) => ?_)
    · skip
      have g12 := i_eq h11
      have hg13 : (0 ≤ l5 ∧ l5.toNatClampNeg < 3100) := i_ix (by omega) (by omega)
      refine ⟨hg13, ?_⟩
      try have e21 : (l2 + (1 : Int32)).toInt = l2.toInt + 1 := i_addk rfl (by omega) (by omega)
      have hV14 : zV (ma_u m 104 l5.toNatClampNeg (0 : Int32)) := ua_104 hV
      have hV15 : zV (ma_u (ma_u m 104 l5.toNatClampNeg (0 : Int32)) 105 l5.toNatClampNeg (0 : Int32)) := ua_105 hV14
      have hV16 : zV (ma_u (ma_u (ma_u m 104 l5.toNatClampNeg (0 : Int32)) 105 l5.toNatClampNeg (0 : Int32)) 106 l5.toNatClampNeg (0 : Int32)) := ua_106 hV15
      have b17 := i_bd l2
      have b18 := i_bd l3
      have b19 := i_bd l4
      exact lp_183rz_123 (kk := kk) (nn := nn) (r1 := r1) h0 K _ _ (l2) (l3) (l4) (l5) rfl (zF_u (zF_u (zF_u hF rfl) rfl) rfl) hV16 (by omega) (by omega) (by omega) (by omega) (by omega) (by omega) (by omega) (by omega) (by omega) (by omega) (show (m 94 10).toInt = 6 ∧ (m 94 58).toInt = 0 from by omega) (show (m 94 8).toInt = 1 from by omega) (show (m 94 46).toInt ≤ 511 from by omega) r_L2n r_L3r r_PLq (show (m 102 l5.toNatClampNeg).toInt = l2.toInt from by omega) r_USn r_GUp r_OW (show zGG (m 94 58) (m 94 56) (m 94 57) ((ma_u m 106 l5.toNatClampNeg (0 : Int32)) 106) from by first | (exact fun z => G1_dark0 (r_GG z) (by decide)) | (exact fun z => absurd z (by omega)) | (exact fun z => absurd z (by decide)) | (exact fun z => absurd z (by omega)) | (exfalso; omega; done) | (exfalso; contradiction; done)) r_QIb r_NS (show qMG (m 94 58) ((ma_u m 106 l5.toNatClampNeg (0 : Int32)) 106) (m 115) (m 94 57) (m 94 56) (zmk (m 99) l5.toNatClampNeg) (m 100) (rGt aa (nn + (1 : Int32)) l4) from by first | (exact MG_1 r_MGz (fun t ht => mu_ne ht)) | (exfalso; omega; done) | (exfalso; contradiction; done)) r_MKb r_WTz r_BTS r_N6 r_Q0 r_WN r_GW (show qCo (m 94 58) ((ma_u m 106 l5.toNatClampNeg (0 : Int32)) 106) l5.toNatClampNeg from by first | (exact fun z => absurd (by omega) z) | (exact fun _ => mu_self) | (exfalso; omega; done) | (exfalso; contradiction; done)) r_RVs r_RLb
    · skip
      have g20 := i_ne h11
      have hg21 : (0 ≤ l5 ∧ l5.toNatClampNeg < 3100) := i_ix (by omega) (by omega)
      refine ⟨hg21, ?_⟩
      try have e21 : (l2 + (1 : Int32)).toInt = l2.toInt + 1 := i_addk rfl (by omega) (by omega)
      have hV22 : zV (ma_u m 104 l5.toNatClampNeg (0 : Int32)) := ua_104 hV
      have hV23 : zV (ma_u (ma_u m 104 l5.toNatClampNeg (0 : Int32)) 105 l5.toNatClampNeg (0 : Int32)) := ua_105 hV22
      have hV24 : zV (ma_u (ma_u (ma_u m 104 l5.toNatClampNeg (0 : Int32)) 105 l5.toNatClampNeg (0 : Int32)) 106 l5.toNatClampNeg (2 : Int32)) := ua_106 hV23
      have b25 := i_bd l2
      have b26 := i_bd l3
      have b27 := i_bd l4
      exact lp_183rz_123 (kk := kk) (nn := nn) (r1 := r1) h0 K _ _ (l2) (l3) (l4) (l5) rfl (zF_u (zF_u (zF_u hF rfl) rfl) rfl) hV24 (by omega) (by omega) (by omega) (by omega) (by omega) (by omega) (by omega) (by omega) (by omega) (by omega) (show (m 94 10).toInt = 6 ∧ (m 94 58).toInt = 0 from by omega) (show (m 94 8).toInt = 1 from by omega) (show (m 94 46).toInt ≤ 511 from by omega) r_L2n r_L3r r_PLq (show (m 102 l5.toNatClampNeg).toInt = l2.toInt from by omega) r_USn r_GUp r_OW (show zGG (m 94 58) (m 94 56) (m 94 57) ((ma_u m 106 l5.toNatClampNeg (2 : Int32)) 106) from by first | (exact fun z => G1_dark0 (r_GG z) (by decide)) | (exact fun z => absurd z (by omega)) | (exact fun z => absurd z (by decide)) | (exact fun z => absurd z (by omega)) | (exfalso; omega; done) | (exfalso; contradiction; done)) r_QIb r_NS (show qMG (m 94 58) ((ma_u m 106 l5.toNatClampNeg (2 : Int32)) 106) (m 115) (m 94 57) (m 94 56) (zmk (m 99) l5.toNatClampNeg) (m 100) (rGt aa (nn + (1 : Int32)) l4) from by first | (exact MG_1 r_MGz (fun t ht => mu_ne ht)) | (exfalso; omega; done) | (exfalso; contradiction; done)) r_MKb r_WTz r_BTS r_N6 r_Q0 r_WN r_GW (show qCo (m 94 58) ((ma_u m 106 l5.toNatClampNeg (2 : Int32)) 106) l5.toNatClampNeg from by first | (exact fun z => absurd (by omega) z) | (exact fun _ => mu_self) | (exfalso; omega; done) | (exfalso; contradiction; done)) r_RVs r_RLb
set_option maxHeartbeats 8000000 in
theorem lp_183rz_19 {X : Nat × (Nat → Int32)} {P : Option ma_V → (Nat → Nat → Int32) → Prop} {T : Nat} {aa : Nat→Nat→Int32} {ro : Int32} {LL : Int64} {kk : Int32} {nn : Int32} {r1 : Int32} {m0 : Nat → Nat → Int32} (h0 : zV m0) (K : ∀ v m₉, zF wr_183 m0 m₉ → zV m₉ → (zW (m₉ 94 7) (m₉ 98) (m₉ 101) (m₉ 102) (m₉ 108)) → (zGW (T + 1) (m₉ 94 55) (m₉ 109)) → (zGU (T + 1) (m₉ 94 46) (m₉ 99)) → (zOw (m₉ 99) (m₉ 103) (m₉ 111)) → (zGG (m₉ 94 58) (m₉ 94 56) (m₉ 94 57) (m₉ 106)) → (qRB (m₉ 99) (m₉ 100) (m₉ 98) (m₉ 101) (m₉ 102) (m₉ 103) (m₉ 107) (m₉ 108) (m₉ 109) (m₉ 111) (m₉ 112) (m₉ 113) (m₉ 114) (m₉ 94 55) (m₉ 94 46) ro 0 0 0 1 (rMk aa kk nn LL r1)) → (qMG (m₉ 94 58) (m₉ 106) (m₉ 115) (m₉ 94 57) (m₉ 94 56) (m₉ 99) (m₉ 100) (rMk aa kk nn LL r1)) → ((rMk aa kk nn LL r1) 87 8 = (m₉ 94 58)) → ((m₉ 94 45).toInt = sm (zbU (m₉ 99)) (m₉ 102) 3100) → ((m₉ 94 58).toInt = 0) → (v = rMn aa nn) → (qRv (rMk aa kk nn LL r1)) → (qRL (rMk aa kk nn LL r1) (m₉ 94 18) (m₉ 94 64) (m₉ 94 19) (m₉ 94 63) (m₉ 116)) → P (some (.inl v)) m₉) : ∀ (n : Nat) (m : Nat → Nat → Int32) (l1 : Int32) (l2 : Int32) (l3 : Int32) (l4 : Int32) (l5 : Int32), (3100 - l5.toInt).toNat = n → zF wr_183 m0 m → zV m → (l2.toInt = nn.toInt) → (0 ≤ l5.toInt) → (l5.toInt ≤ 3100) → (0 ≤ l4.toInt) → (l4.toInt ≤ 3000) → (0 ≤ l2.toInt) → (l2.toInt ≤ 60) → (0 ≤ l3.toInt) → (l3.toInt ≤ 15) → (0 ≤ l1.toInt) → (l1.toInt ≤ 17) → (T + 1 ≤ 512) → (16 ≤ l1.toInt ∨ l1.toInt < (m 94 7).toInt) → (zW (m 94 7) (m 98) (m 101) (m 102) (m 108)) → (zGW T (m 94 55) (m 109)) → (zGU T (m 94 46) (m 99)) → (zOw (m 99) (m 103) (m 111)) → (zGG (m 94 58) (m 94 56) (m 94 57) (m 106)) → ((m 94 10).toInt = 6 ∧ (m 94 58).toInt = 0) → ((m 94 8).toInt = 1) → (qRB (m 99) (m 100) (m 98) (m 101) (m 102) (m 103) (m 107) (m 108) (m 109) (m 111) (m 112) (m 113) (m 114) (m 94 55) (m 94 46) ro 0 0 0 1 (rGt aa (nn + (1 : Int32)) l4)) → (qI (rGt aa (nn + (1 : Int32)) l4)) → (qMG (m 94 58) (m 106) (m 115) (m 94 57) (m 94 56) (m 99) (m 100) (rGt aa (nn + (1 : Int32)) l4)) → ((rGt aa (nn + (1 : Int32)) l4) 87 8 = (m 94 58)) → ((m 94 45).toInt = sm (zbU (m 99)) (m 102) 3100) → (∀ j : Nat, (j : Int) < l5.toInt → (m 99) j ≠ 0) → (l1 = kk) → (l2 = nn) → (l3 = r1) → (qEq l4.toInt (rRp aa (nn + (1 : Int32)).toInt)) → (∀ j : Nat, (j : Int) < nn.toInt → (zbit LL (Int32.ofNat j) ≠ 0 ↔ (kk = 16 ∨ (kk < 16 ∧ (((m 98) kk.toNatClampNeg >>> (Int32.ofNat j &&& 31)) &&& 1) = 1)))) → ((aa 69 6).toInt < 512) → (aa 87 2 = 0) → (qRv (rRs aa (nn + (1 : Int32)).toInt)) → (qRL (rGt aa (nn + (1 : Int32)) l4) (m 94 18) (m 94 64) (m 94 19) (m 94 63) (m 116)) → zm X 9 198 183 19 [(0, .inr (.inr (some 94))), (1, .inl l1), (2, .inl l2), (3, .inl l3), (4, .inl l4), (5, .inl l5)] m P := by
  intro n
  induction n using Nat.strongRecOn with
  | _ n IH =>
    intro m l1 l2 l3 l4 l5 hmu hF hV hi0 hi1 hi2 hi3 hi4 hi5 hi6 hi7 hi8 hi9 hi10 hi11 hi12 r_W r_GW r_GU r_OW r_GG hi18 hi19 r_RB r_QI r_MG r_MK r_WTS r_AU r_L1k r_L2n r_L3r r_PLq r_BTS r_N6 r_Q0 r_RVs r_RLb
    refine g_183_19 l1 l2 l3 l4 l5 ?_
    have f1 : 0 ≤ (m 94 7).toInt ∧ (m 94 7).toInt ≤ 16 := rs_94_7 (m := m) hV
    have f2 : 0 ≤ (m 94 10).toInt ∧ (m 94 10).toInt ≤ 6 := rs_94_10 (m := m) hV
    have f3 : 0 ≤ (m 94 58).toInt ∧ (m 94 58).toInt ≤ 1 := rs_94_58 (m := m) hV
    have f4 : 0 ≤ (m 94 8).toInt ∧ (m 94 8).toInt ≤ 1 := rs_94_8 (m := m) hV
    have b5 := i_bd l5
    try have gk := AU_room r_AU r_GU (by omega)
    have hg6 : (0 ≤ l5 ∧ l5.toNatClampNeg < 3100) := i_ix (by omega) (by omega)
    refine ⟨hg6, ?_⟩
    first | have f7 : 0 ≤ (m 99 l5.toNatClampNeg).toInt ∧ (m 99 l5.toNatClampNeg).toInt ≤ 1 := ra_99 (m := m) hV (k := l5.toNatClampNeg) (i_ix (n := 3100) (by omega) (by omega)).2 | have b8 := i_bd (m 99 l5.toNatClampNeg)
    have li9 : (0 : Int32).toInt = 0 := rfl
    refine zd (fun (h10 : (m 99 l5.toNatClampNeg) = (0 : Int32)) => ?_) (fun (h10 : ¬ (m 99 l5.toNatClampNeg) = (0 : Int32)) => ?_)
    · skip
      have g11 := i_eq h10
      try have gk := AU_room r_AU r_GU (by omega)
      have hg12 : (0 ≤ l5 ∧ l5.toNatClampNeg < 3100) := i_ix (by omega) (by omega)
      refine ⟨hg12, ?_⟩
      have hg13 : (0 ≤ l5 ∧ l5.toNatClampNeg < 3100) := i_ix (by omega) (by omega)
      refine ⟨hg13, ?_⟩
      have hg14 : (0 ≤ l5 ∧ l5.toNatClampNeg < 3100) := i_ix (by omega) (by omega)
      refine ⟨hg14, ?_⟩
      have hg15 : (0 ≤ l5 ∧ l5.toNatClampNeg < 3100) := i_ix (by omega) (by omega)
      refine ⟨hg15, ?_⟩
      have hg16 : (0 ≤ l5 ∧ l5.toNatClampNeg < 3100) := i_ix (by omega) (by omega)
      refine ⟨hg16, ?_⟩
      have b17 := i_bd l4
      have hg18 : (0 ≤ l4 ∧ l4.toNatClampNeg < 4600) := i_ix (by omega) (by omega)
      refine ⟨hg18, ?_⟩
      try have gk := AU_room r_AU r_GU (by omega)
      try have e21 : (l2 + (1 : Int32)).toInt = l2.toInt + 1 := i_addk rfl (by omega) (by omega)
      try have gun := GU_nu r_GU
      have li20 : (1 : Int32).toInt = 1 := rfl
      have hV19 : zV (ma_u m 99 l5.toNatClampNeg (1 : Int32)) := ua_99 hV (by omega) (by omega)
      have f22 : 0 ≤ (m 94 46).toInt ∧ (m 94 46).toInt ≤ 100000 := rs_94_46 (m := m) hV
      have hV21 : zV (ma_u (ma_u m 99 l5.toNatClampNeg (1 : Int32)) 100 l5.toNatClampNeg (m 94 46)) := ua_100 hV19 (by omega) (by omega)
      have b24 := i_bd l1
      have hV23 : zV (ma_u (ma_u (ma_u m 99 l5.toNatClampNeg (1 : Int32)) 100 l5.toNatClampNeg (m 94 46)) 101 l5.toNatClampNeg l1) := ua_101 hV21 (by omega) (by omega)
      have b26 := i_bd l2
      have hV25 : zV (ma_u (ma_u (ma_u (ma_u m 99 l5.toNatClampNeg (1 : Int32)) 100 l5.toNatClampNeg (m 94 46)) 101 l5.toNatClampNeg l1) 102 l5.toNatClampNeg l2) := ua_102 hV23 (by omega) (by omega)
      have hV27 : zV (ma_u (ma_u (ma_u (ma_u (ma_u m 99 l5.toNatClampNeg (1 : Int32)) 100 l5.toNatClampNeg (m 94 46)) 101 l5.toNatClampNeg l1) 102 l5.toNatClampNeg l2) 103 l5.toNatClampNeg l4) := ua_103 hV25 (by omega) (by omega)
      have hV28 : zV (ma_u (ma_u (ma_u (ma_u (ma_u (ma_u m 99 l5.toNatClampNeg (1 : Int32)) 100 l5.toNatClampNeg (m 94 46)) 101 l5.toNatClampNeg l1) 102 l5.toNatClampNeg l2) 103 l5.toNatClampNeg l4) 111 l4.toNatClampNeg l5) := ua_111 hV27 (by omega) (by omega)
      have b29 := i_bd l3
      have q30 : ((ma_u m 102 l5.toNatClampNeg l2) 102 l5.toNatClampNeg).toInt = l2.toInt := congrArg Int32.toInt mu_self
      first | have f31 : 0 ≤ ((ma_u m 102 l5.toNatClampNeg l2) 102 l5.toNatClampNeg).toInt ∧ ((ma_u m 102 l5.toNatClampNeg l2) 102 l5.toNatClampNeg).toInt ≤ 60 := ra_102 (m := (ma_u (ma_u (ma_u (ma_u m 99 l5.toNatClampNeg (1 : Int32)) 100 l5.toNatClampNeg (m 94 46)) 101 l5.toNatClampNeg l1) 102 l5.toNatClampNeg l2)) hV25 (k := l5.toNatClampNeg) (i_ix (n := 3100) (by omega) (by omega)).2 | have b32 := i_bd ((ma_u m 102 l5.toNatClampNeg l2) 102 l5.toNatClampNeg)
      exact lp_183rz_88 (kk := kk) (nn := nn) (r1 := r1) h0 K _ _ (l2) (l3) (l4) (l5) rfl (zF_u (zF_u (zF_u (zF_u (zF_u (zF_u hF rfl) rfl) rfl) rfl) rfl) rfl) hV28 (by omega) (by omega) (by omega) (by omega) (by omega) (by omega) (by omega) (by omega) (by omega) (by omega) (show (m 94 10).toInt = 6 ∧ (m 94 58).toInt = 0 from by omega) (show (m 94 8).toInt = 1 from by omega) (show (m 94 46).toInt ≤ 511 from by omega) r_L2n r_L3r r_PLq (show ((ma_u m 102 l5.toNatClampNeg l2) 102 l5.toNatClampNeg).toInt = l2.toInt from by omega) (show ((ma_u m 99 l5.toNatClampNeg (1 : Int32)) 99) l5.toNatClampNeg ≠ 0 from by first | (rw [mu_self]; decide; done) | (exfalso; omega; done) | (exfalso; contradiction; done)) (show zGUp T (m 94 46) ((ma_u m 99 l5.toNatClampNeg (1 : Int32)) 99) from by first | (exact GUp_0 r_GU (by omega)) | (exfalso; omega; done) | (exfalso; contradiction; done)) (show zOw ((ma_u m 99 l5.toNatClampNeg (1 : Int32)) 99) ((ma_u m 103 l5.toNatClampNeg l4) 103) ((ma_u m 111 l4.toNatClampNeg l5) 111) from by first | (exact Ow_new r_OW (by assumption) (fun t ht => mu_ne ht) (by rw [mu_self]; decide) (fun t ht => mu_ne ht) mu_self (by omega) (fun t ht => mu_ne ht) (by rw [mu_self])) | (exact Ow_rm r_OW (by decide) (tn_cast (by omega)).symm) | (exfalso; omega; done) | (exfalso; contradiction; done)) r_GG (show qI (rGt aa (nn + (1 : Int32)) l4) from by first | (exact r_QI) | (exfalso; omega; done) | (exfalso; contradiction; done)) (show qNs ((ma_u m 99 l5.toNatClampNeg (1 : Int32)) 99) ((ma_u m 100 l5.toNatClampNeg (m 94 46)) 100) (m 98) ((ma_u m 101 l5.toNatClampNeg l1) 101) ((ma_u m 102 l5.toNatClampNeg l2) 102) ((ma_u m 103 l5.toNatClampNeg l4) 103) (m 107) (m 108) (m 109) ((ma_u m 111 l4.toNatClampNeg l5) 111) (m 112) (m 113) (m 114) (m 94 55) (m 94 46) ro 0 0 0 1 (rGt aa (nn + (1 : Int32)) l4) l5.toNatClampNeg (m 94 46) kk nn l4 from by first | (exact NS_0 r_RB r_QI (z := nn.toInt + 1) (by omega) (Ne_r r_RVs r_PLq (by omega) (by omega) (by omega) r_RB.2.2.2.2.2.2.2.1 (by have gun := GU_nu r_GU; omega)).2.2.2.2 (by assumption) (by rw [mu_self]; decide) (fun t ht => mu_ne ht) mu_self (fun t ht => mu_ne ht) (mu_self.trans r_L1k) (fun t ht => mu_ne ht) (mu_self.trans r_L2n) (fun t ht => mu_ne ht) mu_self (fun t ht => mu_ne ht) (mu_self.trans (ofN_tn (by omega)).symm) (fun t ht => mu_ne ht)) | (exfalso; omega; done) | (exfalso; contradiction; done)) (show qMG (m 94 58) (m 106) (m 115) (m 94 57) (m 94 56) (zmk ((ma_u m 99 l5.toNatClampNeg (1 : Int32)) 99) l5.toNatClampNeg) ((ma_u m 100 l5.toNatClampNeg (m 94 46)) 100) (rGt aa (nn + (1 : Int32)) l4) from by first | (exact MG_0 r_MG (by assumption) (fun t ht => mu_ne ht) (fun t ht => mu_ne ht) (fun _ _ => rfl)) | (exfalso; omega; done) | (exfalso; contradiction; done)) (show (rGt aa (nn + (1 : Int32)) l4) 87 8 = (m 94 58) from by first | (exact r_MK) | (exfalso; omega; done) | (exfalso; contradiction; done)) (show (m 94 45).toInt = sm (zbU (zmk ((ma_u m 99 l5.toNatClampNeg (1 : Int32)) 99) l5.toNatClampNeg)) ((ma_u m 102 l5.toNatClampNeg l2) 102) 3100 from by first | (exact WT_0 r_WTS (by assumption) (fun t ht => mu_ne ht) (fun t ht => mu_ne ht)) | (exfalso; omega; done) | (exfalso; contradiction; done)) r_BTS r_N6 r_Q0 (show zWn (m 94 7) (m 98) ((ma_u m 101 l5.toNatClampNeg l1) 101) ((ma_u m 102 l5.toNatClampNeg l2) 102) (m 108) l5.toNatClampNeg (0 : Int32).toNatClampNeg from by first | (exact Wn_0 r_W (fun t ht => mu_ne ht) (fun t ht => mu_ne ht) (by rw [mu_self]; assumption) rfl) | (exfalso; omega; done) | (exfalso; contradiction; done)) r_GW r_RVs r_RLb
    · skip
      have g33 := i_ne h10
      try have gk := AU_room r_AU r_GU (by omega)
      try have e21 : (l2 + (1 : Int32)).toInt = l2.toInt + 1 := i_addk rfl (by omega) (by omega)
      try have gun := GU_nu r_GU
      have b34 := i_bd l1
      have b35 := i_bd l2
      have b36 := i_bd l3
      have b37 := i_bd l4
      first | have e38 : (l5 + (1 : Int32)).toInt = l5.toInt + (1) := i_addk rfl (by omega) (by omega) | have b39 := i_bd (l5 + (1 : Int32))
      exact IH (3100 - (l5 + (1 : Int32)).toInt).toNat (by omega) _ (l1) (l2) (l3) (l4) ((l5 + (1 : Int32))) rfl hF hV (by omega) (by omega) (by omega) (by omega) (by omega) (by omega) (by omega) (by omega) (by omega) (by omega) (by omega) (by omega) (show 16 ≤ l1.toInt ∨ l1.toInt < (m 94 7).toInt from by omega) r_W r_GW r_GU r_OW r_GG (show (m 94 10).toInt = 6 ∧ (m 94 58).toInt = 0 from by omega) (show (m 94 8).toInt = 1 from by omega) r_RB r_QI r_MG r_MK r_WTS (show ∀ j : Nat, (j : Int) < (l5 + (1 : Int32)).toInt → (m 99) j ≠ 0 from by first | (exact AU_step r_AU (by omega) (by assumption) (by omega)) | (exfalso; omega; done) | (exfalso; contradiction; done)) r_L1k r_L2n r_L3r r_PLq r_BTS r_N6 r_Q0 r_RVs r_RLb
set_option maxHeartbeats 8000000 in
theorem sp_183rz {X : Nat × (Nat → Int32)} {P : Option ma_V → (Nat → Nat → Int32) → Prop} {T : Nat} {aa : Nat→Nat→Int32} {ro : Int32} {LL : Int64} {m : Nat → Nat → Int32} (kk : Int32) (nn : Int32) (r1 : Int32) (hV : zV m) (hpre0 : 0 ≤ nn.toInt) (hpre1 : nn.toInt ≤ 60) (hpre2 : 0 ≤ r1.toInt) (hpre3 : r1.toInt ≤ 15) (hpre4 : 0 ≤ kk.toInt) (hpre5 : kk.toInt ≤ 17) (hpre6 : T + 1 ≤ 512) (hpre7 : 16 ≤ kk.toInt ∨ kk.toInt < (m 94 7).toInt) (hpre8 : T ≤ 512) (r_W : zW (m 94 7) (m 98) (m 101) (m 102) (m 108)) (r_GW : zGW T (m 94 55) (m 109)) (r_GU : zGU T (m 94 46) (m 99)) (r_OW : zOw (m 99) (m 103) (m 111)) (r_GG : zGG (m 94 58) (m 94 56) (m 94 57) (m 106)) (hpre14 : (m 94 10).toInt = 6 ∧ (m 94 58).toInt = 0) (hpre15 : (m 94 8).toInt = 1) (r_RB : qRB (m 99) (m 100) (m 98) (m 101) (m 102) (m 103) (m 107) (m 108) (m 109) (m 111) (m 112) (m 113) (m 114) (m 94 55) (m 94 46) ro 0 0 0 1 aa) (r_RV : qRv aa) (r_RL : qRL aa (m 94 18) (m 94 64) (m 94 19) (m 94 63) (m 116)) (r_MG : qMG (m 94 58) (m 106) (m 115) (m 94 57) (m 94 56) (m 99) (m 100) aa) (r_MK : aa 87 8 = (m 94 58)) (r_WTS : (m 94 45).toInt = sm (zbU (m 99)) (m 102) 3100) (r_BTS : ∀ j : Nat, (j : Int) < nn.toInt → (zbit LL (Int32.ofNat j) ≠ 0 ↔ (kk = 16 ∨ (kk < 16 ∧ (((m 98) kk.toNatClampNeg >>> (Int32.ofNat j &&& 31)) &&& 1) = 1)))) (KZ : ∀ v m₉, zV (zov wr_183 m m₉) → (zW (m 94 7) (m 98) (m₉ 101) (m₉ 102) (m₉ 108)) → (zGW (T + 1) (m₉ 94 55) (m₉ 109)) → (zGU (T + 1) (m₉ 94 46) (m₉ 99)) → (zOw (m₉ 99) (m₉ 103) (m₉ 111)) → (zGG (m₉ 94 58) (m₉ 94 56) (m₉ 94 57) (m₉ 106)) → (qRB (m₉ 99) (m₉ 100) (m 98) (m₉ 101) (m₉ 102) (m₉ 103) (m₉ 107) (m₉ 108) (m₉ 109) (m₉ 111) (m₉ 112) (m₉ 113) (m₉ 114) (m₉ 94 55) (m₉ 94 46) ro 0 0 0 1 (rMk aa kk nn LL r1)) → (qMG (m₉ 94 58) (m₉ 106) (m₉ 115) (m₉ 94 57) (m₉ 94 56) (m₉ 99) (m₉ 100) (rMk aa kk nn LL r1)) → ((rMk aa kk nn LL r1) 87 8 = (m₉ 94 58)) → ((m₉ 94 45).toInt = sm (zbU (m₉ 99)) (m₉ 102) 3100) → ((m₉ 94 58).toInt = 0) → (v = rMn aa nn) → (qRv (rMk aa kk nn LL r1)) → (qRL (rMk aa kk nn LL r1) (m 94 18) (m 94 64) (m 94 19) (m₉ 94 63) (m₉ 116)) → P (some (.inl v)) (zov wr_183 m m₉)) : zm X 9 198 183 0 [(0, .inr (.inr (some 94))), (1, .inl kk), (2, .inl nn), (3, .inl r1)] m P := by
  have K : ∀ v m₉, zF wr_183 m m₉ → zV m₉ → (zW (m₉ 94 7) (m₉ 98) (m₉ 101) (m₉ 102) (m₉ 108)) → (zGW (T + 1) (m₉ 94 55) (m₉ 109)) → (zGU (T + 1) (m₉ 94 46) (m₉ 99)) → (zOw (m₉ 99) (m₉ 103) (m₉ 111)) → (zGG (m₉ 94 58) (m₉ 94 56) (m₉ 94 57) (m₉ 106)) → (qRB (m₉ 99) (m₉ 100) (m₉ 98) (m₉ 101) (m₉ 102) (m₉ 103) (m₉ 107) (m₉ 108) (m₉ 109) (m₉ 111) (m₉ 112) (m₉ 113) (m₉ 114) (m₉ 94 55) (m₉ 94 46) ro 0 0 0 1 (rMk aa kk nn LL r1)) → (qMG (m₉ 94 58) (m₉ 106) (m₉ 115) (m₉ 94 57) (m₉ 94 56) (m₉ 99) (m₉ 100) (rMk aa kk nn LL r1)) → ((rMk aa kk nn LL r1) 87 8 = (m₉ 94 58)) → ((m₉ 94 45).toInt = sm (zbU (m₉ 99)) (m₉ 102) 3100) → ((m₉ 94 58).toInt = 0) → (v = rMn aa nn) → (qRv (rMk aa kk nn LL r1)) → (qRL (rMk aa kk nn LL r1) (m₉ 94 18) (m₉ 94 64) (m₉ 94 19) (m₉ 94 63) (m₉ 116)) → P (some (.inl v)) m₉ := by
    intro v m₉ hf z q0 q1 q2 q3 q4 q5 q6 q7 q8 q9 q10 q11 q12
    have e := zov_eq hf
    rw [e] at z ⊢
    try rw [e] at q0
    try rw [e] at q1
    try rw [e] at q2
    try rw [e] at q3
    try rw [e] at q4
    try rw [e] at q5
    try rw [e] at q6
    try rw [e] at q7
    try rw [e] at q8
    try rw [e] at q9
    try rw [e] at q10
    try rw [e] at q11
    try rw [e] at q12
    exact KZ v m₉ z q0 q1 q2 q3 q4 q5 q6 q7 q8 q9 q10 q11 q12
  refine g_183_0 kk nn r1 ?_
  have f1 : 0 ≤ (m 94 7).toInt ∧ (m 94 7).toInt ≤ 16 := rs_94_7 (m := m) hV
  have f2 : 0 ≤ (m 94 10).toInt ∧ (m 94 10).toInt ≤ 6 := rs_94_10 (m := m) hV
  have f3 : 0 ≤ (m 94 58).toInt ∧ (m 94 58).toInt ≤ 1 := rs_94_58 (m := m) hV
  have f4 : 0 ≤ (m 94 8).toInt ∧ (m 94 8).toInt ≤ 1 := rs_94_8 (m := m) hV
  have b5 := i_bd nn
  first | have e6 : (nn + (1 : Int32)).toInt = nn.toInt + (1) := i_addk rfl (by omega) (by omega) | have b7 := i_bd (nn + (1 : Int32))
  refine sp_184rz (aa := aa) ((nn + (1 : Int32))) hV (by omega) (by omega) (by omega) r_W r_GW r_GU r_OW r_GG (show (m 94 10).toInt = 6 ∧ (m 94 58).toInt = 0 from by omega) r_RB r_RV r_RL r_MG r_MK r_WTS (fun v2 m1 hV_m1 p0_m1 p1_m1 p2_m1 p3_m1 p4_m1 p5_m1 p6_m1 p7_m1 p8_m1 p9_m1 p10_m1 p11_m1 p12_m1 p13_m1 p14_m1 => zmi_n ?_)
  have p0_m1 : zGW T (m1 94 55) (m1 109) := p0_m1
  have p1_m1 : zGU T (m 94 46) (m1 99) := p1_m1
  have p2_m1 : zOw (m1 99) (m1 103) (m1 111) := p2_m1
  have p3_m1 : zGG (m1 94 58) (m1 94 56) (m1 94 57) (m1 106) := p3_m1
  have p4_m1 : -1 ≤ v2.toInt ∧ v2.toInt ≤ 1500 := p4_m1
  have p5_m1 : qRB (m1 99) (m 100) (m 98) (m 101) (m 102) (m1 103) (m 107) (m 108) (m1 109) (m1 111) (m 112) (m1 113) (m1 114) (m1 94 55) (m 94 46) ro 0 0 0 1 (rGt aa (nn + (1 : Int32)) v2) := p5_m1
  have p6_m1 : qRv (rGt aa (nn + (1 : Int32)) v2) := p6_m1
  have p7_m1 : qRL (rGt aa (nn + (1 : Int32)) v2) (m 94 18) (m 94 64) (m 94 19) (m1 94 63) (m1 116) := p7_m1
  have p8_m1 : qI (rGt aa (nn + (1 : Int32)) v2) := p8_m1
  have p9_m1 : qMG (m1 94 58) (m1 106) (m1 115) (m1 94 57) (m1 94 56) (m1 99) (m 100) (rGt aa (nn + (1 : Int32)) v2) := p9_m1
  have p10_m1 : (rGt aa (nn + (1 : Int32)) v2) 87 8 = (m1 94 58) := p10_m1
  have p11_m1 : (m1 94 45).toInt = sm (zbU (m1 99)) (m 102) 3100 := p11_m1
  have p12_m1 : qEq v2.toInt (rRp aa (nn + (1 : Int32)).toInt) := p12_m1
  have p13_m1 : qRv (rRs aa (nn + (1 : Int32)).toInt) := p13_m1
  have p14_m1 : (m1 94 58).toInt = 0 := p14_m1
  have f8 : 0 ≤ (m1 94 58).toInt ∧ (m1 94 58).toInt ≤ 1 := rs_94_58 (m := (zov wr_184 m m1)) hV_m1
  have li9 : (0 : Int32).toInt = 0 := rfl
  have b10 := i_bd v2
  refine zd (fun (h11 : (0 : Int32) ≤ v2) => ?_) (fun (h11 : ¬ (0 : Int32) ≤ v2) => ?_)
  · skip
    have g12 := i_le h11
    try have e21 : (l2 + (1 : Int32)).toInt = l2.toInt + 1 := i_addk rfl (by omega) (by omega)
    try have gun := GU_nu p1_m1
    have b13 := i_bd kk
    have b14 := i_bd r1
    exact lp_183rz_19 (kk := kk) (nn := nn) (r1 := r1) hV K _ _ (kk) (nn) (r1) (v2) ((0 : Int32)) rfl (zF_zov zF_rfl ws_184_183) hV_m1 (by omega) (by omega) (by omega) (by omega) (by omega) (by omega) (by omega) (by omega) (by omega) (by omega) (by omega) (by omega) (show 16 ≤ kk.toInt ∨ kk.toInt < (m 94 7).toInt from by omega) r_W p0_m1 p1_m1 p2_m1 p3_m1 (show (m 94 10).toInt = 6 ∧ (m1 94 58).toInt = 0 from by omega) (show (m 94 8).toInt = 1 from by omega) p5_m1 p8_m1 p9_m1 p10_m1 p11_m1 (show ∀ j : Nat, (j : Int) < (0 : Int32).toInt → (m1 99) j ≠ 0 from by first | (intro j hj; omega; done) | (exfalso; omega; done) | (exfalso; contradiction; done)) (show kk = kk from by first | (exact rfl) | (exfalso; omega; done) | (exfalso; contradiction; done)) (show nn = nn from by first | (exact rfl) | (exfalso; omega; done) | (exfalso; contradiction; done)) (show r1 = r1 from by first | (exact rfl) | (exfalso; omega; done) | (exfalso; contradiction; done)) (show qEq v2.toInt (rRp aa (nn + (1 : Int32)).toInt) from by first | (exact p12_m1) | (exfalso; omega; done) | (exfalso; contradiction; done)) r_BTS (show (aa 69 6).toInt < 512 from by first | (exact (show (aa 69 6).toInt < 512 from by rw [r_RB.2.2.2.2.2.2.2.1]; have gun := GU_nu r_GU; omega)) | (exfalso; omega; done) | (exfalso; contradiction; done)) (show aa 87 2 = 0 from by first | (exact r_RV.2.1) | (exfalso; omega; done) | (exfalso; contradiction; done)) p13_m1 (show qRL (rGt aa (nn + (1 : Int32)) v2) (m 94 18) (m 94 64) (m 94 19) (m1 94 63) (m1 116) from by first | (exact p7_m1) | (exfalso; omega; done) | (exfalso; contradiction; done))
  · skip
    have g15 := i_nle h11
    try have e21 : (l2 + (1 : Int32)).toInt = l2.toInt + 1 := i_addk rfl (by omega) (by omega)
    try have gun := GU_nu p1_m1
    have li16 : (-1 : Int32).toInt = -1 := rfl
    exact K ((-1 : Int32)) _ (zF_zov zF_rfl ws_184_183) hV_m1 r_W (show zGW (T + 1) (m1 94 55) (m1 109) from by first | (exact GW_up p0_m1 (by omega)) | (exfalso; omega; done) | (exfalso; contradiction; done)) (show zGU (T + 1) (m 94 46) (m1 99) from by first | (exact GU_up p1_m1 (by omega)) | (exact GU_0 p1_m1) | (exfalso; omega; done) | (exfalso; contradiction; done)) p2_m1 p3_m1 (show qRB (m1 99) (m 100) (m 98) (m 101) (m 102) (m1 103) (m 107) (m 108) (m1 109) (m1 111) (m 112) (m1 113) (m1 114) (m1 94 55) (m 94 46) ro 0 0 0 1 (rMk aa kk nn LL r1) from by first | (have q := p5_m1; rw [rGt_n (by omega)] at q; rw [(rMk_1 (a := aa) (kd := kk) (wd := nn) (rt := r1) (L := LL) (show (aa 69 6).toInt < 512 from by rw [r_RB.2.2.2.2.2.2.2.1]; have gun := GU_nu r_GU; omega) ((qE p12_m1).symm.trans (by omega))).1]; exact q; done) | (exfalso; omega; done) | (exfalso; contradiction; done)) (show qMG (m1 94 58) (m1 106) (m1 115) (m1 94 57) (m1 94 56) (m1 99) (m 100) (rMk aa kk nn LL r1) from by first | (have q := p9_m1; rw [rGt_n (by omega)] at q; rw [(rMk_1 (a := aa) (kd := kk) (wd := nn) (rt := r1) (L := LL) (show (aa 69 6).toInt < 512 from by rw [r_RB.2.2.2.2.2.2.2.1]; have gun := GU_nu r_GU; omega) ((qE p12_m1).symm.trans (by omega))).1]; exact q; done) | (exfalso; omega; done) | (exfalso; contradiction; done)) (show (rMk aa kk nn LL r1) 87 8 = (m1 94 58) from by first | (have q := p10_m1; rw [rGt_n (by omega)] at q; rw [(rMk_1 (a := aa) (kd := kk) (wd := nn) (rt := r1) (L := LL) (show (aa 69 6).toInt < 512 from by rw [r_RB.2.2.2.2.2.2.2.1]; have gun := GU_nu r_GU; omega) ((qE p12_m1).symm.trans (by omega))).1]; exact q; done) | (exfalso; omega; done) | (exfalso; contradiction; done)) p11_m1 (show (m1 94 58).toInt = 0 from by omega) (show (-1 : Int32) = rMn aa nn from by first | (exact (rMk_1 (a := aa) (kd := kk) (wd := nn) (rt := r1) (L := LL) (show (aa 69 6).toInt < 512 from by rw [r_RB.2.2.2.2.2.2.2.1]; have gun := GU_nu r_GU; omega) ((qE p12_m1).symm.trans (by omega))).2.symm) | (exfalso; omega; done) | (exfalso; contradiction; done)) (show qRv (rMk aa kk nn LL r1) from by first | (rw [(rMk_1 (a := aa) (kd := kk) (wd := nn) (rt := r1) (L := LL) (show (aa 69 6).toInt < 512 from by rw [r_RB.2.2.2.2.2.2.2.1]; have gun := GU_nu r_GU; omega) ((qE p12_m1).symm.trans (by omega))).1]; exact p13_m1; done) | (exact p6_m1) | (exfalso; omega; done) | (exfalso; contradiction; done)) (show qRL (rMk aa kk nn LL r1) (m 94 18) (m 94 64) (m 94 19) (m1 94 63) (m1 116) from by first | (have q := p7_m1; rw [rGt_n (by omega)] at q; rw [(rMk_1 (a := aa) (kd := kk) (wd := nn) (rt := r1) (L := LL) (show (aa 69 6).toInt < 512 from by rw [r_RB.2.2.2.2.2.2.2.1]; have gun := GU_nu r_GU; omega) ((qE p12_m1).symm.trans (by omega))).1]; exact q; done) | (exact p7_m1) | (exfalso; omega; done) | (exfalso; contradiction; done))

/-! from 95.t08 -/
/-! REGIONS, the reference (written by wip/tools/gen15t.py) -/
set_option maxHeartbeats 8000000 in
theorem sp_181rz {X : Nat × (Nat → Int32)} {P : Option ma_V → (Nat → Nat → Int32) → Prop} {T : Nat} {aa : Nat→Nat→Int32} {ro : Int32} {LL : Int64} {m : Nat → Nat → Int32} (kk : Int32) (r1 : Int32) (hV : zV m) (hpre0 : T + 1 ≤ 512) (hpre1 : T ≤ 512) (r_W : zW (m 94 7) (m 98) (m 101) (m 102) (m 108)) (r_GW : zGW T (m 94 55) (m 109)) (r_GU : zGU T (m 94 46) (m 99)) (r_OW : zOw (m 99) (m 103) (m 111)) (r_GG : zGG (m 94 58) (m 94 56) (m 94 57) (m 106)) (hpre7 : (m 94 10).toInt = 6 ∧ (m 94 58).toInt = 0) (hpre8 : (m 94 8).toInt = 1) (r_RB : qRB (m 99) (m 100) (m 98) (m 101) (m 102) (m 103) (m 107) (m 108) (m 109) (m 111) (m 112) (m 113) (m 114) (m 94 55) (m 94 46) ro 0 0 0 1 aa) (r_RV : qRv aa) (r_RL : qRL aa (m 94 18) (m 94 64) (m 94 19) (m 94 63) (m 116)) (r_MG : qMG (m 94 58) (m 106) (m 115) (m 94 57) (m 94 56) (m 99) (m 100) aa) (r_MK : aa 87 8 = (m 94 58)) (r_WTS : (m 94 45).toInt = sm (zbU (m 99)) (m 102) 3100) (r_BT1 : (0 ≤ kk.toInt ∧ kk.toInt < (m 94 7).toInt) → ∀ j : Nat, (j : Int) < ((m 97) kk.toNatClampNeg).toInt → (zbit LL (Int32.ofNat j) ≠ 0 ↔ (kk = 16 ∨ (kk < 16 ∧ (((m 98) kk.toNatClampNeg >>> (Int32.ofNat j &&& 31)) &&& 1) = 1)))) (KZ : ∀ v m₉, zV (zov wr_181 m m₉) → (zW (m 94 7) (m 98) (m₉ 101) (m₉ 102) (m₉ 108)) → (zGW (T + 1) (m₉ 94 55) (m₉ 109)) → (zGU (T + 1) (m₉ 94 46) (m₉ 99)) → (zOw (m₉ 99) (m₉ 103) (m₉ 111)) → (zGG (m₉ 94 58) (m₉ 94 56) (m₉ 94 57) (m₉ 106)) → (qRB (m₉ 99) (m₉ 100) (m 98) (m₉ 101) (m₉ 102) (m₉ 103) (m₉ 107) (m₉ 108) (m₉ 109) (m₉ 111) (m₉ 112) (m₉ 113) (m₉ 114) (m₉ 94 55) (m₉ 94 46) ro 0 0 0 1 (qIf (0 ≤ kk.toInt ∧ kk.toInt < (m 94 7).toInt ∧ zSl r1) (rMk aa kk ((m 97) kk.toNatClampNeg) LL r1) aa)) → (qMG (m₉ 94 58) (m₉ 106) (m₉ 115) (m₉ 94 57) (m₉ 94 56) (m₉ 99) (m₉ 100) (qIf (0 ≤ kk.toInt ∧ kk.toInt < (m 94 7).toInt ∧ zSl r1) (rMk aa kk ((m 97) kk.toNatClampNeg) LL r1) aa)) → ((qIf (0 ≤ kk.toInt ∧ kk.toInt < (m 94 7).toInt ∧ zSl r1) (rMk aa kk ((m 97) kk.toNatClampNeg) LL r1) aa) 87 8 = (m₉ 94 58)) → ((m₉ 94 45).toInt = sm (zbU (m₉ 99)) (m₉ 102) 3100) → ((m₉ 94 58).toInt = 0) → (qRv (qIf (0 ≤ kk.toInt ∧ kk.toInt < (m 94 7).toInt ∧ zSl r1) (rMk aa kk ((m 97) kk.toNatClampNeg) LL r1) aa)) → (qRL (qIf (0 ≤ kk.toInt ∧ kk.toInt < (m 94 7).toInt ∧ zSl r1) (rMk aa kk ((m 97) kk.toNatClampNeg) LL r1) aa) (m 94 18) (m 94 64) (m 94 19) (m₉ 94 63) (m₉ 116)) → P (some (.inl v)) (zov wr_181 m m₉)) : zm X 10 224 181 0 [(0, .inr (.inr (some 94))), (1, .inl kk), (2, .inl r1)] m P := by
  have K : ∀ v m₉, zF wr_181 m m₉ → zV m₉ → (zW (m₉ 94 7) (m₉ 98) (m₉ 101) (m₉ 102) (m₉ 108)) → (zGW (T + 1) (m₉ 94 55) (m₉ 109)) → (zGU (T + 1) (m₉ 94 46) (m₉ 99)) → (zOw (m₉ 99) (m₉ 103) (m₉ 111)) → (zGG (m₉ 94 58) (m₉ 94 56) (m₉ 94 57) (m₉ 106)) → (qRB (m₉ 99) (m₉ 100) (m₉ 98) (m₉ 101) (m₉ 102) (m₉ 103) (m₉ 107) (m₉ 108) (m₉ 109) (m₉ 111) (m₉ 112) (m₉ 113) (m₉ 114) (m₉ 94 55) (m₉ 94 46) ro 0 0 0 1 (qIf (0 ≤ kk.toInt ∧ kk.toInt < (m₉ 94 7).toInt ∧ zSl r1) (rMk aa kk ((m₉ 97) kk.toNatClampNeg) LL r1) aa)) → (qMG (m₉ 94 58) (m₉ 106) (m₉ 115) (m₉ 94 57) (m₉ 94 56) (m₉ 99) (m₉ 100) (qIf (0 ≤ kk.toInt ∧ kk.toInt < (m₉ 94 7).toInt ∧ zSl r1) (rMk aa kk ((m₉ 97) kk.toNatClampNeg) LL r1) aa)) → ((qIf (0 ≤ kk.toInt ∧ kk.toInt < (m₉ 94 7).toInt ∧ zSl r1) (rMk aa kk ((m₉ 97) kk.toNatClampNeg) LL r1) aa) 87 8 = (m₉ 94 58)) → ((m₉ 94 45).toInt = sm (zbU (m₉ 99)) (m₉ 102) 3100) → ((m₉ 94 58).toInt = 0) → (qRv (qIf (0 ≤ kk.toInt ∧ kk.toInt < (m₉ 94 7).toInt ∧ zSl r1) (rMk aa kk ((m₉ 97) kk.toNatClampNeg) LL r1) aa)) → (qRL (qIf (0 ≤ kk.toInt ∧ kk.toInt < (m₉ 94 7).toInt ∧ zSl r1) (rMk aa kk ((m₉ 97) kk.toNatClampNeg) LL r1) aa) (m₉ 94 18) (m₉ 94 64) (m₉ 94 19) (m₉ 94 63) (m₉ 116)) → P (some (.inl v)) m₉ := by
    intro v m₉ hf z q0 q1 q2 q3 q4 q5 q6 q7 q8 q9 q10 q11
    have e := zov_eq hf
    rw [e] at z ⊢
    try rw [e] at q0
    try rw [e] at q1
    try rw [e] at q2
    try rw [e] at q3
    try rw [e] at q4
    try rw [e] at q5
    try rw [e] at q6
    try rw [e] at q7
    try rw [e] at q8
    try rw [e] at q9
    try rw [e] at q10
    try rw [e] at q11
    exact KZ v m₉ z q0 q1 q2 q3 q4 q5 q6 q7 q8 q9 q10 q11
  refine g_181_0 kk r1 ?_
  have f1 : 0 ≤ (m 94 10).toInt ∧ (m 94 10).toInt ≤ 6 := rs_94_10 (m := m) hV
  have f2 : 0 ≤ (m 94 58).toInt ∧ (m 94 58).toInt ≤ 1 := rs_94_58 (m := m) hV
  have f3 : 0 ≤ (m 94 8).toInt ∧ (m 94 8).toInt ≤ 1 := rs_94_8 (m := m) hV
  have b4 := i_bd kk
  have li5 : (0 : Int32).toInt = 0 := rfl
  refine zd (fun (h6 : kk < (0 : Int32)) => ?_) (fun (h6 : ¬ kk < (0 : Int32)) => ?_)
  · skip
    have g7 := i_lt h6
    have hV8 : zV (ma_u m 94 0 (1 : Int32)) := uf_94_0 hV
    exact K ((0 : Int32)) _ (zF_u zF_rfl rfl) hV8 r_W (show zGW (T + 1) (m 94 55) (m 109) from by first | (exact GW_up r_GW (by omega)) | (exfalso; omega; done) | (exfalso; contradiction; done)) (show zGU (T + 1) (m 94 46) (m 99) from by first | (exact GU_up r_GU (by omega)) | (exact GU_0 r_GU) | (exfalso; omega; done) | (exfalso; contradiction; done)) r_OW r_GG (show qRB (m 99) (m 100) (m 98) (m 101) (m 102) (m 103) (m 107) (m 108) (m 109) (m 111) (m 112) (m 113) (m 114) (m 94 55) (m 94 46) ro 0 0 0 1 (qIf (0 ≤ kk.toInt ∧ kk.toInt < (m 94 7).toInt ∧ zSl r1) (rMk aa kk ((m 97) kk.toNatClampNeg) LL r1) aa) from by first | (rw [qIf_n (fun w => by have w1 := w.1; have w2 := w.2.1; have w3 := w.2.2.1; have w4 := w.2.2.2; omega)]; exact r_RB; done) | (exfalso; omega; done) | (exfalso; contradiction; done)) (show qMG (m 94 58) (m 106) (m 115) (m 94 57) (m 94 56) (m 99) (m 100) (qIf (0 ≤ kk.toInt ∧ kk.toInt < (m 94 7).toInt ∧ zSl r1) (rMk aa kk ((m 97) kk.toNatClampNeg) LL r1) aa) from by first | (rw [qIf_n (fun w => by have w1 := w.1; have w2 := w.2.1; have w3 := w.2.2.1; have w4 := w.2.2.2; omega)]; exact r_MG; done) | (exfalso; omega; done) | (exfalso; contradiction; done)) (show (qIf (0 ≤ kk.toInt ∧ kk.toInt < (m 94 7).toInt ∧ zSl r1) (rMk aa kk ((m 97) kk.toNatClampNeg) LL r1) aa) 87 8 = (m 94 58) from by first | (rw [qIf_n (fun w => by have w1 := w.1; have w2 := w.2.1; have w3 := w.2.2.1; have w4 := w.2.2.2; omega)]; exact r_MK; done) | (exfalso; omega; done) | (exfalso; contradiction; done)) r_WTS (show (m 94 58).toInt = 0 from by omega) (show qRv (qIf (0 ≤ kk.toInt ∧ kk.toInt < (m 94 7).toInt ∧ zSl r1) (rMk aa kk ((m 97) kk.toNatClampNeg) LL r1) aa) from by first | (rw [qIf_n (fun w => by have w1 := w.1; have w2 := w.2.1; have w3 := w.2.2.1; have w4 := w.2.2.2; omega)]; exact r_RV; done) | (exact r_RV) | (exfalso; omega; done) | (exfalso; contradiction; done)) (show qRL (qIf (0 ≤ kk.toInt ∧ kk.toInt < (m 94 7).toInt ∧ zSl r1) (rMk aa kk ((m 97) kk.toNatClampNeg) LL r1) aa) (m 94 18) (m 94 64) (m 94 19) (m 94 63) (m 116) from by first | (rw [qIf_n (fun w => by have w1 := w.1; have w2 := w.2.1; have w3 := w.2.2.1; have w4 := w.2.2.2; omega)]; exact r_RL; done) | (exact r_RL) | (exfalso; omega; done) | (exfalso; contradiction; done))
  · skip
    have g9 := i_nlt h6
    have f10 : 0 ≤ (m 94 7).toInt ∧ (m 94 7).toInt ≤ 16 := rs_94_7 (m := m) hV
    refine zd (fun (h11 : (m 94 7) ≤ kk) => ?_) (fun (h11 : ¬ (m 94 7) ≤ kk) => ?_)
    · skip
      have g12 := i_le h11
      have hV13 : zV (ma_u m 94 0 (1 : Int32)) := uf_94_0 hV
      exact K ((0 : Int32)) _ (zF_u zF_rfl rfl) hV13 r_W (show zGW (T + 1) (m 94 55) (m 109) from by first | (exact GW_up r_GW (by omega)) | (exfalso; omega; done) | (exfalso; contradiction; done)) (show zGU (T + 1) (m 94 46) (m 99) from by first | (exact GU_up r_GU (by omega)) | (exact GU_0 r_GU) | (exfalso; omega; done) | (exfalso; contradiction; done)) r_OW r_GG (show qRB (m 99) (m 100) (m 98) (m 101) (m 102) (m 103) (m 107) (m 108) (m 109) (m 111) (m 112) (m 113) (m 114) (m 94 55) (m 94 46) ro 0 0 0 1 (qIf (0 ≤ kk.toInt ∧ kk.toInt < (m 94 7).toInt ∧ zSl r1) (rMk aa kk ((m 97) kk.toNatClampNeg) LL r1) aa) from by first | (rw [qIf_n (fun w => by have w1 := w.1; have w2 := w.2.1; have w3 := w.2.2.1; have w4 := w.2.2.2; omega)]; exact r_RB; done) | (exfalso; omega; done) | (exfalso; contradiction; done)) (show qMG (m 94 58) (m 106) (m 115) (m 94 57) (m 94 56) (m 99) (m 100) (qIf (0 ≤ kk.toInt ∧ kk.toInt < (m 94 7).toInt ∧ zSl r1) (rMk aa kk ((m 97) kk.toNatClampNeg) LL r1) aa) from by first | (rw [qIf_n (fun w => by have w1 := w.1; have w2 := w.2.1; have w3 := w.2.2.1; have w4 := w.2.2.2; omega)]; exact r_MG; done) | (exfalso; omega; done) | (exfalso; contradiction; done)) (show (qIf (0 ≤ kk.toInt ∧ kk.toInt < (m 94 7).toInt ∧ zSl r1) (rMk aa kk ((m 97) kk.toNatClampNeg) LL r1) aa) 87 8 = (m 94 58) from by first | (rw [qIf_n (fun w => by have w1 := w.1; have w2 := w.2.1; have w3 := w.2.2.1; have w4 := w.2.2.2; omega)]; exact r_MK; done) | (exfalso; omega; done) | (exfalso; contradiction; done)) r_WTS (show (m 94 58).toInt = 0 from by omega) (show qRv (qIf (0 ≤ kk.toInt ∧ kk.toInt < (m 94 7).toInt ∧ zSl r1) (rMk aa kk ((m 97) kk.toNatClampNeg) LL r1) aa) from by first | (rw [qIf_n (fun w => by have w1 := w.1; have w2 := w.2.1; have w3 := w.2.2.1; have w4 := w.2.2.2; omega)]; exact r_RV; done) | (exact r_RV) | (exfalso; omega; done) | (exfalso; contradiction; done)) (show qRL (qIf (0 ≤ kk.toInt ∧ kk.toInt < (m 94 7).toInt ∧ zSl r1) (rMk aa kk ((m 97) kk.toNatClampNeg) LL r1) aa) (m 94 18) (m 94 64) (m 94 19) (m 94 63) (m 116) from by first | (rw [qIf_n (fun w => by have w1 := w.1; have w2 := w.2.1; have w3 := w.2.2.1; have w4 := w.2.2.2; omega)]; exact r_RL; done) | (exact r_RL) | (exfalso; omega; done) | (exfalso; contradiction; done))
    · skip
      have g14 := i_nle h11
      have b15 := i_bd r1
      refine zd (fun (h16 : r1 < (0 : Int32)) => ?_) (fun (h16 : ¬ r1 < (0 : Int32)) => ?_)
      · skip
        have g17 := i_lt h16
        have hV18 : zV (ma_u m 94 0 (1 : Int32)) := uf_94_0 hV
        exact K ((0 : Int32)) _ (zF_u zF_rfl rfl) hV18 r_W (show zGW (T + 1) (m 94 55) (m 109) from by first | (exact GW_up r_GW (by omega)) | (exfalso; omega; done) | (exfalso; contradiction; done)) (show zGU (T + 1) (m 94 46) (m 99) from by first | (exact GU_up r_GU (by omega)) | (exact GU_0 r_GU) | (exfalso; omega; done) | (exfalso; contradiction; done)) r_OW r_GG (show qRB (m 99) (m 100) (m 98) (m 101) (m 102) (m 103) (m 107) (m 108) (m 109) (m 111) (m 112) (m 113) (m 114) (m 94 55) (m 94 46) ro 0 0 0 1 (qIf (0 ≤ kk.toInt ∧ kk.toInt < (m 94 7).toInt ∧ zSl r1) (rMk aa kk ((m 97) kk.toNatClampNeg) LL r1) aa) from by first | (rw [qIf_n (fun w => by have w1 := w.1; have w2 := w.2.1; have w3 := w.2.2.1; have w4 := w.2.2.2; omega)]; exact r_RB; done) | (exfalso; omega; done) | (exfalso; contradiction; done)) (show qMG (m 94 58) (m 106) (m 115) (m 94 57) (m 94 56) (m 99) (m 100) (qIf (0 ≤ kk.toInt ∧ kk.toInt < (m 94 7).toInt ∧ zSl r1) (rMk aa kk ((m 97) kk.toNatClampNeg) LL r1) aa) from by first | (rw [qIf_n (fun w => by have w1 := w.1; have w2 := w.2.1; have w3 := w.2.2.1; have w4 := w.2.2.2; omega)]; exact r_MG; done) | (exfalso; omega; done) | (exfalso; contradiction; done)) (show (qIf (0 ≤ kk.toInt ∧ kk.toInt < (m 94 7).toInt ∧ zSl r1) (rMk aa kk ((m 97) kk.toNatClampNeg) LL r1) aa) 87 8 = (m 94 58) from by first | (rw [qIf_n (fun w => by have w1 := w.1; have w2 := w.2.1; have w3 := w.2.2.1; have w4 := w.2.2.2; omega)]; exact r_MK; done) | (exfalso; omega; done) | (exfalso; contradiction; done)) r_WTS (show (m 94 58).toInt = 0 from by omega) (show qRv (qIf (0 ≤ kk.toInt ∧ kk.toInt < (m 94 7).toInt ∧ zSl r1) (rMk aa kk ((m 97) kk.toNatClampNeg) LL r1) aa) from by first | (rw [qIf_n (fun w => by have w1 := w.1; have w2 := w.2.1; have w3 := w.2.2.1; have w4 := w.2.2.2; omega)]; exact r_RV; done) | (exact r_RV) | (exfalso; omega; done) | (exfalso; contradiction; done)) (show qRL (qIf (0 ≤ kk.toInt ∧ kk.toInt < (m 94 7).toInt ∧ zSl r1) (rMk aa kk ((m 97) kk.toNatClampNeg) LL r1) aa) (m 94 18) (m 94 64) (m 94 19) (m 94 63) (m 116) from by first | (rw [qIf_n (fun w => by have w1 := w.1; have w2 := w.2.1; have w3 := w.2.2.1; have w4 := w.2.2.2; omega)]; exact r_RL; done) | (exact r_RL) | (exfalso; omega; done) | (exfalso; contradiction; done))
      · skip
        have g19 := i_nlt h16
        have li20 : (16 : Int32).toInt = 16 := rfl
        refine zd (fun (h21 : (16 : Int32) ≤ r1) => ?_) (fun (h21 : ¬ (16 : Int32) ≤ r1) => ?_)
        · skip
          have g22 := i_le h21
          have hV23 : zV (ma_u m 94 0 (1 : Int32)) := uf_94_0 hV
          exact K ((0 : Int32)) _ (zF_u zF_rfl rfl) hV23 r_W (show zGW (T + 1) (m 94 55) (m 109) from by first | (exact GW_up r_GW (by omega)) | (exfalso; omega; done) | (exfalso; contradiction; done)) (show zGU (T + 1) (m 94 46) (m 99) from by first | (exact GU_up r_GU (by omega)) | (exact GU_0 r_GU) | (exfalso; omega; done) | (exfalso; contradiction; done)) r_OW r_GG (show qRB (m 99) (m 100) (m 98) (m 101) (m 102) (m 103) (m 107) (m 108) (m 109) (m 111) (m 112) (m 113) (m 114) (m 94 55) (m 94 46) ro 0 0 0 1 (qIf (0 ≤ kk.toInt ∧ kk.toInt < (m 94 7).toInt ∧ zSl r1) (rMk aa kk ((m 97) kk.toNatClampNeg) LL r1) aa) from by first | (rw [qIf_n (fun w => by have w1 := w.1; have w2 := w.2.1; have w3 := w.2.2.1; have w4 := w.2.2.2; omega)]; exact r_RB; done) | (exfalso; omega; done) | (exfalso; contradiction; done)) (show qMG (m 94 58) (m 106) (m 115) (m 94 57) (m 94 56) (m 99) (m 100) (qIf (0 ≤ kk.toInt ∧ kk.toInt < (m 94 7).toInt ∧ zSl r1) (rMk aa kk ((m 97) kk.toNatClampNeg) LL r1) aa) from by first | (rw [qIf_n (fun w => by have w1 := w.1; have w2 := w.2.1; have w3 := w.2.2.1; have w4 := w.2.2.2; omega)]; exact r_MG; done) | (exfalso; omega; done) | (exfalso; contradiction; done)) (show (qIf (0 ≤ kk.toInt ∧ kk.toInt < (m 94 7).toInt ∧ zSl r1) (rMk aa kk ((m 97) kk.toNatClampNeg) LL r1) aa) 87 8 = (m 94 58) from by first | (rw [qIf_n (fun w => by have w1 := w.1; have w2 := w.2.1; have w3 := w.2.2.1; have w4 := w.2.2.2; omega)]; exact r_MK; done) | (exfalso; omega; done) | (exfalso; contradiction; done)) r_WTS (show (m 94 58).toInt = 0 from by omega) (show qRv (qIf (0 ≤ kk.toInt ∧ kk.toInt < (m 94 7).toInt ∧ zSl r1) (rMk aa kk ((m 97) kk.toNatClampNeg) LL r1) aa) from by first | (rw [qIf_n (fun w => by have w1 := w.1; have w2 := w.2.1; have w3 := w.2.2.1; have w4 := w.2.2.2; omega)]; exact r_RV; done) | (exact r_RV) | (exfalso; omega; done) | (exfalso; contradiction; done)) (show qRL (qIf (0 ≤ kk.toInt ∧ kk.toInt < (m 94 7).toInt ∧ zSl r1) (rMk aa kk ((m 97) kk.toNatClampNeg) LL r1) aa) (m 94 18) (m 94 64) (m 94 19) (m 94 63) (m 116) from by first | (rw [qIf_n (fun w => by have w1 := w.1; have w2 := w.2.1; have w3 := w.2.2.1; have w4 := w.2.2.2; omega)]; exact r_RL; done) | (exact r_RL) | (exfalso; omega; done) | (exfalso; contradiction; done))
        · skip
          have g24 := i_nle h21
          refine zd (fun (h25 : (m 94 8) = (0 : Int32)) => ?_) (fun (h25 : ¬ (m 94 8) = (0 : Int32)) => ?_)
          · skip
            have g26 := i_eq h25
            exfalso; omega
          · skip
            have g27 := i_ne h25
            have hg28 : (0 ≤ kk ∧ kk.toNatClampNeg < 16) := i_ix (by omega) (by omega)
            refine ⟨hg28, ?_⟩
            first | have f29 : 0 ≤ (m 97 kk.toNatClampNeg).toInt ∧ (m 97 kk.toNatClampNeg).toInt ≤ 8 := ra_97 (m := m) hV (k := kk.toNatClampNeg) (i_ix (n := 16) (by omega) (by omega)).2 | have b30 := i_bd (m 97 kk.toNatClampNeg)
            have hV31 : zV (ma_u m 94 0 (0 : Int32)) := uf_94_0 hV
            refine sp_183rz (LL := LL) (kk) ((m 97 kk.toNatClampNeg)) (r1) hV31 (by omega) (by omega) (by omega) (by omega) (by omega) (by omega) (by omega) (show 16 ≤ kk.toInt ∨ kk.toInt < (m 94 7).toInt from by omega) (by omega) r_W r_GW r_GU r_OW r_GG (show (m 94 10).toInt = 6 ∧ (m 94 58).toInt = 0 from by omega) (show (m 94 8).toInt = 1 from by omega) r_RB r_RV r_RL r_MG r_MK r_WTS (show ∀ j : Nat, (j : Int) < (m 97 kk.toNatClampNeg).toInt → (zbit LL (Int32.ofNat j) ≠ 0 ↔ (kk = 16 ∨ (kk < 16 ∧ (((m 98) kk.toNatClampNeg >>> (Int32.ofNat j &&& 31)) &&& 1) = 1))) from by first | (exact r_BT1 ⟨by omega, by omega⟩) | (exfalso; omega; done) | (exfalso; contradiction; done)) (fun v2 m1 hV_m1 p0_m1 p1_m1 p2_m1 p3_m1 p4_m1 p5_m1 p6_m1 p7_m1 p8_m1 p9_m1 p10_m1 p11_m1 p12_m1 => zmi_n ?_)
            have p0_m1 : zW (m 94 7) (m 98) (m1 101) (m1 102) (m1 108) := p0_m1
            have p1_m1 : zGW (T + 1) (m1 94 55) (m1 109) := p1_m1
            have p2_m1 : zGU (T + 1) (m1 94 46) (m1 99) := p2_m1
            have p3_m1 : zOw (m1 99) (m1 103) (m1 111) := p3_m1
            have p4_m1 : zGG (m1 94 58) (m1 94 56) (m1 94 57) (m1 106) := p4_m1
            have p5_m1 : qRB (m1 99) (m1 100) (m 98) (m1 101) (m1 102) (m1 103) (m1 107) (m1 108) (m1 109) (m1 111) (m1 112) (m1 113) (m1 114) (m1 94 55) (m1 94 46) ro 0 0 0 1 (rMk aa kk (m 97 kk.toNatClampNeg) LL r1) := p5_m1
            have p6_m1 : qMG (m1 94 58) (m1 106) (m1 115) (m1 94 57) (m1 94 56) (m1 99) (m1 100) (rMk aa kk (m 97 kk.toNatClampNeg) LL r1) := p6_m1
            have p7_m1 : (rMk aa kk (m 97 kk.toNatClampNeg) LL r1) 87 8 = (m1 94 58) := p7_m1
            have p8_m1 : (m1 94 45).toInt = sm (zbU (m1 99)) (m1 102) 3100 := p8_m1
            have p9_m1 : (m1 94 58).toInt = 0 := p9_m1
            have p10_m1 : v2 = rMn aa (m 97 kk.toNatClampNeg) := p10_m1
            have p11_m1 : qRv (rMk aa kk (m 97 kk.toNatClampNeg) LL r1) := p11_m1
            have p12_m1 : qRL (rMk aa kk (m 97 kk.toNatClampNeg) LL r1) (m 94 18) (m 94 64) (m 94 19) (m1 94 63) (m1 116) := p12_m1
            have f32 : 0 ≤ (m1 94 58).toInt ∧ (m1 94 58).toInt ≤ 1 := rs_94_58 (m := (zov wr_183 (ma_u m 94 0 (0 : Int32)) m1)) hV_m1
            have b33 := i_bd v2
            exact K (v2) _ (zF_zov (zF_u zF_rfl rfl) ws_183_181) hV_m1 p0_m1 p1_m1 p2_m1 p3_m1 p4_m1 (show qRB (m1 99) (m1 100) (m 98) (m1 101) (m1 102) (m1 103) (m1 107) (m1 108) (m1 109) (m1 111) (m1 112) (m1 113) (m1 114) (m1 94 55) (m1 94 46) ro 0 0 0 1 (qIf (0 ≤ kk.toInt ∧ kk.toInt < (m 94 7).toInt ∧ zSl r1) (rMk aa kk ((m 97) kk.toNatClampNeg) LL r1) aa) from by first | (rw [qIf_y ⟨by omega, by omega, by omega, by omega⟩]; exact p5_m1; done) | (exfalso; omega; done) | (exfalso; contradiction; done)) (show qMG (m1 94 58) (m1 106) (m1 115) (m1 94 57) (m1 94 56) (m1 99) (m1 100) (qIf (0 ≤ kk.toInt ∧ kk.toInt < (m 94 7).toInt ∧ zSl r1) (rMk aa kk ((m 97) kk.toNatClampNeg) LL r1) aa) from by first | (rw [qIf_y ⟨by omega, by omega, by omega, by omega⟩]; exact p6_m1; done) | (exfalso; omega; done) | (exfalso; contradiction; done)) (show (qIf (0 ≤ kk.toInt ∧ kk.toInt < (m 94 7).toInt ∧ zSl r1) (rMk aa kk ((m 97) kk.toNatClampNeg) LL r1) aa) 87 8 = (m1 94 58) from by first | (rw [qIf_y ⟨by omega, by omega, by omega, by omega⟩]; exact p7_m1; done) | (exfalso; omega; done) | (exfalso; contradiction; done)) p8_m1 (show (m1 94 58).toInt = 0 from by omega) (show qRv (qIf (0 ≤ kk.toInt ∧ kk.toInt < (m 94 7).toInt ∧ zSl r1) (rMk aa kk ((m 97) kk.toNatClampNeg) LL r1) aa) from by first | (rw [qIf_y ⟨by omega, by omega, by omega, by omega⟩]; exact p11_m1; done) | (exact p11_m1) | (exfalso; omega; done) | (exfalso; contradiction; done)) (show qRL (qIf (0 ≤ kk.toInt ∧ kk.toInt < (m 94 7).toInt ∧ zSl r1) (rMk aa kk ((m 97) kk.toNatClampNeg) LL r1) aa) (m 94 18) (m 94 64) (m 94 19) (m1 94 63) (m1 116) from by first | (rw [qIf_y ⟨by omega, by omega, by omega, by omega⟩]; exact p12_m1; done) | (exact p12_m1) | (exfalso; omega; done) | (exfalso; contradiction; done))

/-! from 95.t09 -/
/-! REGIONS, the reference (written by wip/tools/gen15t.py) -/
set_option maxHeartbeats 8000000 in
theorem sp_243rz {X : Nat × (Nat → Int32)} {P : Option ma_V → (Nat → Nat → Int32) → Prop} {T : Nat} {aa : Nat→Nat→Int32} {ro : Int32} {m : Nat → Nat → Int32} (rf : Int32) (nn : Int32) (r1 : Int32) (hV : zV m) (hpre0 : T + 1 ≤ 512) (hpre1 : 0 ≤ rf.toInt) (hpre2 : rf.toInt ≤ 1) (hpre3 : T ≤ 512) (r_W : zW (m 94 7) (m 98) (m 101) (m 102) (m 108)) (r_GW : zGW T (m 94 55) (m 109)) (r_GU : zGU T (m 94 46) (m 99)) (r_OW : zOw (m 99) (m 103) (m 111)) (r_GG : zGG (m 94 58) (m 94 56) (m 94 57) (m 106)) (hpre9 : (m 94 10).toInt = 6 ∧ (m 94 58).toInt = 0) (hpre10 : (m 94 8).toInt = 1) (r_RB : qRB (m 99) (m 100) (m 98) (m 101) (m 102) (m 103) (m 107) (m 108) (m 109) (m 111) (m 112) (m 113) (m 114) (m 94 55) (m 94 46) ro 0 0 0 1 aa) (r_RV : qRv aa) (r_RL : qRL aa (m 94 18) (m 94 64) (m 94 19) (m 94 63) (m 116)) (r_MG : qMG (m 94 58) (m 106) (m 115) (m 94 57) (m 94 56) (m 99) (m 100) aa) (r_MK : aa 87 8 = (m 94 58)) (r_WTS : (m 94 45).toInt = sm (zbU (m 99)) (m 102) 3100) (KZ : ∀ v m₉, zV (zov wr_243 m m₉) → (zW (m 94 7) (m 98) (m₉ 101) (m₉ 102) (m₉ 108)) → (zGW (T + 1) (m₉ 94 55) (m₉ 109)) → (zGU (T + 1) (m₉ 94 46) (m₉ 99)) → (zOw (m₉ 99) (m₉ 103) (m₉ 111)) → (zGG (m₉ 94 58) (m₉ 94 56) (m₉ 94 57) (m₉ 106)) → (qRB (m₉ 99) (m₉ 100) (m 98) (m₉ 101) (m₉ 102) (m₉ 103) (m₉ 107) (m₉ 108) (m₉ 109) (m₉ 111) (m₉ 112) (m₉ 113) (m₉ 114) (m₉ 94 55) (m₉ 94 46) ro 0 0 0 1 (qIf (0 ≤ nn.toInt ∧ nn.toInt ≤ 60 ∧ zSl r1) (if rf = 0 then rMk aa 17 nn 0 r1 else rMk aa 16 nn (-1) r1) aa)) → (qMG (m₉ 94 58) (m₉ 106) (m₉ 115) (m₉ 94 57) (m₉ 94 56) (m₉ 99) (m₉ 100) (qIf (0 ≤ nn.toInt ∧ nn.toInt ≤ 60 ∧ zSl r1) (if rf = 0 then rMk aa 17 nn 0 r1 else rMk aa 16 nn (-1) r1) aa)) → ((qIf (0 ≤ nn.toInt ∧ nn.toInt ≤ 60 ∧ zSl r1) (if rf = 0 then rMk aa 17 nn 0 r1 else rMk aa 16 nn (-1) r1) aa) 87 8 = (m₉ 94 58)) → ((m₉ 94 45).toInt = sm (zbU (m₉ 99)) (m₉ 102) 3100) → ((m₉ 94 58).toInt = 0) → (qRv (qIf (0 ≤ nn.toInt ∧ nn.toInt ≤ 60 ∧ zSl r1) (if rf = 0 then rMk aa 17 nn 0 r1 else rMk aa 16 nn (-1) r1) aa)) → (qRL (qIf (0 ≤ nn.toInt ∧ nn.toInt ≤ 60 ∧ zSl r1) (if rf = 0 then rMk aa 17 nn 0 r1 else rMk aa 16 nn (-1) r1) aa) (m 94 18) (m 94 64) (m 94 19) (m₉ 94 63) (m₉ 116)) → P (some (.inl v)) (zov wr_243 m m₉)) : zm X 10 224 243 0 [(0, .inr (.inr (some 94))), (1, .inl rf), (2, .inl nn), (3, .inl r1)] m P := by
  have K : ∀ v m₉, zF wr_243 m m₉ → zV m₉ → (zW (m₉ 94 7) (m₉ 98) (m₉ 101) (m₉ 102) (m₉ 108)) → (zGW (T + 1) (m₉ 94 55) (m₉ 109)) → (zGU (T + 1) (m₉ 94 46) (m₉ 99)) → (zOw (m₉ 99) (m₉ 103) (m₉ 111)) → (zGG (m₉ 94 58) (m₉ 94 56) (m₉ 94 57) (m₉ 106)) → (qRB (m₉ 99) (m₉ 100) (m₉ 98) (m₉ 101) (m₉ 102) (m₉ 103) (m₉ 107) (m₉ 108) (m₉ 109) (m₉ 111) (m₉ 112) (m₉ 113) (m₉ 114) (m₉ 94 55) (m₉ 94 46) ro 0 0 0 1 (qIf (0 ≤ nn.toInt ∧ nn.toInt ≤ 60 ∧ zSl r1) (if rf = 0 then rMk aa 17 nn 0 r1 else rMk aa 16 nn (-1) r1) aa)) → (qMG (m₉ 94 58) (m₉ 106) (m₉ 115) (m₉ 94 57) (m₉ 94 56) (m₉ 99) (m₉ 100) (qIf (0 ≤ nn.toInt ∧ nn.toInt ≤ 60 ∧ zSl r1) (if rf = 0 then rMk aa 17 nn 0 r1 else rMk aa 16 nn (-1) r1) aa)) → ((qIf (0 ≤ nn.toInt ∧ nn.toInt ≤ 60 ∧ zSl r1) (if rf = 0 then rMk aa 17 nn 0 r1 else rMk aa 16 nn (-1) r1) aa) 87 8 = (m₉ 94 58)) → ((m₉ 94 45).toInt = sm (zbU (m₉ 99)) (m₉ 102) 3100) → ((m₉ 94 58).toInt = 0) → (qRv (qIf (0 ≤ nn.toInt ∧ nn.toInt ≤ 60 ∧ zSl r1) (if rf = 0 then rMk aa 17 nn 0 r1 else rMk aa 16 nn (-1) r1) aa)) → (qRL (qIf (0 ≤ nn.toInt ∧ nn.toInt ≤ 60 ∧ zSl r1) (if rf = 0 then rMk aa 17 nn 0 r1 else rMk aa 16 nn (-1) r1) aa) (m₉ 94 18) (m₉ 94 64) (m₉ 94 19) (m₉ 94 63) (m₉ 116)) → P (some (.inl v)) m₉ := by
    intro v m₉ hf z q0 q1 q2 q3 q4 q5 q6 q7 q8 q9 q10 q11
    have e := zov_eq hf
    rw [e] at z ⊢
    try rw [e] at q0
    try rw [e] at q1
    try rw [e] at q2
    try rw [e] at q3
    try rw [e] at q4
    try rw [e] at q5
    try rw [e] at q6
    try rw [e] at q7
    try rw [e] at q8
    try rw [e] at q9
    try rw [e] at q10
    try rw [e] at q11
    exact KZ v m₉ z q0 q1 q2 q3 q4 q5 q6 q7 q8 q9 q10 q11
  refine g_243_0 rf nn r1 ?_
  have f1 : 0 ≤ (m 94 10).toInt ∧ (m 94 10).toInt ≤ 6 := rs_94_10 (m := m) hV
  have f2 : 0 ≤ (m 94 58).toInt ∧ (m 94 58).toInt ≤ 1 := rs_94_58 (m := m) hV
  have f3 : 0 ≤ (m 94 8).toInt ∧ (m 94 8).toInt ≤ 1 := rs_94_8 (m := m) hV
  have b4 := i_bd nn
  have li5 : (0 : Int32).toInt = 0 := rfl
  refine zd (fun (h6 : nn < (0 : Int32)) => ?_) (fun (h6 : ¬ nn < (0 : Int32)) => ?_)
  · skip
    have g7 := i_lt h6
    have hV8 : zV (ma_u m 94 0 (1 : Int32)) := uf_94_0 hV
    exact K ((0 : Int32)) _ (zF_u zF_rfl rfl) hV8 r_W (show zGW (T + 1) (m 94 55) (m 109) from by first | (exact GW_up r_GW (by omega)) | (exfalso; omega; done) | (exfalso; contradiction; done)) (show zGU (T + 1) (m 94 46) (m 99) from by first | (exact GU_up r_GU (by omega)) | (exact GU_0 r_GU) | (exfalso; omega; done) | (exfalso; contradiction; done)) r_OW r_GG (show qRB (m 99) (m 100) (m 98) (m 101) (m 102) (m 103) (m 107) (m 108) (m 109) (m 111) (m 112) (m 113) (m 114) (m 94 55) (m 94 46) ro 0 0 0 1 (qIf (0 ≤ nn.toInt ∧ nn.toInt ≤ 60 ∧ zSl r1) (if rf = 0 then rMk aa 17 nn 0 r1 else rMk aa 16 nn (-1) r1) aa) from by first | (rw [qIf_n (fun w => by have w1 := w.1; have w2 := w.2.1; have w3 := w.2.2.1; have w4 := w.2.2.2; omega)]; exact r_RB; done) | (exfalso; omega; done) | (exfalso; contradiction; done)) (show qMG (m 94 58) (m 106) (m 115) (m 94 57) (m 94 56) (m 99) (m 100) (qIf (0 ≤ nn.toInt ∧ nn.toInt ≤ 60 ∧ zSl r1) (if rf = 0 then rMk aa 17 nn 0 r1 else rMk aa 16 nn (-1) r1) aa) from by first | (rw [qIf_n (fun w => by have w1 := w.1; have w2 := w.2.1; have w3 := w.2.2.1; have w4 := w.2.2.2; omega)]; exact r_MG; done) | (exfalso; omega; done) | (exfalso; contradiction; done)) (show (qIf (0 ≤ nn.toInt ∧ nn.toInt ≤ 60 ∧ zSl r1) (if rf = 0 then rMk aa 17 nn 0 r1 else rMk aa 16 nn (-1) r1) aa) 87 8 = (m 94 58) from by first | (rw [qIf_n (fun w => by have w1 := w.1; have w2 := w.2.1; have w3 := w.2.2.1; have w4 := w.2.2.2; omega)]; exact r_MK; done) | (exfalso; omega; done) | (exfalso; contradiction; done)) r_WTS (show (m 94 58).toInt = 0 from by omega) (show qRv (qIf (0 ≤ nn.toInt ∧ nn.toInt ≤ 60 ∧ zSl r1) (if rf = 0 then rMk aa 17 nn 0 r1 else rMk aa 16 nn (-1) r1) aa) from by first | (rw [qIf_n (fun w => by have w1 := w.1; have w2 := w.2.1; have w3 := w.2.2.1; have w4 := w.2.2.2; omega)]; exact r_RV; done) | (exact r_RV) | (exfalso; omega; done) | (exfalso; contradiction; done)) (show qRL (qIf (0 ≤ nn.toInt ∧ nn.toInt ≤ 60 ∧ zSl r1) (if rf = 0 then rMk aa 17 nn 0 r1 else rMk aa 16 nn (-1) r1) aa) (m 94 18) (m 94 64) (m 94 19) (m 94 63) (m 116) from by first | (rw [qIf_n (fun w => by have w1 := w.1; have w2 := w.2.1; have w3 := w.2.2.1; have w4 := w.2.2.2; omega)]; exact r_RL; done) | (exact r_RL) | (exfalso; omega; done) | (exfalso; contradiction; done))
  · skip
    have g9 := i_nlt h6
    have li10 : (60 : Int32).toInt = 60 := rfl
    refine zd (fun (h11 : (60 : Int32) < nn) => ?_) (fun (h11 : ¬ (60 : Int32) < nn) => ?_)
    · skip
      have g12 := i_lt h11
      have hV13 : zV (ma_u m 94 0 (1 : Int32)) := uf_94_0 hV
      exact K ((0 : Int32)) _ (zF_u zF_rfl rfl) hV13 r_W (show zGW (T + 1) (m 94 55) (m 109) from by first | (exact GW_up r_GW (by omega)) | (exfalso; omega; done) | (exfalso; contradiction; done)) (show zGU (T + 1) (m 94 46) (m 99) from by first | (exact GU_up r_GU (by omega)) | (exact GU_0 r_GU) | (exfalso; omega; done) | (exfalso; contradiction; done)) r_OW r_GG (show qRB (m 99) (m 100) (m 98) (m 101) (m 102) (m 103) (m 107) (m 108) (m 109) (m 111) (m 112) (m 113) (m 114) (m 94 55) (m 94 46) ro 0 0 0 1 (qIf (0 ≤ nn.toInt ∧ nn.toInt ≤ 60 ∧ zSl r1) (if rf = 0 then rMk aa 17 nn 0 r1 else rMk aa 16 nn (-1) r1) aa) from by first | (rw [qIf_n (fun w => by have w1 := w.1; have w2 := w.2.1; have w3 := w.2.2.1; have w4 := w.2.2.2; omega)]; exact r_RB; done) | (exfalso; omega; done) | (exfalso; contradiction; done)) (show qMG (m 94 58) (m 106) (m 115) (m 94 57) (m 94 56) (m 99) (m 100) (qIf (0 ≤ nn.toInt ∧ nn.toInt ≤ 60 ∧ zSl r1) (if rf = 0 then rMk aa 17 nn 0 r1 else rMk aa 16 nn (-1) r1) aa) from by first | (rw [qIf_n (fun w => by have w1 := w.1; have w2 := w.2.1; have w3 := w.2.2.1; have w4 := w.2.2.2; omega)]; exact r_MG; done) | (exfalso; omega; done) | (exfalso; contradiction; done)) (show (qIf (0 ≤ nn.toInt ∧ nn.toInt ≤ 60 ∧ zSl r1) (if rf = 0 then rMk aa 17 nn 0 r1 else rMk aa 16 nn (-1) r1) aa) 87 8 = (m 94 58) from by first | (rw [qIf_n (fun w => by have w1 := w.1; have w2 := w.2.1; have w3 := w.2.2.1; have w4 := w.2.2.2; omega)]; exact r_MK; done) | (exfalso; omega; done) | (exfalso; contradiction; done)) r_WTS (show (m 94 58).toInt = 0 from by omega) (show qRv (qIf (0 ≤ nn.toInt ∧ nn.toInt ≤ 60 ∧ zSl r1) (if rf = 0 then rMk aa 17 nn 0 r1 else rMk aa 16 nn (-1) r1) aa) from by first | (rw [qIf_n (fun w => by have w1 := w.1; have w2 := w.2.1; have w3 := w.2.2.1; have w4 := w.2.2.2; omega)]; exact r_RV; done) | (exact r_RV) | (exfalso; omega; done) | (exfalso; contradiction; done)) (show qRL (qIf (0 ≤ nn.toInt ∧ nn.toInt ≤ 60 ∧ zSl r1) (if rf = 0 then rMk aa 17 nn 0 r1 else rMk aa 16 nn (-1) r1) aa) (m 94 18) (m 94 64) (m 94 19) (m 94 63) (m 116) from by first | (rw [qIf_n (fun w => by have w1 := w.1; have w2 := w.2.1; have w3 := w.2.2.1; have w4 := w.2.2.2; omega)]; exact r_RL; done) | (exact r_RL) | (exfalso; omega; done) | (exfalso; contradiction; done))
    · skip
      have g14 := i_nlt h11
      have b15 := i_bd r1
      refine zd (fun (h16 : r1 < (0 : Int32)) => ?_) (fun (h16 : ¬ r1 < (0 : Int32)) => ?_)
      · skip
        have g17 := i_lt h16
        have hV18 : zV (ma_u m 94 0 (1 : Int32)) := uf_94_0 hV
        exact K ((0 : Int32)) _ (zF_u zF_rfl rfl) hV18 r_W (show zGW (T + 1) (m 94 55) (m 109) from by first | (exact GW_up r_GW (by omega)) | (exfalso; omega; done) | (exfalso; contradiction; done)) (show zGU (T + 1) (m 94 46) (m 99) from by first | (exact GU_up r_GU (by omega)) | (exact GU_0 r_GU) | (exfalso; omega; done) | (exfalso; contradiction; done)) r_OW r_GG (show qRB (m 99) (m 100) (m 98) (m 101) (m 102) (m 103) (m 107) (m 108) (m 109) (m 111) (m 112) (m 113) (m 114) (m 94 55) (m 94 46) ro 0 0 0 1 (qIf (0 ≤ nn.toInt ∧ nn.toInt ≤ 60 ∧ zSl r1) (if rf = 0 then rMk aa 17 nn 0 r1 else rMk aa 16 nn (-1) r1) aa) from by first | (rw [qIf_n (fun w => by have w1 := w.1; have w2 := w.2.1; have w3 := w.2.2.1; have w4 := w.2.2.2; omega)]; exact r_RB; done) | (exfalso; omega; done) | (exfalso; contradiction; done)) (show qMG (m 94 58) (m 106) (m 115) (m 94 57) (m 94 56) (m 99) (m 100) (qIf (0 ≤ nn.toInt ∧ nn.toInt ≤ 60 ∧ zSl r1) (if rf = 0 then rMk aa 17 nn 0 r1 else rMk aa 16 nn (-1) r1) aa) from by first | (rw [qIf_n (fun w => by have w1 := w.1; have w2 := w.2.1; have w3 := w.2.2.1; have w4 := w.2.2.2; omega)]; exact r_MG; done) | (exfalso; omega; done) | (exfalso; contradiction; done)) (show (qIf (0 ≤ nn.toInt ∧ nn.toInt ≤ 60 ∧ zSl r1) (if rf = 0 then rMk aa 17 nn 0 r1 else rMk aa 16 nn (-1) r1) aa) 87 8 = (m 94 58) from by first | (rw [qIf_n (fun w => by have w1 := w.1; have w2 := w.2.1; have w3 := w.2.2.1; have w4 := w.2.2.2; omega)]; exact r_MK; done) | (exfalso; omega; done) | (exfalso; contradiction; done)) r_WTS (show (m 94 58).toInt = 0 from by omega) (show qRv (qIf (0 ≤ nn.toInt ∧ nn.toInt ≤ 60 ∧ zSl r1) (if rf = 0 then rMk aa 17 nn 0 r1 else rMk aa 16 nn (-1) r1) aa) from by first | (rw [qIf_n (fun w => by have w1 := w.1; have w2 := w.2.1; have w3 := w.2.2.1; have w4 := w.2.2.2; omega)]; exact r_RV; done) | (exact r_RV) | (exfalso; omega; done) | (exfalso; contradiction; done)) (show qRL (qIf (0 ≤ nn.toInt ∧ nn.toInt ≤ 60 ∧ zSl r1) (if rf = 0 then rMk aa 17 nn 0 r1 else rMk aa 16 nn (-1) r1) aa) (m 94 18) (m 94 64) (m 94 19) (m 94 63) (m 116) from by first | (rw [qIf_n (fun w => by have w1 := w.1; have w2 := w.2.1; have w3 := w.2.2.1; have w4 := w.2.2.2; omega)]; exact r_RL; done) | (exact r_RL) | (exfalso; omega; done) | (exfalso; contradiction; done))
      · skip
        have g19 := i_nlt h16
        have li20 : (16 : Int32).toInt = 16 := rfl
        refine zd (fun (h21 : (16 : Int32) ≤ r1) => ?_) (fun (h21 : ¬ (16 : Int32) ≤ r1) => ?_)
        · skip
          have g22 := i_le h21
          have hV23 : zV (ma_u m 94 0 (1 : Int32)) := uf_94_0 hV
          exact K ((0 : Int32)) _ (zF_u zF_rfl rfl) hV23 r_W (show zGW (T + 1) (m 94 55) (m 109) from by first | (exact GW_up r_GW (by omega)) | (exfalso; omega; done) | (exfalso; contradiction; done)) (show zGU (T + 1) (m 94 46) (m 99) from by first | (exact GU_up r_GU (by omega)) | (exact GU_0 r_GU) | (exfalso; omega; done) | (exfalso; contradiction; done)) r_OW r_GG (show qRB (m 99) (m 100) (m 98) (m 101) (m 102) (m 103) (m 107) (m 108) (m 109) (m 111) (m 112) (m 113) (m 114) (m 94 55) (m 94 46) ro 0 0 0 1 (qIf (0 ≤ nn.toInt ∧ nn.toInt ≤ 60 ∧ zSl r1) (if rf = 0 then rMk aa 17 nn 0 r1 else rMk aa 16 nn (-1) r1) aa) from by first | (rw [qIf_n (fun w => by have w1 := w.1; have w2 := w.2.1; have w3 := w.2.2.1; have w4 := w.2.2.2; omega)]; exact r_RB; done) | (exfalso; omega; done) | (exfalso; contradiction; done)) (show qMG (m 94 58) (m 106) (m 115) (m 94 57) (m 94 56) (m 99) (m 100) (qIf (0 ≤ nn.toInt ∧ nn.toInt ≤ 60 ∧ zSl r1) (if rf = 0 then rMk aa 17 nn 0 r1 else rMk aa 16 nn (-1) r1) aa) from by first | (rw [qIf_n (fun w => by have w1 := w.1; have w2 := w.2.1; have w3 := w.2.2.1; have w4 := w.2.2.2; omega)]; exact r_MG; done) | (exfalso; omega; done) | (exfalso; contradiction; done)) (show (qIf (0 ≤ nn.toInt ∧ nn.toInt ≤ 60 ∧ zSl r1) (if rf = 0 then rMk aa 17 nn 0 r1 else rMk aa 16 nn (-1) r1) aa) 87 8 = (m 94 58) from by first | (rw [qIf_n (fun w => by have w1 := w.1; have w2 := w.2.1; have w3 := w.2.2.1; have w4 := w.2.2.2; omega)]; exact r_MK; done) | (exfalso; omega; done) | (exfalso; contradiction; done)) r_WTS (show (m 94 58).toInt = 0 from by omega) (show qRv (qIf (0 ≤ nn.toInt ∧ nn.toInt ≤ 60 ∧ zSl r1) (if rf = 0 then rMk aa 17 nn 0 r1 else rMk aa 16 nn (-1) r1) aa) from by first | (rw [qIf_n (fun w => by have w1 := w.1; have w2 := w.2.1; have w3 := w.2.2.1; have w4 := w.2.2.2; omega)]; exact r_RV; done) | (exact r_RV) | (exfalso; omega; done) | (exfalso; contradiction; done)) (show qRL (qIf (0 ≤ nn.toInt ∧ nn.toInt ≤ 60 ∧ zSl r1) (if rf = 0 then rMk aa 17 nn 0 r1 else rMk aa 16 nn (-1) r1) aa) (m 94 18) (m 94 64) (m 94 19) (m 94 63) (m 116) from by first | (rw [qIf_n (fun w => by have w1 := w.1; have w2 := w.2.1; have w3 := w.2.2.1; have w4 := w.2.2.2; omega)]; exact r_RL; done) | (exact r_RL) | (exfalso; omega; done) | (exfalso; contradiction; done))
        · skip
          have g24 := i_nle h21
          refine zd (fun (h25 : (m 94 8) = (0 : Int32)) => ?_) (fun (h25 : ¬ (m 94 8) = (0 : Int32)) => ?_)
          · skip
            have g26 := i_eq h25
            exfalso; omega
          · skip
            have g27 := i_ne h25
            have b28 := i_bd rf
            refine zd (fun (h29 : rf = (0 : Int32)) => ?_) (fun (h29 : ¬ rf = (0 : Int32)) => ?_)
            · skip
              have g30 := i_eq h29
              have li31 : (17 : Int32).toInt = 17 := rfl
              have hV32 : zV (ma_u m 94 0 (0 : Int32)) := uf_94_0 hV
              have f33 : 0 ≤ (m 94 7).toInt ∧ (m 94 7).toInt ≤ 16 := rs_94_7 (m := m) hV
              refine sp_183rz (LL := (0 : Int64)) ((17 : Int32)) (nn) (r1) hV32 (by omega) (by omega) (by omega) (by omega) (by omega) (by omega) (by omega) (show 16 ≤ (17 : Int32).toInt ∨ (17 : Int32).toInt < (m 94 7).toInt from by omega) (by omega) r_W r_GW r_GU r_OW r_GG (show (m 94 10).toInt = 6 ∧ (m 94 58).toInt = 0 from by omega) (show (m 94 8).toInt = 1 from by omega) r_RB r_RV r_RL r_MG r_MK r_WTS (show ∀ j : Nat, (j : Int) < nn.toInt → (zbit (0 : Int64) (Int32.ofNat j) ≠ 0 ↔ ((17 : Int32) = 16 ∨ ((17 : Int32) < 16 ∧ (((m 98) (17 : Int32).toNatClampNeg >>> (Int32.ofNat j &&& 31)) &&& 1) = 1))) from by first | (exact fun j hj => ⟨fun _ => Or.inl rfl, fun _ => zb_all j (by omega)⟩) | (exact fun j hj => ⟨fun w => absurd (zb_non j (by omega)) w, fun w => w.elim (fun z => absurd z (by decide)) (fun z => absurd z.1 (by decide))⟩) | (exfalso; omega; done) | (exfalso; contradiction; done)) (fun v2 m1 hV_m1 p0_m1 p1_m1 p2_m1 p3_m1 p4_m1 p5_m1 p6_m1 p7_m1 p8_m1 p9_m1 p10_m1 p11_m1 p12_m1 => zmi_n ?_)
              have p0_m1 : zW (m 94 7) (m 98) (m1 101) (m1 102) (m1 108) := p0_m1
              have p1_m1 : zGW (T + 1) (m1 94 55) (m1 109) := p1_m1
              have p2_m1 : zGU (T + 1) (m1 94 46) (m1 99) := p2_m1
              have p3_m1 : zOw (m1 99) (m1 103) (m1 111) := p3_m1
              have p4_m1 : zGG (m1 94 58) (m1 94 56) (m1 94 57) (m1 106) := p4_m1
              have p5_m1 : qRB (m1 99) (m1 100) (m 98) (m1 101) (m1 102) (m1 103) (m1 107) (m1 108) (m1 109) (m1 111) (m1 112) (m1 113) (m1 114) (m1 94 55) (m1 94 46) ro 0 0 0 1 (rMk aa (17 : Int32) nn (0 : Int64) r1) := p5_m1
              have p6_m1 : qMG (m1 94 58) (m1 106) (m1 115) (m1 94 57) (m1 94 56) (m1 99) (m1 100) (rMk aa (17 : Int32) nn (0 : Int64) r1) := p6_m1
              have p7_m1 : (rMk aa (17 : Int32) nn (0 : Int64) r1) 87 8 = (m1 94 58) := p7_m1
              have p8_m1 : (m1 94 45).toInt = sm (zbU (m1 99)) (m1 102) 3100 := p8_m1
              have p9_m1 : (m1 94 58).toInt = 0 := p9_m1
              have p10_m1 : v2 = rMn aa nn := p10_m1
              have p11_m1 : qRv (rMk aa (17 : Int32) nn (0 : Int64) r1) := p11_m1
              have p12_m1 : qRL (rMk aa (17 : Int32) nn (0 : Int64) r1) (m 94 18) (m 94 64) (m 94 19) (m1 94 63) (m1 116) := p12_m1
              have f34 : 0 ≤ (m1 94 58).toInt ∧ (m1 94 58).toInt ≤ 1 := rs_94_58 (m := (zov wr_183 (ma_u m 94 0 (0 : Int32)) m1)) hV_m1
              have b35 := i_bd v2
              exact K (v2) _ (zF_zov (zF_u zF_rfl rfl) ws_183_243) hV_m1 p0_m1 p1_m1 p2_m1 p3_m1 p4_m1 (show qRB (m1 99) (m1 100) (m 98) (m1 101) (m1 102) (m1 103) (m1 107) (m1 108) (m1 109) (m1 111) (m1 112) (m1 113) (m1 114) (m1 94 55) (m1 94 46) ro 0 0 0 1 (qIf (0 ≤ nn.toInt ∧ nn.toInt ≤ 60 ∧ zSl r1) (if rf = 0 then rMk aa 17 nn 0 r1 else rMk aa 16 nn (-1) r1) aa) from by first | (rw [qIf_y ⟨by omega, by omega, by omega, by omega⟩, if_pos (i_zer (by omega))]; exact p5_m1; done) | (exfalso; omega; done) | (exfalso; contradiction; done)) (show qMG (m1 94 58) (m1 106) (m1 115) (m1 94 57) (m1 94 56) (m1 99) (m1 100) (qIf (0 ≤ nn.toInt ∧ nn.toInt ≤ 60 ∧ zSl r1) (if rf = 0 then rMk aa 17 nn 0 r1 else rMk aa 16 nn (-1) r1) aa) from by first | (rw [qIf_y ⟨by omega, by omega, by omega, by omega⟩, if_pos (i_zer (by omega))]; exact p6_m1; done) | (exfalso; omega; done) | (exfalso; contradiction; done)) (show (qIf (0 ≤ nn.toInt ∧ nn.toInt ≤ 60 ∧ zSl r1) (if rf = 0 then rMk aa 17 nn 0 r1 else rMk aa 16 nn (-1) r1) aa) 87 8 = (m1 94 58) from by first | (rw [qIf_y ⟨by omega, by omega, by omega, by omega⟩, if_pos (i_zer (by omega))]; exact p7_m1; done) | (exfalso; omega; done) | (exfalso; contradiction; done)) p8_m1 (show (m1 94 58).toInt = 0 from by omega) (show qRv (qIf (0 ≤ nn.toInt ∧ nn.toInt ≤ 60 ∧ zSl r1) (if rf = 0 then rMk aa 17 nn 0 r1 else rMk aa 16 nn (-1) r1) aa) from by first | (rw [qIf_y ⟨by omega, by omega, by omega, by omega⟩, if_pos (i_zer (by omega))]; exact p11_m1; done) | (exact p11_m1) | (exfalso; omega; done) | (exfalso; contradiction; done)) (show qRL (qIf (0 ≤ nn.toInt ∧ nn.toInt ≤ 60 ∧ zSl r1) (if rf = 0 then rMk aa 17 nn 0 r1 else rMk aa 16 nn (-1) r1) aa) (m 94 18) (m 94 64) (m 94 19) (m1 94 63) (m1 116) from by first | (rw [qIf_y ⟨by omega, by omega, by omega, by omega⟩, if_pos (i_zer (by omega))]; exact p12_m1; done) | (exact p12_m1) | (exfalso; omega; done) | (exfalso; contradiction; done))
            · skip
              have g36 := i_ne h29
              have hV37 : zV (ma_u m 94 0 (0 : Int32)) := uf_94_0 hV
              have f38 : 0 ≤ (m 94 7).toInt ∧ (m 94 7).toInt ≤ 16 := rs_94_7 (m := m) hV
              refine sp_183rz (LL := (-1 : Int64)) ((16 : Int32)) (nn) (r1) hV37 (by omega) (by omega) (by omega) (by omega) (by omega) (by omega) (by omega) (show 16 ≤ (16 : Int32).toInt ∨ (16 : Int32).toInt < (m 94 7).toInt from by omega) (by omega) r_W r_GW r_GU r_OW r_GG (show (m 94 10).toInt = 6 ∧ (m 94 58).toInt = 0 from by omega) (show (m 94 8).toInt = 1 from by omega) r_RB r_RV r_RL r_MG r_MK r_WTS (show ∀ j : Nat, (j : Int) < nn.toInt → (zbit (-1 : Int64) (Int32.ofNat j) ≠ 0 ↔ ((16 : Int32) = 16 ∨ ((16 : Int32) < 16 ∧ (((m 98) (16 : Int32).toNatClampNeg >>> (Int32.ofNat j &&& 31)) &&& 1) = 1))) from by first | (exact fun j hj => ⟨fun _ => Or.inl rfl, fun _ => zb_all j (by omega)⟩) | (exact fun j hj => ⟨fun w => absurd (zb_non j (by omega)) w, fun w => w.elim (fun z => absurd z (by decide)) (fun z => absurd z.1 (by decide))⟩) | (exfalso; omega; done) | (exfalso; contradiction; done)) (fun v4 m3 hV_m3 p0_m3 p1_m3 p2_m3 p3_m3 p4_m3 p5_m3 p6_m3 p7_m3 p8_m3 p9_m3 p10_m3 p11_m3 p12_m3 => zmi_n ?_)
              have p0_m3 : zW (m 94 7) (m 98) (m3 101) (m3 102) (m3 108) := p0_m3
              have p1_m3 : zGW (T + 1) (m3 94 55) (m3 109) := p1_m3
              have p2_m3 : zGU (T + 1) (m3 94 46) (m3 99) := p2_m3
              have p3_m3 : zOw (m3 99) (m3 103) (m3 111) := p3_m3
              have p4_m3 : zGG (m3 94 58) (m3 94 56) (m3 94 57) (m3 106) := p4_m3
              have p5_m3 : qRB (m3 99) (m3 100) (m 98) (m3 101) (m3 102) (m3 103) (m3 107) (m3 108) (m3 109) (m3 111) (m3 112) (m3 113) (m3 114) (m3 94 55) (m3 94 46) ro 0 0 0 1 (rMk aa (16 : Int32) nn (-1 : Int64) r1) := p5_m3
              have p6_m3 : qMG (m3 94 58) (m3 106) (m3 115) (m3 94 57) (m3 94 56) (m3 99) (m3 100) (rMk aa (16 : Int32) nn (-1 : Int64) r1) := p6_m3
              have p7_m3 : (rMk aa (16 : Int32) nn (-1 : Int64) r1) 87 8 = (m3 94 58) := p7_m3
              have p8_m3 : (m3 94 45).toInt = sm (zbU (m3 99)) (m3 102) 3100 := p8_m3
              have p9_m3 : (m3 94 58).toInt = 0 := p9_m3
              have p10_m3 : v4 = rMn aa nn := p10_m3
              have p11_m3 : qRv (rMk aa (16 : Int32) nn (-1 : Int64) r1) := p11_m3
              have p12_m3 : qRL (rMk aa (16 : Int32) nn (-1 : Int64) r1) (m 94 18) (m 94 64) (m 94 19) (m3 94 63) (m3 116) := p12_m3
              have f39 : 0 ≤ (m3 94 58).toInt ∧ (m3 94 58).toInt ≤ 1 := rs_94_58 (m := (zov wr_183 (ma_u m 94 0 (0 : Int32)) m3)) hV_m3
              have b40 := i_bd v4
              exact K (v4) _ (zF_zov (zF_u zF_rfl rfl) ws_183_243) hV_m3 p0_m3 p1_m3 p2_m3 p3_m3 p4_m3 (show qRB (m3 99) (m3 100) (m 98) (m3 101) (m3 102) (m3 103) (m3 107) (m3 108) (m3 109) (m3 111) (m3 112) (m3 113) (m3 114) (m3 94 55) (m3 94 46) ro 0 0 0 1 (qIf (0 ≤ nn.toInt ∧ nn.toInt ≤ 60 ∧ zSl r1) (if rf = 0 then rMk aa 17 nn 0 r1 else rMk aa 16 nn (-1) r1) aa) from by first | (rw [qIf_y ⟨by omega, by omega, by omega, by omega⟩, if_neg (i_nz2 (by omega))]; exact p5_m3; done) | (exfalso; omega; done) | (exfalso; contradiction; done)) (show qMG (m3 94 58) (m3 106) (m3 115) (m3 94 57) (m3 94 56) (m3 99) (m3 100) (qIf (0 ≤ nn.toInt ∧ nn.toInt ≤ 60 ∧ zSl r1) (if rf = 0 then rMk aa 17 nn 0 r1 else rMk aa 16 nn (-1) r1) aa) from by first | (rw [qIf_y ⟨by omega, by omega, by omega, by omega⟩, if_neg (i_nz2 (by omega))]; exact p6_m3; done) | (exfalso; omega; done) | (exfalso; contradiction; done)) (show (qIf (0 ≤ nn.toInt ∧ nn.toInt ≤ 60 ∧ zSl r1) (if rf = 0 then rMk aa 17 nn 0 r1 else rMk aa 16 nn (-1) r1) aa) 87 8 = (m3 94 58) from by first | (rw [qIf_y ⟨by omega, by omega, by omega, by omega⟩, if_neg (i_nz2 (by omega))]; exact p7_m3; done) | (exfalso; omega; done) | (exfalso; contradiction; done)) p8_m3 (show (m3 94 58).toInt = 0 from by omega) (show qRv (qIf (0 ≤ nn.toInt ∧ nn.toInt ≤ 60 ∧ zSl r1) (if rf = 0 then rMk aa 17 nn 0 r1 else rMk aa 16 nn (-1) r1) aa) from by first | (rw [qIf_y ⟨by omega, by omega, by omega, by omega⟩, if_neg (i_nz2 (by omega))]; exact p11_m3; done) | (exact p11_m3) | (exfalso; omega; done) | (exfalso; contradiction; done)) (show qRL (qIf (0 ≤ nn.toInt ∧ nn.toInt ≤ 60 ∧ zSl r1) (if rf = 0 then rMk aa 17 nn 0 r1 else rMk aa 16 nn (-1) r1) aa) (m 94 18) (m 94 64) (m 94 19) (m3 94 63) (m3 116) from by first | (rw [qIf_y ⟨by omega, by omega, by omega, by omega⟩, if_neg (i_nz2 (by omega))]; exact p12_m3; done) | (exact p12_m3) | (exfalso; omega; done) | (exfalso; contradiction; done))

/-! from 95.u10 -/
/-! AGES, the class (written by wip/tools/gen15y.py) -/
/-! AGES: the class, by numbers (87: 0 all words, 3 where the half begins, 4 the top, 5 YOUNG, 9 OLD, 10 OLD's top, 11 the last age, 12 the card; 83 dirty cards; 131 ages) -/
def zfG (I : Nat → Nat → Int32) (k : Nat) : Int32 := if k = 0 then I 82 3 + (I 82 2 + I 82 2) else if k = 3 then I 82 7 else if k = 4 then I 82 8 else if k = 5 then I 82 2 else if k = 9 then I 82 3 else if k = 10 then I 82 6 else if k = 11 then I 82 4 else if k = 12 then I 82 5 else 0
def aG (S : ma_S) : Nat → Nat → Int32 := fun c k => if c = 83 then mI S 83 k else aM (zfG (mI S)) S c k
/-- words that would grow OLD, of the first n -/
def gGr (a : Nat → Nat → Int32) : Nat → Int
  | 0 => 0
  | n + 1 => gGr a n + (if a 126 n ≠ 0 ∧ (a 87 9).toInt ≤ (a 130 n).toInt ∧ (a 87 11).toInt ≤ (a 131 n).toInt + 1 then (a 128 n).toInt else 0)
/-- the card of a word -/
def gCx (a : Nat → Nat → Int32) (n : Nat) (i : Int) : Int := ((a 130 n).toInt + 1 + i) / (a 87 12).toInt
def gDy (a : Nat → Nat → Int32) (n : Nat) (i : Int) : Prop := 0 < (a 87 12).toInt ∧ gCx a n i < 375 ∧ a 83 (gCx a n i).toNat ≠ 0
/-- what lies on dirty cards comes: one's words -/
def gDc (n : Nat) : Nat → Int32 → (Nat → Nat → Int32) → Nat → Nat → Int32
  | 0, _, a => a
  | f + 1, i, a => gDc n f (i + 1) (if 0 < (a 87 12).toInt ∧ gCx a n i.toInt < 375 ∧ a 83 (gCx a n i.toInt).toNat ≠ 0 then aCm a (aRef a n i) else a)
def gDw (a : Nat → Nat → Int32) (n : Nat) (i : Int32) : Nat → Nat → Int32 := gDc n ((a 128 n).toInt - 1 - i.toInt).toNat i a
/-- by place -/
def gDf (e : Int) : Nat → (Nat → Nat → Int32) → Int → Nat → Nat → Int32
  | 0, a, _ => a
  | f + 1, a, p => if p < e then (if (zOb a p).toInt < 0 then gDf e f a (p + 1) else gDf e f (gDw a (zOb a p).toNatClampNeg 0) (p + (a 128 (zOb a p).toNatClampNeg).toInt)) else a
def gDp (a : Nat → Nat → Int32) (e p : Int) : Nat → Nat → Int32 := gDf e (e - p).toNat a p
/-- one grows older and moves -/
def gM1 (a : Nat → Nat → Int32) (n : Nat) : Nat → Nat → Int32 := if (a 87 11).toInt ≤ (a 131 n + 1).toInt then ma_u (aMo (ma_u a 131 n (a 131 n + 1)) n (a 87 10)) 87 10 (a 87 10 + a 128 n) else ma_u (aMo (ma_u a 131 n (a 131 n + 1)) n (a 87 4)) 87 4 (a 87 4 + a 128 n)
def gMf : Nat → Nat → (Nat → Nat → Int32) → Nat → Nat → Int32
  | 0, _, a => a
  | f + 1, j, a => if 0 ≤ (a 76 j).toInt ∧ (a 76 j).toInt < 512 ∧ a 126 (a 76 j).toNatClampNeg ≠ 0 then gMf f (j + 1) (gM1 a (a 76 j).toNatClampNeg) else gMf f (j + 1) a
/-- dirty cards: one's first i words; the first n -/
def gRw (a : Nat → Nat → Int32) (n : Nat) (i : Int32) : Prop := 0 ≤ (aRef a n i).toInt ∧ (aRef a n i).toInt < 512 ∧ a 126 (aRef a n i).toNatClampNeg ≠ 0 ∧ (a 87 9).toInt ≤ (a 130 (aRef a n i).toNatClampNeg).toInt
def gWk (a : Nat → Nat → Int32) (k n : Nat) : Nat → Int32
  | 0 => 0
  | i + 1 => if (0 ≤ (aRef a n (Int32.ofNat i)).toInt ∧ (aRef a n (Int32.ofNat i)).toInt < 512 ∧ a 126 (aRef a n (Int32.ofNat i)).toNatClampNeg ≠ 0 ∧ (a 87 9).toInt ≤ (a 130 (aRef a n (Int32.ofNat i)).toNatClampNeg).toInt) ∧ 0 < (a 87 12).toInt ∧ gCx a n (i : Int) = (k : Int) then 1 else gWk a k n i
def gNk (a : Nat → Nat → Int32) (k : Nat) : Nat → Int32
  | 0 => 0
  | n + 1 => if (a 126 n ≠ 0 ∧ (a 130 n).toInt < (a 87 9).toInt) ∧ gWk a k n ((a 128 n).toInt - 1).toNat ≠ 0 then 1 else gNk a k n
def gFd (a : Nat → Nat → Int32) : Nat → Nat → Int32 := fun c k => if c = 83 ∧ k < 375 then gNk a k 512 else a c k
/-- the major cleaning -/
def gSd (a : Nat → Nat → Int32) : (Nat → Nat → Int32) × Int := zSd (aSw a) (a 87 9).toInt 0 0
def gMa (a : Nat → Nat → Int32) : Nat → Nat → Int32 := gFd (ma_u (gSd a).1 87 10 (Int32.ofInt (gSd a).2))
/-- the minor one: what is kept; who moves -/
def gKp (a : Nat → Nat → Int32) : Nat → Nat → Int32 := aGw (aSp 512 (gDp (aRo (aWh a (a 87 9)) 0) (a 87 10).toInt 0)) 0
def gMk0 (a : Nat → Nat → Int32) : Nat → Nat → Int32 := aMv (gKp a) 0
def gMk1 (a : Nat → Nat → Int32) : Nat → Nat → Int32 := ma_u (ma_u (gMk0 a) 87 3 (a 87 9 + a 87 5 + a 87 9 - a 87 3)) 87 4 (a 87 9 + a 87 5 + a 87 9 - a 87 3)
def gMv (a : Nat → Nat → Int32) : Nat → Nat → Int32 := gFd (gMf (gMk1 a 75 4).toInt.toNat 0 (gMk1 a))
def gFu (a : Nat → Nat → Int32) : Prop := (a 87 9).toInt < (a 87 10).toInt + gGr a 512
def gM0 (a : Nat → Nat → Int32) : Nat → Nat → Int32 := if (a 87 9).toInt < (a 87 10).toInt + gGr a 512 then gMa a else a
def gMi (a : Nat → Nat → Int32) : Nat → Nat → Int32 := if (gM0 a 87 9).toInt < (gM0 a 87 10).toInt + gGr (gM0 a) 512 then gM0 a else gMv (gM0 a)
/-- how many words got free -/
def gV0 (a : Nat → Nat → Int32) : Int32 := if (a 87 9).toInt < (a 87 10).toInt + gGr a 512 then aSv a else 0
def gVi (a : Nat → Nat → Int32) : Int32 := if (gM0 a 87 9).toInt < (gM0 a 87 10).toInt + gGr (gM0 a) 512 then gV0 a else gV0 a + (gMk0 (gM0 a) 69 11 - gKp (gM0 a) 69 11)
/-- room -/
def gHs (a : Nat → Nat → Int32) (z : Int) : Prop := (a 87 4).toInt + z ≤ (a 87 3).toInt + (a 87 5).toInt
def gRo (a : Nat → Nat → Int32) (z : Int) : Nat → Nat → Int32 := if (a 87 9).toInt < (a 87 10).toInt + z then gMa a else a
def gR1 (a : Nat → Nat → Int32) (z : Int) : Nat → Nat → Int32 := if (a 87 4).toInt + z ≤ (a 87 3).toInt + (a 87 5).toInt then a else gMi a
def gR2 (a : Nat → Nat → Int32) (z : Int) : Nat → Nat → Int32 := if (a 87 4).toInt + z ≤ (a 87 3).toInt + (a 87 5).toInt then a else gMi (gMa a)
def gRs (a : Nat → Nat → Int32) (z : Int) : Nat → Nat → Int32 := if (a 87 5).toInt / 2 < z then gRo a z else gR2 (gR1 a z) z
def gRp (a : Nat → Nat → Int32) (z : Int) : Int := if (a 87 5).toInt / 2 < z then (if (gRs a z 87 9).toInt < (gRs a z 87 10).toInt + z then -1 else (gRs a z 87 10).toInt) else (if (gRs a z 87 4).toInt + z ≤ (gRs a z 87 3).toInt + (gRs a z 87 5).toInt then (gRs a z 87 4).toInt else -1)
/-- what holds of a heap of ages -/
def gSy (a : Nat → Nat → Int32) : Nat → Int
  | 0 => 0
  | n + 1 => gSy a n + (if a 126 n ≠ 0 ∧ (a 87 9).toInt ≤ (a 130 n).toInt then (a 128 n).toInt else 0)
def qAv (a : Nat → Nat → Int32) : Prop := qI a ∧ a 87 2 = 0 ∧ ((0 ≤ (a 87 5).toInt ∧ (a 87 5).toInt ≤ 1500) ∧ (0 ≤ (a 87 9).toInt ∧ (a 87 9).toInt ≤ 1500) ∧ (a 87 0).toInt = (a 87 9).toInt + 2 * (a 87 5).toInt ∧ (1 ≤ (a 87 11).toInt ∧ (a 87 11).toInt ≤ 1000) ∧ 4 ≤ (a 87 12).toInt) ∧ ((a 87 3).toInt = (a 87 9).toInt ∨ (a 87 3).toInt = (a 87 9).toInt + (a 87 5).toInt) ∧ ((a 87 3).toInt ≤ (a 87 4).toInt ∧ (a 87 4).toInt ≤ (a 87 3).toInt + (a 87 5).toInt ∧ gSy a 512 ≤ (a 87 4).toInt - (a 87 3).toInt) ∧ (0 ≤ (a 87 10).toInt ∧ (a 87 10).toInt ≤ (a 87 9).toInt) ∧ (∀ n, xAl a n → (0 ≤ (a 131 n).toInt ∧ (a 131 n).toInt ≤ (a 87 11).toInt) ∧ ((a 130 n).toInt < (a 87 9).toInt → (a 130 n).toInt + (a 128 n).toInt ≤ (a 87 10).toInt) ∧ ((a 87 9).toInt ≤ (a 130 n).toInt → ((a 87 3).toInt ≤ (a 130 n).toInt ∧ (a 130 n).toInt + (a 128 n).toInt ≤ (a 87 4).toInt) ∧ (a 131 n).toInt < (a 87 11).toInt ∧ a 133 n = 0)) ∧ ∀ n, xAl a n → (a 130 n).toInt < (a 87 9).toInt → ∀ i : Nat, (i : Int) < (a 128 n).toInt - 1 → gRw a n (Int32.ofNat i) → a 83 (gCx a n (i : Int)).toNat ≠ 0
section F20
variable {a b ab : Nat → Nat → Int32} {S S₉ : ma_S} {R : Nat → Option Nat} {x y i to : Int32} {c k n f j : Nat} {p e : Int} {F : Nat → Int32} {L : Int64}
theorem aG_o (h : c ≠ 87) (h2 : c ≠ 83) : aG S c k = aS 75 S c k := (if_neg h2).trans (aM_o h)
theorem aG_7 : aG S 87 k = zfG (mI S) k := (if_neg (by decide)).trans aM_7
theorem aG_8 : aG S 83 k = mI S 83 k := if_pos rfl
theorem G_of (h : ∀ c k, c ≠ 87 → c ≠ 83 → aS 75 S₉ c k = b c k) (h7 : ∀ k, b 87 k = zfG (mI S₉) k) (h8 : ∀ k, b 83 k = mI S₉ 83 k) : aG S₉ = b := by
  funext c k
  by_cases w : c = 87
  · rw [w, aG_7, h7]
  · by_cases w2 : c = 83
    · rw [w2, aG_8, h8]
    · rw [aG_o w w2]
      exact h c k w w2
theorem G_g {f : (Nat → Nat → Int32) → Nat → Nat → Int32} (h : ∀ c k, c ≠ 87 → c ≠ 83 → aS 75 S₉ c k = f (aG S) c k) (h7 : ∀ k, f (aG S) 87 k = aG S 87 k) (h8 : ∀ k, f (aG S) 83 k = aG S 83 k) (e1 : mI S₉ 82 = mI S 82) (e2 : mI S₉ 83 = mI S 83) : aG S₉ = f (aG S) := by
  refine G_of h (fun k => ?_) (fun k => ?_)
  · rw [h7, aG_7]
    unfold zfG
    rw [e1]
  · rw [h8, aG_8, e2]
theorem G_o9 : zO9 (aS 75 S) (aG S) := fun c k w => (aG_o (by omega) (by omega)).symm
theorem G_f {f : (Nat → Nat → Int32) → Nat → Nat → Int32} (ho : zO9 (f (aS 75 S)) (f (aG S))) (hr : ∀ a c k, 82 ≤ c ∧ c ≤ 93 → f a c k = a c k) (h : aS 75 S₉ = f (aS 75 S)) (e1 : mI S₉ 82 = mI S 82) (e2 : mI S₉ 83 = mI S 83) : aG S₉ = f (aG S) := by
  refine G_g (f := f) (fun c k h1 h2 => ?_) (fun k => hr _ _ _ (by omega)) (fun k => hr _ _ _ (by omega)) e1 e2
  rw [h]
  by_cases w : c < 82 ∨ 93 < c
  · exact ho c k w
  · rw [hr _ _ _ (by omega), hr _ _ _ (by omega), aG_o h1 h2]
theorem G_id (h : aS 75 S₉ = aS 75 S) (e1 : mI S₉ 82 = mI S 82) (e2 : mI S₉ 83 = mI S 83) : aG S₉ = aG S := G_f (f := fun a => a) G_o9 (fun _ _ _ _ => rfl) h e1 e2
theorem G_mo (h : aS 75 S₉ = aMo (aS 75 S) n to) (e1 : mI S₉ 82 = mI S 82) (e2 : mI S₉ 83 = mI S 83) : aG S₉ = aMo (aG S) n to := by
  refine G_g (f := fun a => aMo a n to) (fun c k h1 h2 => ?_) (fun k => Mo_r (by decide) (by decide)) (fun k => Mo_r (by decide) (by decide)) e1 e2
  rw [h]
  unfold aMo
  rw [aG_o (c := 128) (by decide) (by decide), aG_o (c := 130) (by decide) (by decide), aG_o (c := 71) (by decide) (by decide), aG_o (c := 71) (by decide) (by decide), aG_o h1 h2]
theorem G_sw (h : aS 75 S₉ = aSw (aS 75 S)) (e1 : mI S₉ 82 = mI S 82) (e2 : mI S₉ 83 = mI S 83) : aG S₉ = aSw (aG S) := G_f (f := aSw) (o9_sw G_o9) (fun _ _ _ w => sw_9 w) h e1 e2
theorem G_sv : aSv (aS 75 S) = aSv (aG S) := sv_9 G_o9
theorem wh_9 (h : 82 ≤ c ∧ c ≤ 93) : aWh a x c k = a c k := by
  unfold aWh
  rw [xu_o (by omega), xu_o (by omega), xu_o (by omega)]
  unfold zFl
  rw [if_neg (by omega)]
theorem o9_wh (h : zO9 a b) : zO9 (aWh a x) (aWh b x) := by
  unfold aWh
  refine o9_u (o9_u (o9_u (fun c₉ k₉ q => ?_)))
  unfold zFl
  rw [h c₉ k₉ q]
theorem G_wh (h : aS 75 S₉ = aWh (aS 75 S) x) (e1 : mI S₉ 82 = mI S 82) (e2 : mI S₉ 83 = mI S 83) : aG S₉ = aWh (aG S) x := G_f (f := fun a => aWh a x) (o9_wh G_o9) (fun _ _ _ w => wh_9 w) h e1 e2
theorem G_ro (h : aS 75 S₉ = aRo (aS 75 S) 0) (e1 : mI S₉ 82 = mI S 82) (e2 : mI S₉ 83 = mI S 83) : aG S₉ = aRo (aG S) 0 := G_f (f := fun a => aRo a 0) (o9_rf _ _ _ _ G_o9) (fun _ _ _ w => aRo_o ⟨by omega, by omega, by omega⟩) h e1 e2
theorem G_sp (h : aS 75 S₉ = aSp f (aS 75 S)) (e1 : mI S₉ 82 = mI S 82) (e2 : mI S₉ 83 = mI S 83) : aG S₉ = aSp f (aG S) := G_f (f := fun a => aSp f a) (o9_sp _ _ _ G_o9) (fun _ _ _ w => aSp_o ⟨by omega, by omega, by omega⟩ _ _) h e1 e2
theorem G_gw (h : aS 75 S₉ = aGw (aS 75 S) 0) (e1 : mI S₉ 82 = mI S 82) (e2 : mI S₉ 83 = mI S 83) : aG S₉ = aGw (aG S) 0 := G_f (f := fun a => aGw a 0) (o9_gw G_o9) (fun _ _ _ w => gf_9 w _ _ _) h e1 e2
theorem o9_mv (h : zO9 a b) : zO9 (aMv a 0) (aMv b 0) := by
  unfold aMv
  rw [h 69 6 (by decide)]
  exact o9_mf _ _ _ _ h
theorem G_mv (h : aS 75 S₉ = aMv (aS 75 S) 0) (e1 : mI S₉ 82 = mI S 82) (e2 : mI S₉ 83 = mI S 83) : aG S₉ = aMv (aG S) 0 := G_f (f := fun a => aMv a 0) (o9_mv G_o9) (fun _ _ _ w => mf_9 w _ _ _) h e1 e2
theorem G_ad (h : aS 75 S₉ = aAd (aS 75 S) y F L) (e1 : mI S₉ 82 = mI S 82) (e2 : mI S₉ 83 = mI S 83) : aG S₉ = aAd (aG S) y F L := G_f (f := fun a => aAd a y F L) (o9_ad G_o9) (fun _ _ _ w => ad_9 w) h e1 e2
theorem G_r0 (h : aS 75 S₉ = aR0 (aS 75 S) i y) (e1 : mI S₉ 82 = mI S 82) (e2 : mI S₉ 83 = mI S 83) : aG S₉ = aR0 (aG S) i y := G_f (f := fun a => aR0 a i y) (o9_r0 G_o9) (fun _ _ _ w => xu_o (by omega)) h e1 e2
theorem G_th {nu kd sz pl : Int32} {rr : Int64} (hN : 126 ≤ mN S) (hr : ∀ n c, mR S 70 n = some c → c < mN S) : aG (zTh S nu kd sz rr pl) = aG S := G_id (mk_a (Or.inl rfl) hN hr) (funext (fun _ => zTh_lo (by decide) hN)) (funext (fun _ => zTh_lo (by decide) hN))
/-! writes -/
theorem G_p8 (hR : xB S R) : aG (ma_put S 83 n (.inl x)) = ma_u (aG S) 83 n x := by
  have e := (xC_n (W := 75) (c := 83) (k := n) (x := x) (xC_o hR) ⟨by decide, Or.inl ⟨rfl, by first | rfl | (cases n <;> rfl)⟩⟩).1
  refine G_of (fun c₉ k w w2 => ?_) (fun k => ?_) (fun k => ?_)
  · rw [e, xu_o (fun z => by omega), aG_o w w2]
  · rw [xu_o (fun z => by omega), aG_7]
    unfold zfG
    have r : ∀ j, mI (ma_put S 83 n (.inl x)) 82 j = mI S 82 j := fun j => by
      show (if (82 : Nat) = 83 ∧ j = n then x else mI S 82 j) = _
      rw [if_neg (fun z => by omega)]
    simp only [r]
  · show (if (83 : Nat) = 83 ∧ k = n then x else aG S 83 k) = (if (83 : Nat) = 83 ∧ k = n then x else mI S 83 k)
    rw [aG_8]
theorem G_pk (hR : xB S R) (hk : (n = 6 ∧ k = 10) ∨ (n = 7 ∧ k = 3) ∨ (n = 8 ∧ k = 4)) : aG (ma_put S 82 n (.inl x)) = ma_u (aG S) 87 k x := by
  have e := (xC_n (W := 75) (c := 82) (k := n) (x := x) (xC_o hR) ⟨by decide, Or.inl ⟨rfl, by first | rfl | (cases n <;> rfl)⟩⟩).1
  refine G_of (fun c₉ k₉ w w2 => ?_) (fun k₉ => ?_) (fun k₉ => ?_)
  · rw [e, xu_o (fun z => by omega), aG_o w w2]
  · have r : ∀ j, mI (ma_put S 82 n (.inl x)) 82 j = if j = n then x else mI S 82 j := fun j => by
      show (if (82 : Nat) = 82 ∧ j = n then x else mI S 82 j) = _
      by_cases w : j = n
      · rw [if_pos ⟨rfl, w⟩, if_pos w]
      · rw [if_neg (fun z => w z.2), if_neg w]
    show (if (87 : Nat) = 87 ∧ k₉ = k then x else aG S 87 k₉) = zfG (mI (ma_put S 82 n (.inl x))) k₉
    rw [aG_7]
    unfold zfG
    simp only [r]
    rcases hk with ⟨h1, h2⟩ | ⟨h1, h2⟩ | ⟨h1, h2⟩ <;> (subst h1; subst h2; by_cases w : k₉ = 10 <;> by_cases w3 : k₉ = 3 <;> by_cases w4 : k₉ = 4 <;> simp [w, w3, w4] <;> omega)
  · rw [xu_o (fun z => by omega), aG_8]
    show _ = (if (83 : Nat) = 82 ∧ k₉ = n then x else mI S 83 k₉)
    rw [if_neg (fun z => by omega)]
theorem G_p5 (hR : xB S R) (e : zTa R y = some c) : aG (ma_put S c 5 (.inl x)) = ma_u (aG S) 131 y.toNatClampNeg x := by
  have q := (xC_t (W := 75) (x := x) (xC_o hR) xW75 e (k := 5) rfl).1
  have h6 := (xB_th (W := 75) hR e).1
  have h126 : 126 ≤ c := (hR.2 _ c (zTa_n e) (zTa_p e).2.2).1
  have r : ∀ d j, d < 126 → mI (ma_put S c 5 (.inl x)) d j = mI S d j := fun d j hd => if_neg (fun z => by omega)
  refine G_of (fun c₉ k₉ w w2 => ?_) (fun k₉ => ?_) (fun k₉ => ?_)
  · rw [q]
    show (if c₉ = 131 ∧ k₉ = y.toNatClampNeg then x else aS 75 S c₉ k₉) = (if c₉ = 131 ∧ k₉ = y.toNatClampNeg then x else aG S c₉ k₉)
    rw [aG_o w w2]
  · rw [xu_o (fun z => by omega), aG_7]
    unfold zfG
    rw [r 82 _ (by decide), r 82 _ (by decide), r 82 _ (by decide), r 82 _ (by decide), r 82 _ (by decide), r 82 _ (by decide), r 82 _ (by decide)]
  · rw [xu_o (fun z => by omega), aG_8, r 83 _ (by decide)]
theorem xB_5 (hR : xB S R) (e : zTa R y = some c) : mI S c 5 = aG S 131 y.toNatClampNeg := by
  have p := zTa_p e
  have hn := zTa_n e
  have h : mR S 70 y.toNatClampNeg = some c := by rw [hR.1]; exact p.2.2
  rw [aG_o (by decide) (by decide)]
  exact (aTf_c hn h).symm
end F20

