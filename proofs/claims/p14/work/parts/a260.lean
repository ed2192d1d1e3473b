/-! from 95.t04 -/
/-! REGIONS, the reference (written by wip/tools/gen15t.py) -/
set_option maxHeartbeats 8000000 in
theorem lp_235rz_199 {X : Nat × (Nat → Int32)} {P : Option ma_V → (Nat → Nat → Int32) → Prop} {T : Nat} {aa : Nat→Nat→Int32} {ro : Int32} {m0 : Nat → Nat → Int32} (h0 : zV m0) (K : ∀ v m₉, zF wr_235 m0 m₉ → zV m₉ → (zGW T (m₉ 94 55) (m₉ 109)) → (zGU T (m₉ 94 46) (m₉ 99)) → (zOw (m₉ 99) (m₉ 103) (m₉ 111)) → (zRG1 (m₉ 94 18) (m₉ 94 64) (m₉ 94 63) (m₉ 99) (m₉ 103) (m₉ 102) (m₉ 116)) → (qRB (m₉ 99) (m₉ 100) (m₉ 98) (m₉ 101) (m₉ 102) (m₉ 103) (m₉ 107) (m₉ 108) (m₉ 109) (m₉ 111) (m₉ 112) (m₉ 113) (m₉ 114) (m₉ 94 55) (m₉ 94 46) ro 0 0 0 1 (rCl aa)) → (qRv (rCl aa)) → (qRL (rCl aa) (m₉ 94 18) (m₉ 94 64) (m₉ 94 19) (m₉ 94 63) (m₉ 116)) → ((m₉ 94 45).toInt = sm (zbU (m₉ 99)) (m₉ 102) 3100) → P (some (.inl v)) m₉) {n161 : Nat} (OUT161 : ∀ (m₉ : Nat → Nat → Int32) (l1 : Int32) (l2 : Int32) (l3 : Int32) (l4 : Int32), (((128 - cnt (m₉ 124) 128 : Nat) : Int)).toNat < n161 → zF wr_235 m0 m₉ → zV m₉ → (0 ≤ l3.toInt) → (l3.toInt ≤ 1) → (-1 ≤ l2.toInt ∧ l2.toInt < (m₉ 94 64).toInt) → (l4.toInt = -1 ∨ (0 ≤ l4.toInt ∧ l4.toInt < (m₉ 94 64).toInt ∧ (m₉ 124) l4.toNatClampNeg = 0)) → (T ≤ 512) → (zW (m₉ 94 7) (m₉ 98) (m₉ 101) (m₉ 102) (m₉ 108)) → (zGW T (m₉ 94 55) (m₉ 109)) → (zGU T (m₉ 94 46) (m₉ 99)) → (zOw (m₉ 99) (m₉ 103) (m₉ 111)) → ((m₉ 94 10).toInt = 6 ∧ (m₉ 94 58).toInt = 0) → ((m₉ 94 45).toInt = sm (zbU (m₉ 99)) (m₉ 102) 3100) → (zRG1 (m₉ 94 18) (m₉ 94 64) (m₉ 94 63) (m₉ 99) (m₉ 103) (m₉ 102) (m₉ 116)) → (qZO (m₉ 99) (m₉ 100) (m₉ 98) (m₉ 101) (m₉ 102) (m₉ 103) (m₉ 107) (m₉ 108) (m₉ 109) (m₉ 111) (m₉ 112) (m₉ 113) (m₉ 114) (m₉ 94 55) (m₉ 94 46) ro (m₉ 94 18) (m₉ 94 64) (m₉ 94 19) (m₉ 94 63) (m₉ 116) (m₉ 122) (m₉ 123) (m₉ 124) l2.toInt l3.toInt l4.toInt (rC0 aa)) → zm X 5 108 235 161 [(0, .inr (.inr (some 94))), (1, .inl l1), (2, .inl l2), (3, .inl l3), (4, .inl l4)] m₉ P) : ∀ (n : Nat) (m : Nat → Nat → Int32) (l1 : Int32) (l2 : Int32) (l3 : Int32) (l4 : Int32) (l5 : Int32) (l6 : Int32), (l6.toInt - l5.toInt).toNat = n → zF wr_235 m0 m → zV m → (0 ≤ l3.toInt) → (l3.toInt ≤ 1) → (-1 ≤ l2.toInt ∧ l2.toInt < (m 94 64).toInt) → (0 ≤ l4.toInt) → (l4.toInt < (m 94 64).toInt) → (0 ≤ l5.toInt) → (l6.toInt ≤ 1500) → (l5.toInt ≤ 1600) → (128 - cnt (m 124) 128 < n161) → (T ≤ 512) → (zW (m 94 7) (m 98) (m 101) (m 102) (m 108)) → (zGW T (m 94 55) (m 109)) → (zGU T (m 94 46) (m 99)) → (zOw (m 99) (m 103) (m 111)) → ((m 94 10).toInt = 6 ∧ (m 94 58).toInt = 0) → ((m 94 45).toInt = sm (zbU (m 99)) (m 102) 3100) → (zRG1 (m 94 18) (m 94 64) (m 94 63) (m 99) (m 103) (m 102) (m 116)) → (qZI (m 99) (m 100) (m 98) (m 101) (m 102) (m 103) (m 107) (m 108) (m 109) (m 111) (m 112) (m 113) (m 114) (m 94 55) (m 94 46) ro (m 94 18) (m 94 64) (m 94 19) (m 94 63) (m 116) (m 122) (m 123) (m 124) l2.toInt l3.toInt l4.toInt l5.toInt l6.toInt (rC0 aa)) → zm X 5 108 235 199 [(0, .inr (.inr (some 94))), (1, .inl l1), (2, .inl l2), (3, .inl l3), (4, .inl l4), (5, .inl l5), (6, .inl l6)] m P := by
  intro n
  induction n using Nat.strongRecOn with
  | _ n IH =>
    intro m l1 l2 l3 l4 l5 l6 hmu hF hV hi0 hi1 hi2 hi3 hi4 hi5 hi6 hi7 r_MD hi9 r_W r_GW r_GU r_OW hi14 r_WTS r_RG r_ZI
    refine g_235_199 l1 l2 l3 l4 l5 l6 ?_
    have f1 : 0 ≤ (m 94 64).toInt ∧ (m 94 64).toInt ≤ 93 := rs_94_64 (m := m) hV
    have f2 : 0 ≤ (m 94 10).toInt ∧ (m 94 10).toInt ≤ 6 := rs_94_10 (m := m) hV
    have f3 : 0 ≤ (m 94 58).toInt ∧ (m 94 58).toInt ≤ 1 := rs_94_58 (m := m) hV
    obtain ⟨c, cR, cV, cL, cM, cN, cq, c1, c0⟩ := r_ZI
    have b4 := i_bd l6
    have b5 := i_bd l5
    refine zd (fun (h6 : l6 ≤ l5) => ?_) (fun (h6 : ¬ l6 ≤ l5) => ?_)
    · skip
      have g7 := i_le h6
      have b8 := i_bd l3
      have li9 : (0 : Int32).toInt = 0 := rfl
      refine zd (fun (h10 : l3 = (0 : Int32)) => ?_) (fun (h10 : ¬ l3 = (0 : Int32)) => ?_)
      · skip
        have g11 := i_eq h10
        refine sp_236rz (aa := (ma_u c 93 l4.toInt.toNat 0)) (tt := l2.toInt)  hV (show qRv (ma_u c 93 l4.toInt.toNat 0) from by first | (exact (ZI_o0 cR cV cL cM cN cq (c0 (by omega))).2.1) | (exfalso; omega; done) | (exfalso; contradiction; done)) (show qRL (ma_u c 93 l4.toInt.toNat 0) (m 94 18) (m 94 64) (m 94 19) (m 94 63) (m 116) from by first | (exact (ZI_o0 cR cV cL cM cN cq (c0 (by omega))).2.2.2.1) | (exfalso; omega; done) | (exfalso; contradiction; done)) (show qLv (ma_u c 93 l4.toInt.toNat 0) l2.toInt from by first | (exact (ZI_o0 cR cV cL cM cN cq (c0 (by omega))).2.2.1) | (exfalso; omega; done) | (exfalso; contradiction; done)) (show qLR (ma_u c 93 l4.toInt.toNat 0) (m 94 64) (m 94 19) (m 94 18) (m 94 63) (m 122) (m 123) (m 124) from by first | (exact (ZI_o0 cR cV cL cM cN cq (c0 (by omega))).2.2.2.2.1) | (exfalso; omega; done) | (exfalso; contradiction; done)) (fun v2 m1 hV_m1 p0_m1 p1_m1 => zmi_n ?_)
        have p0_m1 : v2.toInt = -1 ∨ (0 ≤ v2.toInt ∧ v2.toInt < (m 94 64).toInt ∧ (m 124) v2.toNatClampNeg = 0) := p0_m1
        have p1_m1 : qEq v2.toInt (rFw (ma_u c 93 l4.toInt.toNat 0)) := p1_m1
        try have rpr := r_RG.2.2.2.1
        try have rsi := r_RG.1
        try have rrg := r_RG.2.1
        try have rml := RG_ml (r := l4) r_RG (by have := rs_94_18 hV; omega) (by have := rs_94_64 hV; omega)
        try have rml2 := RG_ml (r := l2) r_RG (by have := rs_94_18 hV; omega) (by have := rs_94_64 hV; omega)
        have b12 := i_bd l1
        have b13 := i_bd l2
        have b14 := i_bd v2
        exact OUT161 _ (l1) (l2) (l3) (v2) (show (((128 - cnt (m 124) 128 : Nat) : Int)).toNat < n161 from by omega) (zF_zov hF ws_236_235) hV_m1 (by omega) (by omega) (show -1 ≤ l2.toInt ∧ l2.toInt < (m 94 64).toInt from by omega) p0_m1 (by omega) r_W r_GW r_GU r_OW (show (m 94 10).toInt = 6 ∧ (m 94 58).toInt = 0 from by omega) r_WTS r_RG (show qZO (m 99) (m 100) (m 98) (m 101) (m 102) (m 103) (m 107) (m 108) (m 109) (m 111) (m 112) (m 113) (m 114) (m 94 55) (m 94 46) ro (m 94 18) (m 94 64) (m 94 19) (m 94 63) (m 116) (m 122) (m 123) (m 124) l2.toInt l3.toInt v2.toInt (rC0 aa) from by first | (exact ZO_1 (ZI_o1 cR cV cL cM cN cq (c1 (by omega)) (by omega) (fun r => mu_at r)) p1_m1 (by omega)) | (exact ZO_2 (ZI_o0 cR cV cL cM cN cq (c0 (by omega))) (by omega)) | (exfalso; omega; done) | (exfalso; contradiction; done))
      · skip
        have g15 := i_ne h10
        have b16 := i_bd l4
        try have rpr := r_RG.2.2.2.1
        try have rsi := r_RG.1
        try have rrg := r_RG.2.1
        try have rml := RG_ml (r := l4) r_RG (by have := rs_94_18 hV; omega) (by have := rs_94_64 hV; omega)
        try have rml2 := RG_ml (r := l2) r_RG (by have := rs_94_18 hV; omega) (by have := rs_94_64 hV; omega)
        have hg17 : (0 ≤ l4 ∧ l4.toNatClampNeg < 128) := i_ix (by omega) (by omega)
        refine ⟨hg17, ?_⟩
        have hV18 : zV (ma_u m 116 l4.toNatClampNeg (0 : Int32)) := ua_116 hV (by omega) (by omega)
        refine sp_236rz (aa := (ma_u (ma_u c 93 l4.toInt.toNat 0) 92 l4.toInt.toNat 0)) (tt := l2.toInt)  hV18 (show qRv (ma_u (ma_u c 93 l4.toInt.toNat 0) 92 l4.toInt.toNat 0) from by first | (exact (ZI_o1 cR cV cL cM cN cq (c1 (by omega)) (by omega) (fun r => mu_at r)).2.1) | (exfalso; omega; done) | (exfalso; contradiction; done)) (show qRL (ma_u (ma_u c 93 l4.toInt.toNat 0) 92 l4.toInt.toNat 0) (m 94 18) (m 94 64) (m 94 19) (m 94 63) ((ma_u m 116 l4.toNatClampNeg (0 : Int32)) 116) from by first | (exact (ZI_o1 cR cV cL cM cN cq (c1 (by omega)) (by omega) (fun r => mu_at r)).2.2.2.1) | (exfalso; omega; done) | (exfalso; contradiction; done)) (show qLv (ma_u (ma_u c 93 l4.toInt.toNat 0) 92 l4.toInt.toNat 0) l2.toInt from by first | (exact (ZI_o1 cR cV cL cM cN cq (c1 (by omega)) (by omega) (fun r => mu_at r)).2.2.1) | (exfalso; omega; done) | (exfalso; contradiction; done)) (show qLR (ma_u (ma_u c 93 l4.toInt.toNat 0) 92 l4.toInt.toNat 0) (m 94 64) (m 94 19) (m 94 18) (m 94 63) (m 122) (m 123) (m 124) from by first | (exact (ZI_o1 cR cV cL cM cN cq (c1 (by omega)) (by omega) (fun r => mu_at r)).2.2.2.2.1) | (exfalso; omega; done) | (exfalso; contradiction; done)) (fun v4 m3 hV_m3 p0_m3 p1_m3 => zmi_n ?_)
        have p0_m3 : v4.toInt = -1 ∨ (0 ≤ v4.toInt ∧ v4.toInt < (m 94 64).toInt ∧ (m 124) v4.toNatClampNeg = 0) := p0_m3
        have p1_m3 : qEq v4.toInt (rFw (ma_u (ma_u c 93 l4.toInt.toNat 0) 92 l4.toInt.toNat 0)) := p1_m3
        try have rpr := r_RG.2.2.2.1
        try have rsi := r_RG.1
        try have rrg := r_RG.2.1
        try have rml := RG_ml (r := l4) r_RG (by have := rs_94_18 hV; omega) (by have := rs_94_64 hV; omega)
        try have rml2 := RG_ml (r := l2) r_RG (by have := rs_94_18 hV; omega) (by have := rs_94_64 hV; omega)
        have b19 := i_bd l1
        have b20 := i_bd l2
        have b21 := i_bd v4
        exact OUT161 _ (l1) (l2) (l3) (v4) (show (((128 - cnt (m 124) 128 : Nat) : Int)).toNat < n161 from by omega) (zF_zov (zF_u hF rfl) ws_236_235) hV_m3 (by omega) (by omega) (show -1 ≤ l2.toInt ∧ l2.toInt < (m 94 64).toInt from by omega) p0_m3 (by omega) r_W r_GW r_GU r_OW (show (m 94 10).toInt = 6 ∧ (m 94 58).toInt = 0 from by omega) r_WTS (show zRG1 (m 94 18) (m 94 64) (m 94 63) (m 99) (m 103) (m 102) ((ma_u m 116 l4.toNatClampNeg (0 : Int32)) 116) from by first | (exact RG_put r_RG (by omega)) | (exfalso; omega; done) | (exfalso; contradiction; done)) (show qZO (m 99) (m 100) (m 98) (m 101) (m 102) (m 103) (m 107) (m 108) (m 109) (m 111) (m 112) (m 113) (m 114) (m 94 55) (m 94 46) ro (m 94 18) (m 94 64) (m 94 19) (m 94 63) ((ma_u m 116 l4.toNatClampNeg (0 : Int32)) 116) (m 122) (m 123) (m 124) l2.toInt l3.toInt v4.toInt (rC0 aa) from by first | (exact ZO_1 (ZI_o1 cR cV cL cM cN cq (c1 (by omega)) (by omega) (fun r => mu_at r)) p1_m3 (by omega)) | (exact ZO_2 (ZI_o0 cR cV cL cM cN cq (c0 (by omega))) (by omega)) | (exfalso; omega; done) | (exfalso; contradiction; done))
    · skip
      have g22 := i_nle h6
      have b23 := i_bd l3
      have li24 : (0 : Int32).toInt = 0 := rfl
      refine zd (fun (h25 : l3 = (0 : Int32)) => ?_) (fun (h25 : ¬ l3 = (0 : Int32)) => ?_)
      · skip
        have g26 := i_eq h25
        refine zd (fun (h27 : l3 = (0 : Int32)) => ?_) (fun (h27 : ¬ l3 = (0 : Int32)) => ?_)
        · skip
          have g28 := i_eq h27
          refine sp_236rz (aa := (ma_u c 93 l4.toInt.toNat 0)) (tt := l2.toInt)  hV (show qRv (ma_u c 93 l4.toInt.toNat 0) from by first | (exact (ZI_o0 cR cV cL cM cN cq (c0 (by omega))).2.1) | (exfalso; omega; done) | (exfalso; contradiction; done)) (show qRL (ma_u c 93 l4.toInt.toNat 0) (m 94 18) (m 94 64) (m 94 19) (m 94 63) (m 116) from by first | (exact (ZI_o0 cR cV cL cM cN cq (c0 (by omega))).2.2.2.1) | (exfalso; omega; done) | (exfalso; contradiction; done)) (show qLv (ma_u c 93 l4.toInt.toNat 0) l2.toInt from by first | (exact (ZI_o0 cR cV cL cM cN cq (c0 (by omega))).2.2.1) | (exfalso; omega; done) | (exfalso; contradiction; done)) (show qLR (ma_u c 93 l4.toInt.toNat 0) (m 94 64) (m 94 19) (m 94 18) (m 94 63) (m 122) (m 123) (m 124) from by first | (exact (ZI_o0 cR cV cL cM cN cq (c0 (by omega))).2.2.2.2.1) | (exfalso; omega; done) | (exfalso; contradiction; done)) (fun v6 m5 hV_m5 p0_m5 p1_m5 => zmi_n ?_)
          have p0_m5 : v6.toInt = -1 ∨ (0 ≤ v6.toInt ∧ v6.toInt < (m 94 64).toInt ∧ (m 124) v6.toNatClampNeg = 0) := p0_m5
          have p1_m5 : qEq v6.toInt (rFw (ma_u c 93 l4.toInt.toNat 0)) := p1_m5
          try have rpr := r_RG.2.2.2.1
          try have rsi := r_RG.1
          try have rrg := r_RG.2.1
          try have rml := RG_ml (r := l4) r_RG (by have := rs_94_18 hV; omega) (by have := rs_94_64 hV; omega)
          try have rml2 := RG_ml (r := l2) r_RG (by have := rs_94_18 hV; omega) (by have := rs_94_64 hV; omega)
          have b29 := i_bd l1
          have b30 := i_bd l2
          have b31 := i_bd v6
          exact OUT161 _ (l1) (l2) (l3) (v6) (show (((128 - cnt (m 124) 128 : Nat) : Int)).toNat < n161 from by omega) (zF_zov hF ws_236_235) hV_m5 (by omega) (by omega) (show -1 ≤ l2.toInt ∧ l2.toInt < (m 94 64).toInt from by omega) p0_m5 (by omega) r_W r_GW r_GU r_OW (show (m 94 10).toInt = 6 ∧ (m 94 58).toInt = 0 from by omega) r_WTS r_RG (show qZO (m 99) (m 100) (m 98) (m 101) (m 102) (m 103) (m 107) (m 108) (m 109) (m 111) (m 112) (m 113) (m 114) (m 94 55) (m 94 46) ro (m 94 18) (m 94 64) (m 94 19) (m 94 63) (m 116) (m 122) (m 123) (m 124) l2.toInt l3.toInt v6.toInt (rC0 aa) from by first | (exact ZO_1 (ZI_o1 cR cV cL cM cN cq (c1 (by omega)) (by omega) (fun r => mu_at r)) p1_m5 (by omega)) | (exact ZO_2 (ZI_o0 cR cV cL cM cN cq (c0 (by omega))) (by omega)) | (exfalso; omega; done) | (exfalso; contradiction; done))
        · skip
          have g32 := i_ne h27
          have b33 := i_bd l4
          try have rpr := r_RG.2.2.2.1
          try have rsi := r_RG.1
          try have rrg := r_RG.2.1
          try have rml := RG_ml (r := l4) r_RG (by have := rs_94_18 hV; omega) (by have := rs_94_64 hV; omega)
          try have rml2 := RG_ml (r := l2) r_RG (by have := rs_94_18 hV; omega) (by have := rs_94_64 hV; omega)
          have hg34 : (0 ≤ l4 ∧ l4.toNatClampNeg < 128) := i_ix (by omega) (by omega)
          refine ⟨hg34, ?_⟩
          have hV35 : zV (ma_u m 116 l4.toNatClampNeg (0 : Int32)) := ua_116 hV (by omega) (by omega)
          refine sp_236rz (aa := (ma_u (ma_u c 93 l4.toInt.toNat 0) 92 l4.toInt.toNat 0)) (tt := l2.toInt)  hV35 (show qRv (ma_u (ma_u c 93 l4.toInt.toNat 0) 92 l4.toInt.toNat 0) from by first | (exact (ZI_o1 cR cV cL cM cN cq (c1 (by omega)) (by omega) (fun r => mu_at r)).2.1) | (exfalso; omega; done) | (exfalso; contradiction; done)) (show qRL (ma_u (ma_u c 93 l4.toInt.toNat 0) 92 l4.toInt.toNat 0) (m 94 18) (m 94 64) (m 94 19) (m 94 63) ((ma_u m 116 l4.toNatClampNeg (0 : Int32)) 116) from by first | (exact (ZI_o1 cR cV cL cM cN cq (c1 (by omega)) (by omega) (fun r => mu_at r)).2.2.2.1) | (exfalso; omega; done) | (exfalso; contradiction; done)) (show qLv (ma_u (ma_u c 93 l4.toInt.toNat 0) 92 l4.toInt.toNat 0) l2.toInt from by first | (exact (ZI_o1 cR cV cL cM cN cq (c1 (by omega)) (by omega) (fun r => mu_at r)).2.2.1) | (exfalso; omega; done) | (exfalso; contradiction; done)) (show qLR (ma_u (ma_u c 93 l4.toInt.toNat 0) 92 l4.toInt.toNat 0) (m 94 64) (m 94 19) (m 94 18) (m 94 63) (m 122) (m 123) (m 124) from by first | (exact (ZI_o1 cR cV cL cM cN cq (c1 (by omega)) (by omega) (fun r => mu_at r)).2.2.2.2.1) | (exfalso; omega; done) | (exfalso; contradiction; done)) (fun v8 m7 hV_m7 p0_m7 p1_m7 => zmi_n ?_)
          have p0_m7 : v8.toInt = -1 ∨ (0 ≤ v8.toInt ∧ v8.toInt < (m 94 64).toInt ∧ (m 124) v8.toNatClampNeg = 0) := p0_m7
          have p1_m7 : qEq v8.toInt (rFw (ma_u (ma_u c 93 l4.toInt.toNat 0) 92 l4.toInt.toNat 0)) := p1_m7
          try have rpr := r_RG.2.2.2.1
          try have rsi := r_RG.1
          try have rrg := r_RG.2.1
          try have rml := RG_ml (r := l4) r_RG (by have := rs_94_18 hV; omega) (by have := rs_94_64 hV; omega)
          try have rml2 := RG_ml (r := l2) r_RG (by have := rs_94_18 hV; omega) (by have := rs_94_64 hV; omega)
          have b36 := i_bd l1
          have b37 := i_bd l2
          have b38 := i_bd v8
          exact OUT161 _ (l1) (l2) (l3) (v8) (show (((128 - cnt (m 124) 128 : Nat) : Int)).toNat < n161 from by omega) (zF_zov (zF_u hF rfl) ws_236_235) hV_m7 (by omega) (by omega) (show -1 ≤ l2.toInt ∧ l2.toInt < (m 94 64).toInt from by omega) p0_m7 (by omega) r_W r_GW r_GU r_OW (show (m 94 10).toInt = 6 ∧ (m 94 58).toInt = 0 from by omega) r_WTS (show zRG1 (m 94 18) (m 94 64) (m 94 63) (m 99) (m 103) (m 102) ((ma_u m 116 l4.toNatClampNeg (0 : Int32)) 116) from by first | (exact RG_put r_RG (by omega)) | (exfalso; omega; done) | (exfalso; contradiction; done)) (show qZO (m 99) (m 100) (m 98) (m 101) (m 102) (m 103) (m 107) (m 108) (m 109) (m 111) (m 112) (m 113) (m 114) (m 94 55) (m 94 46) ro (m 94 18) (m 94 64) (m 94 19) (m 94 63) ((ma_u m 116 l4.toNatClampNeg (0 : Int32)) 116) (m 122) (m 123) (m 124) l2.toInt l3.toInt v8.toInt (rC0 aa) from by first | (exact ZO_1 (ZI_o1 cR cV cL cM cN cq (c1 (by omega)) (by omega) (fun r => mu_at r)) p1_m7 (by omega)) | (exact ZO_2 (ZI_o0 cR cV cL cM cN cq (c0 (by omega))) (by omega)) | (exfalso; omega; done) | (exfalso; contradiction; done))
      · skip
        have g39 := i_ne h25
        try have rpr := r_RG.2.2.2.1
        try have rsi := r_RG.1
        try have rrg := r_RG.2.1
        try have rml := RG_ml (r := l4) r_RG (by have := rs_94_18 hV; omega) (by have := rs_94_64 hV; omega)
        try have rml2 := RG_ml (r := l2) r_RG (by have := rs_94_18 hV; omega) (by have := rs_94_64 hV; omega)
        have hg40 : (0 ≤ l5 ∧ l5.toNatClampNeg < 4600) := i_ix (by omega) (by omega)
        refine ⟨hg40, ?_⟩
        first | have f41 : -1 ≤ (m 111 l5.toNatClampNeg).toInt ∧ (m 111 l5.toNatClampNeg).toInt ≤ 3099 := ra_111 (m := m) hV (k := l5.toNatClampNeg) (i_ix (n := 4600) (by omega) (by omega)).2 | have b42 := i_bd (m 111 l5.toNatClampNeg)
        refine zd (fun (h43 : (0 : Int32) ≤ (m 111 l5.toNatClampNeg)) => ?_) (fun (h43 : ¬ (0 : Int32) ≤ (m 111 l5.toNatClampNeg)) => ?_)
        · skip
          have g44 := i_le h43
          try have ow5 := r_OW l5.toNatClampNeg (by omega) (by omega)
          try have ra5 := RG_at r_RG (s := (m 111 l5.toNatClampNeg).toNatClampNeg) (by omega) ow5.1
          have hg45 : (0 ≤ (m 111 l5.toNatClampNeg) ∧ (m 111 l5.toNatClampNeg).toNatClampNeg < 3100) := i_ix (by omega) (by omega)
          refine ⟨hg45, ?_⟩
          have b46 := i_bd l2
          refine zd (fun (h47 : l2 < (0 : Int32)) => ?_) (fun (h47 : ¬ l2 < (0 : Int32)) => ?_)
          · skip
            have g48 := i_lt h47
            refine sp_234rz (aa := c)  hV (show qRv c from by first | (exact cV) | (exfalso; omega; done) | (exfalso; contradiction; done)) (show qRL c (m 94 18) (m 94 64) (m 94 19) (m 94 63) (m 116) from by first | (exact cM) | (exfalso; omega; done) | (exfalso; contradiction; done)) (fun v10 m9 hV_m9 p0_m9 p1_m9 => zmi_n ?_)
            have p0_m9 : zLE (m 116) (m 94 64) v10 := p0_m9
            have p1_m9 : qEq v10.toInt (rLe c) := p1_m9
            try have lel := LE_lo p0_m9
            try have lno := LE_no (pr := m 94 63) p0_m9 (by assumption) (by omega) (by omega)
            try have lrg := RG_LE r_RG p0_m9 (by have := rs_94_18 hV; omega) (by have := rs_94_64 hV; omega)
            have b49 := i_bd v10
            refine zd (fun (h50 : (0 : Int32) ≤ v10) => ?_) (fun (h50 : ¬ (0 : Int32) ≤ v10) => ?_)
            · skip
              have g51 := i_le h50
              refine zd (fun (h52 : l3 = (0 : Int32)) => ?_) (fun (h52 : ¬ l3 = (0 : Int32)) => ?_)
              · skip
                have g53 := i_eq h52
                try have rpr := r_RG.2.2.2.1
                try have rsi := r_RG.1
                try have rrg := r_RG.2.1
                try have rml := RG_ml (r := l4) r_RG (by have := rs_94_18 hV; omega) (by have := rs_94_64 hV; omega)
                try have rml2 := RG_ml (r := l2) r_RG (by have := rs_94_18 hV; omega) (by have := rs_94_64 hV; omega)
                have b54 := i_bd l1
                have b55 := i_bd l4
                first | have f56 : 0 ≤ (m 102 (m 111 l5.toNatClampNeg).toNatClampNeg).toInt ∧ (m 102 (m 111 l5.toNatClampNeg).toNatClampNeg).toInt ≤ 60 := ra_102 (m := m) hV (k := (m 111 l5.toNatClampNeg).toNatClampNeg) (i_ix (n := 3100) (by omega) (by omega)).2 | have b57 := i_bd (m 102 (m 111 l5.toNatClampNeg).toNatClampNeg)
                first | have e58 : ((m 102 (m 111 l5.toNatClampNeg).toNatClampNeg) + (1 : Int32)).toInt = (m 102 (m 111 l5.toNatClampNeg).toNatClampNeg).toInt + (1) := i_addk rfl (by omega) (by omega) | have b59 := i_bd ((m 102 (m 111 l5.toNatClampNeg).toNatClampNeg) + (1 : Int32))
                first | have e60 : (l5 + ((m 102 (m 111 l5.toNatClampNeg).toNatClampNeg) + (1 : Int32))).toInt = l5.toInt + ((m 102 (m 111 l5.toNatClampNeg).toNatClampNeg) + (1 : Int32)).toInt := i_add (by omega) (by omega) | have b61 := i_bd (l5 + ((m 102 (m 111 l5.toNatClampNeg).toNatClampNeg) + (1 : Int32)))
                exact IH (l6.toInt - (l5 + ((m 102 (m 111 l5.toNatClampNeg).toNatClampNeg) + (1 : Int32))).toInt).toNat (by omega) _ (l1) (v10) (l3) (l4) ((l5 + ((m 102 (m 111 l5.toNatClampNeg).toNatClampNeg) + (1 : Int32)))) (l6) rfl (zF_zov hF ws_234_235) hV_m9 (by omega) (by omega) (show -1 ≤ v10.toInt ∧ v10.toInt < (m 94 64).toInt from by omega) (by omega) (show l4.toInt < (m 94 64).toInt from by omega) (by omega) (by omega) (by omega) r_MD (by omega) r_W r_GW r_GU r_OW (show (m 94 10).toInt = 6 ∧ (m 94 58).toInt = 0 from by omega) r_WTS r_RG (show qZI (m 99) (m 100) (m 98) (m 101) (m 102) (m 103) (m 107) (m 108) (m 109) (m 111) (m 112) (m 113) (m 114) (m 94 55) (m 94 46) ro (m 94 18) (m 94 64) (m 94 19) (m 94 63) (m 116) (m 122) (m 123) (m 124) v10.toInt l3.toInt l4.toInt (l5 + ((m 102 (m 111 l5.toNatClampNeg).toNatClampNeg) + (1 : Int32))).toInt l6.toInt (rC0 aa) from by first | (exact ZI_no cR cV cL cM cN cq (c1 (by omega)) (s := (m 111 l5.toNatClampNeg)) r_OW (by omega) (by omega) (by omega) rfl (by omega) (by omega) ((TO_l cV cM (by omega) (Or.inl (by omega)) (qE2 p1_m9)).trans (by omega))) | (exact ZI_no cR cV cL cM cN cq (c1 (by omega)) (s := (m 111 l5.toNatClampNeg)) r_OW (by omega) (by omega) (by omega) rfl (by omega) (by omega) ((TO_l cV cM (by omega) (Or.inr (by omega)) (qE2 p1_m9)).trans (by omega))) | (exfalso; omega; done) | (exfalso; contradiction; done))
              · skip
                have g62 := i_ne h52
                try have rpr := r_RG.2.2.2.1
                try have rsi := r_RG.1
                try have rrg := r_RG.2.1
                try have rml := RG_ml (r := l4) r_RG (by have := rs_94_18 hV; omega) (by have := rs_94_64 hV; omega)
                try have rml2 := RG_ml (r := l2) r_RG (by have := rs_94_18 hV; omega) (by have := rs_94_64 hV; omega)
                have hg63 : (0 ≤ v10 ∧ v10.toNatClampNeg < 128) := i_ix (by omega) (by omega)
                refine ⟨hg63, ?_⟩
                have f64 : 0 ≤ (m 94 18).toInt ∧ (m 94 18).toInt ≤ 256 := rs_94_18 (m := m) hV
                first | have f65 := i_muln (x := v10) (y := (m 94 18)) (by omega) (by omega) (by omega) (by omega) | have b66 := i_bd (v10 * (m 94 18))
                first | have f67 : 0 ≤ (m 116 v10.toNatClampNeg).toInt ∧ (m 116 v10.toNatClampNeg).toInt ≤ 4600 := ra_116 (m := m) hV (k := v10.toNatClampNeg) (i_ix (n := 128) (by omega) (by omega)).2 | have b68 := i_bd (m 116 v10.toNatClampNeg)
                first | have e69 : ((v10 * (m 94 18)) + (m 116 v10.toNatClampNeg)).toInt = (v10 * (m 94 18)).toInt + (m 116 v10.toNatClampNeg).toInt := i_add (by omega) (by omega) | have b70 := i_bd ((v10 * (m 94 18)) + (m 116 v10.toNatClampNeg))
                refine sp_205 ((m 111 l5.toNatClampNeg)) (((v10 * (m 94 18)) + (m 116 v10.toNatClampNeg))) hV_m9 (by omega) (by omega) (by omega) (by omega) (show (m 99) (m 111 l5.toNatClampNeg).toNatClampNeg ≠ 0 from by first | (assumption; done) | (exact ow5.1) | (exact ow3.1) | (exfalso; omega; done) | (exfalso; contradiction; done)) r_OW (fun m11 hV_m11 p0_m11 p1_m11 => zmv_n ?_)
                have p0_m11 : zOw (m 99) (m11 103) (m11 111) := p0_m11
                have p1_m11 : zmov (m 111 l5.toNatClampNeg) ((v10 * (m 94 18)) + (m 116 v10.toNatClampNeg)) (m 103) (m 111) (m11 103) (m11 111) := p1_m11
                try have mvs := mv_s p1_m11
                try have rpr := r_RG.2.2.2.1
                try have rsi := r_RG.1
                try have rrg := r_RG.2.1
                try have rml := RG_ml (r := l4) r_RG (by have := rs_94_18 hV; omega) (by have := rs_94_64 hV; omega)
                try have rml2 := RG_ml (r := l2) r_RG (by have := rs_94_18 hV; omega) (by have := rs_94_64 hV; omega)
                have hg71 : (0 ≤ v10 ∧ v10.toNatClampNeg < 128) := i_ix (by omega) (by omega)
                refine ⟨hg71, ?_⟩
                try have ow5 := p0_m11 l5.toNatClampNeg (by omega) (by omega)
                try have ra5 := RG_at r_RG (s := (m 111 l5.toNatClampNeg).toNatClampNeg) (by omega) ow5.1
                have hg72 : (0 ≤ (m 111 l5.toNatClampNeg) ∧ (m 111 l5.toNatClampNeg).toNatClampNeg < 3100) := i_ix (by omega) (by omega)
                refine ⟨hg72, ?_⟩
                try have rpr := r_RG.2.2.2.1
                try have rsi := r_RG.1
                try have rrg := r_RG.2.1
                try have rml := RG_ml (r := l4) r_RG (by have := rs_94_18 hV; omega) (by have := rs_94_64 hV; omega)
                try have rml2 := RG_ml (r := l2) r_RG (by have := rs_94_18 hV; omega) (by have := rs_94_64 hV; omega)
                have hg73 : (0 ≤ v10 ∧ v10.toNatClampNeg < 128) := i_ix (by omega) (by omega)
                refine ⟨hg73, ?_⟩
                try have rpr := r_RG.2.2.2.1
                try have rsi := r_RG.1
                try have rrg := r_RG.2.1
                try have rml := RG_ml (r := l4) r_RG (by have := rs_94_18 hV; omega) (by have := rs_94_64 hV; omega)
                try have rml2 := RG_ml (r := l2) r_RG (by have := rs_94_18 hV; omega) (by have := rs_94_64 hV; omega)
                first | have f75 : 0 ≤ (m 102 (m 111 l5.toNatClampNeg).toNatClampNeg).toInt ∧ (m 102 (m 111 l5.toNatClampNeg).toNatClampNeg).toInt ≤ 60 := ra_102 (m := m) hV (k := (m 111 l5.toNatClampNeg).toNatClampNeg) (i_ix (n := 3100) (by omega) (by omega)).2 | have b76 := i_bd (m 102 (m 111 l5.toNatClampNeg).toNatClampNeg)
                first | have e77 : ((m 102 (m 111 l5.toNatClampNeg).toNatClampNeg) + (1 : Int32)).toInt = (m 102 (m 111 l5.toNatClampNeg).toNatClampNeg).toInt + (1) := i_addk rfl (by omega) (by omega) | have b78 := i_bd ((m 102 (m 111 l5.toNatClampNeg).toNatClampNeg) + (1 : Int32))
                first | have e79 : ((m 116 v10.toNatClampNeg) + ((m 102 (m 111 l5.toNatClampNeg).toNatClampNeg) + (1 : Int32))).toInt = (m 116 v10.toNatClampNeg).toInt + ((m 102 (m 111 l5.toNatClampNeg).toNatClampNeg) + (1 : Int32)).toInt := i_add (by omega) (by omega) | have b80 := i_bd ((m 116 v10.toNatClampNeg) + ((m 102 (m 111 l5.toNatClampNeg).toNatClampNeg) + (1 : Int32)))
                have hV74 : zV (ma_u (zov wr_205 (zov wr_234 m m9) m11) 116 v10.toNatClampNeg ((m 116 v10.toNatClampNeg) + ((m 102 (m 111 l5.toNatClampNeg).toNatClampNeg) + (1 : Int32)))) := ua_116 hV_m11 (by omega) (by omega)
                have b81 := i_bd l1
                have b82 := i_bd l4
                first | have e83 : (l5 + ((m 102 (m 111 l5.toNatClampNeg).toNatClampNeg) + (1 : Int32))).toInt = l5.toInt + ((m 102 (m 111 l5.toNatClampNeg).toNatClampNeg) + (1 : Int32)).toInt := i_add (by omega) (by omega) | have b84 := i_bd (l5 + ((m 102 (m 111 l5.toNatClampNeg).toNatClampNeg) + (1 : Int32)))
                exact IH (l6.toInt - (l5 + ((m 102 (m 111 l5.toNatClampNeg).toNatClampNeg) + (1 : Int32))).toInt).toNat (by omega) _ (l1) (v10) (l3) (l4) ((l5 + ((m 102 (m 111 l5.toNatClampNeg).toNatClampNeg) + (1 : Int32)))) (l6) rfl (zF_u (zF_zov (zF_zov hF ws_234_235) ws_205_235) rfl) hV74 (by omega) (by omega) (show -1 ≤ v10.toInt ∧ v10.toInt < (m 94 64).toInt from by omega) (by omega) (show l4.toInt < (m 94 64).toInt from by omega) (by omega) (by omega) (by omega) r_MD (by omega) r_W r_GW r_GU p0_m11 (show (m 94 10).toInt = 6 ∧ (m 94 58).toInt = 0 from by omega) r_WTS (show zRG1 (m 94 18) (m 94 64) (m 94 63) (m 99) (m11 103) (m 102) ((ma_u m 116 v10.toNatClampNeg ((m 116 v10.toNatClampNeg) + ((m 102 (m 111 l5.toNatClampNeg).toNatClampNeg) + (1 : Int32)))) 116) from by first | (exact RG_put (RG_mv2 r_RG p1_m11 (by omega)) (by omega)) | (exact RG_put r_RG (by omega)) | (exfalso; omega; done) | (exfalso; contradiction; done)) (show qZI (m 99) (m 100) (m 98) (m 101) (m 102) (m11 103) (m 107) (m 108) (m 109) (m11 111) (m 112) (m 113) (m 114) (m 94 55) (m 94 46) ro (m 94 18) (m 94 64) (m 94 19) (m 94 63) ((ma_u m 116 v10.toNatClampNeg ((m 116 v10.toNatClampNeg) + ((m 102 (m 111 l5.toNatClampNeg).toNatClampNeg) + (1 : Int32)))) 116) (m 122) (m 123) (m 124) v10.toInt l3.toInt l4.toInt (l5 + ((m 102 (m 111 l5.toNatClampNeg).toNatClampNeg) + (1 : Int32))).toInt l6.toInt (rC0 aa) from by first | (exact ZI_mv cR cV cL cM cN cq (c1 (by omega)) (s := (m 111 l5.toNatClampNeg)) r_OW (by omega) (by omega) (by omega) rfl (by omega) (by omega) (TO_l cV cM (by omega) (Or.inl (by omega)) p1_m9) (by omega) p1_m11 (by have mm := (i_muln (x := v10) (y := m 94 18) (by omega) (by omega) (by omega) (by have := rs_94_18 hV; omega)).2.2; rw [i_add (by omega) (by omega), mm]) (fun r => mu_at r) (by omega) (by omega)) | (exact ZI_mv cR cV cL cM cN cq (c1 (by omega)) (s := (m 111 l5.toNatClampNeg)) r_OW (by omega) (by omega) (by omega) rfl (by omega) (by omega) (TO_l cV cM (by omega) (Or.inr (by omega)) p1_m9) (by omega) p1_m11 (by have mm := (i_muln (x := v10) (y := m 94 18) (by omega) (by omega) (by omega) (by have := rs_94_18 hV; omega)).2.2; rw [i_add (by omega) (by omega), mm]) (fun r => mu_at r) (by omega) (by omega)) | (exfalso; omega; done) | (exfalso; contradiction; done))
            · skip
              have g85 := i_nle h50
              try have rpr := r_RG.2.2.2.1
              try have rsi := r_RG.1
              try have rrg := r_RG.2.1
              try have rml := RG_ml (r := l4) r_RG (by have := rs_94_18 hV; omega) (by have := rs_94_64 hV; omega)
              try have rml2 := RG_ml (r := l2) r_RG (by have := rs_94_18 hV; omega) (by have := rs_94_64 hV; omega)
              have b86 := i_bd l1
              have b87 := i_bd l4
              first | have f88 : 0 ≤ (m 102 (m 111 l5.toNatClampNeg).toNatClampNeg).toInt ∧ (m 102 (m 111 l5.toNatClampNeg).toNatClampNeg).toInt ≤ 60 := ra_102 (m := m) hV (k := (m 111 l5.toNatClampNeg).toNatClampNeg) (i_ix (n := 3100) (by omega) (by omega)).2 | have b89 := i_bd (m 102 (m 111 l5.toNatClampNeg).toNatClampNeg)
              first | have e90 : ((m 102 (m 111 l5.toNatClampNeg).toNatClampNeg) + (1 : Int32)).toInt = (m 102 (m 111 l5.toNatClampNeg).toNatClampNeg).toInt + (1) := i_addk rfl (by omega) (by omega) | have b91 := i_bd ((m 102 (m 111 l5.toNatClampNeg).toNatClampNeg) + (1 : Int32))
              first | have e92 : (l5 + ((m 102 (m 111 l5.toNatClampNeg).toNatClampNeg) + (1 : Int32))).toInt = l5.toInt + ((m 102 (m 111 l5.toNatClampNeg).toNatClampNeg) + (1 : Int32)).toInt := i_add (by omega) (by omega) | have b93 := i_bd (l5 + ((m 102 (m 111 l5.toNatClampNeg).toNatClampNeg) + (1 : Int32)))
              exact IH (l6.toInt - (l5 + ((m 102 (m 111 l5.toNatClampNeg).toNatClampNeg) + (1 : Int32))).toInt).toNat (by omega) _ (l1) (l2) ((0 : Int32)) (l4) ((l5 + ((m 102 (m 111 l5.toNatClampNeg).toNatClampNeg) + (1 : Int32)))) (l6) rfl (zF_zov hF ws_234_235) hV_m9 (by omega) (by omega) (show -1 ≤ l2.toInt ∧ l2.toInt < (m 94 64).toInt from by omega) (by omega) (show l4.toInt < (m 94 64).toInt from by omega) (by omega) (by omega) (by omega) r_MD (by omega) r_W r_GW r_GU r_OW (show (m 94 10).toInt = 6 ∧ (m 94 58).toInt = 0 from by omega) r_WTS r_RG (show qZI (m 99) (m 100) (m 98) (m 101) (m 102) (m 103) (m 107) (m 108) (m 109) (m 111) (m 112) (m 113) (m 114) (m 94 55) (m 94 46) ro (m 94 18) (m 94 64) (m 94 19) (m 94 63) (m 116) (m 122) (m 123) (m 124) l2.toInt (0 : Int32).toInt l4.toInt (l5 + ((m 102 (m 111 l5.toNatClampNeg).toNatClampNeg) + (1 : Int32))).toInt l6.toInt (rC0 aa) from by first | (exact ZI_no cR cV cL cM cN cq (c1 (by omega)) (s := (m 111 l5.toNatClampNeg)) r_OW (by omega) (by omega) (by omega) rfl (by omega) (by omega) ((TO_l cV cM (by omega) (Or.inl (by omega)) (qE2 p1_m9)).trans (by omega))) | (exact ZI_no cR cV cL cM cN cq (c1 (by omega)) (s := (m 111 l5.toNatClampNeg)) r_OW (by omega) (by omega) (by omega) rfl (by omega) (by omega) ((TO_l cV cM (by omega) (Or.inr (by omega)) (qE2 p1_m9)).trans (by omega))) | (exfalso; omega; done) | (exfalso; contradiction; done))
          · skip
            have g94 := i_nlt h47
            try have rpr := r_RG.2.2.2.1
            try have rsi := r_RG.1
            try have rrg := r_RG.2.1
            try have rml := RG_ml (r := l4) r_RG (by have := rs_94_18 hV; omega) (by have := rs_94_64 hV; omega)
            try have rml2 := RG_ml (r := l2) r_RG (by have := rs_94_18 hV; omega) (by have := rs_94_64 hV; omega)
            have hg95 : (0 ≤ l2 ∧ l2.toNatClampNeg < 128) := i_ix (by omega) (by omega)
            refine ⟨hg95, ?_⟩
            try have ow5 := r_OW l5.toNatClampNeg (by omega) (by omega)
            try have ra5 := RG_at r_RG (s := (m 111 l5.toNatClampNeg).toNatClampNeg) (by omega) ow5.1
            have hg96 : (0 ≤ (m 111 l5.toNatClampNeg) ∧ (m 111 l5.toNatClampNeg).toNatClampNeg < 3100) := i_ix (by omega) (by omega)
            refine ⟨hg96, ?_⟩
            first | have f97 : 0 ≤ (m 116 l2.toNatClampNeg).toInt ∧ (m 116 l2.toNatClampNeg).toInt ≤ 4600 := ra_116 (m := m) hV (k := l2.toNatClampNeg) (i_ix (n := 128) (by omega) (by omega)).2 | have b98 := i_bd (m 116 l2.toNatClampNeg)
            first | have f99 : 0 ≤ (m 102 (m 111 l5.toNatClampNeg).toNatClampNeg).toInt ∧ (m 102 (m 111 l5.toNatClampNeg).toNatClampNeg).toInt ≤ 60 := ra_102 (m := m) hV (k := (m 111 l5.toNatClampNeg).toNatClampNeg) (i_ix (n := 3100) (by omega) (by omega)).2 | have b100 := i_bd (m 102 (m 111 l5.toNatClampNeg).toNatClampNeg)
            first | have e101 : ((m 102 (m 111 l5.toNatClampNeg).toNatClampNeg) + (1 : Int32)).toInt = (m 102 (m 111 l5.toNatClampNeg).toNatClampNeg).toInt + (1) := i_addk rfl (by omega) (by omega) | have b102 := i_bd ((m 102 (m 111 l5.toNatClampNeg).toNatClampNeg) + (1 : Int32))
            first | have e103 : ((m 116 l2.toNatClampNeg) + ((m 102 (m 111 l5.toNatClampNeg).toNatClampNeg) + (1 : Int32))).toInt = (m 116 l2.toNatClampNeg).toInt + ((m 102 (m 111 l5.toNatClampNeg).toNatClampNeg) + (1 : Int32)).toInt := i_add (by omega) (by omega) | have b104 := i_bd ((m 116 l2.toNatClampNeg) + ((m 102 (m 111 l5.toNatClampNeg).toNatClampNeg) + (1 : Int32)))
            have f105 : 0 ≤ (m 94 18).toInt ∧ (m 94 18).toInt ≤ 256 := rs_94_18 (m := m) hV
            refine zd (fun (h106 : ((m 116 l2.toNatClampNeg) + ((m 102 (m 111 l5.toNatClampNeg).toNatClampNeg) + (1 : Int32))) ≤ (m 94 18)) => ?_) (fun (h106 : ¬ ((m 116 l2.toNatClampNeg) + ((m 102 (m 111 l5.toNatClampNeg).toNatClampNeg) + (1 : Int32))) ≤ (m 94 18)) => ?_)
            · skip
              have g107 := i_le h106
              refine zd (fun (h108 : l3 = (0 : Int32)) => ?_) (fun (h108 : ¬ l3 = (0 : Int32)) => ?_)
              · skip
                have g109 := i_eq h108
                try have rpr := r_RG.2.2.2.1
                try have rsi := r_RG.1
                try have rrg := r_RG.2.1
                try have rml := RG_ml (r := l4) r_RG (by have := rs_94_18 hV; omega) (by have := rs_94_64 hV; omega)
                try have rml2 := RG_ml (r := l2) r_RG (by have := rs_94_18 hV; omega) (by have := rs_94_64 hV; omega)
                have b110 := i_bd l1
                have b111 := i_bd l4
                first | have e112 : (l5 + ((m 102 (m 111 l5.toNatClampNeg).toNatClampNeg) + (1 : Int32))).toInt = l5.toInt + ((m 102 (m 111 l5.toNatClampNeg).toNatClampNeg) + (1 : Int32)).toInt := i_add (by omega) (by omega) | have b113 := i_bd (l5 + ((m 102 (m 111 l5.toNatClampNeg).toNatClampNeg) + (1 : Int32)))
                exact IH (l6.toInt - (l5 + ((m 102 (m 111 l5.toNatClampNeg).toNatClampNeg) + (1 : Int32))).toInt).toNat (by omega) _ (l1) (l2) (l3) (l4) ((l5 + ((m 102 (m 111 l5.toNatClampNeg).toNatClampNeg) + (1 : Int32)))) (l6) rfl hF hV (by omega) (by omega) (show -1 ≤ l2.toInt ∧ l2.toInt < (m 94 64).toInt from by omega) (by omega) (show l4.toInt < (m 94 64).toInt from by omega) (by omega) (by omega) (by omega) r_MD (by omega) r_W r_GW r_GU r_OW (show (m 94 10).toInt = 6 ∧ (m 94 58).toInt = 0 from by omega) r_WTS r_RG (show qZI (m 99) (m 100) (m 98) (m 101) (m 102) (m 103) (m 107) (m 108) (m 109) (m 111) (m 112) (m 113) (m 114) (m 94 55) (m 94 46) ro (m 94 18) (m 94 64) (m 94 19) (m 94 63) (m 116) (m 122) (m 123) (m 124) l2.toInt l3.toInt l4.toInt (l5 + ((m 102 (m 111 l5.toNatClampNeg).toNatClampNeg) + (1 : Int32))).toInt l6.toInt (rC0 aa) from by first | (exact ZI_fr cR cV cL cM cN cq (c1 (by omega)) (by omega) (by omega) (by omega) (by omega) (by omega) (by omega)) | (exfalso; omega; done) | (exfalso; contradiction; done))
              · skip
                have g114 := i_ne h108
                try have rpr := r_RG.2.2.2.1
                try have rsi := r_RG.1
                try have rrg := r_RG.2.1
                try have rml := RG_ml (r := l4) r_RG (by have := rs_94_18 hV; omega) (by have := rs_94_64 hV; omega)
                try have rml2 := RG_ml (r := l2) r_RG (by have := rs_94_18 hV; omega) (by have := rs_94_64 hV; omega)
                have hg115 : (0 ≤ l2 ∧ l2.toNatClampNeg < 128) := i_ix (by omega) (by omega)
                refine ⟨hg115, ?_⟩
                first | have f116 := i_muln (x := l2) (y := (m 94 18)) (by omega) (by omega) (by omega) (by omega) | have b117 := i_bd (l2 * (m 94 18))
                first | have e118 : ((l2 * (m 94 18)) + (m 116 l2.toNatClampNeg)).toInt = (l2 * (m 94 18)).toInt + (m 116 l2.toNatClampNeg).toInt := i_add (by omega) (by omega) | have b119 := i_bd ((l2 * (m 94 18)) + (m 116 l2.toNatClampNeg))
                refine sp_205 ((m 111 l5.toNatClampNeg)) (((l2 * (m 94 18)) + (m 116 l2.toNatClampNeg))) hV (by omega) (by omega) (by omega) (by omega) (show (m 99) (m 111 l5.toNatClampNeg).toNatClampNeg ≠ 0 from by first | (assumption; done) | (exact ow5.1) | (exact ow3.1) | (exfalso; omega; done) | (exfalso; contradiction; done)) r_OW (fun m13 hV_m13 p0_m13 p1_m13 => zmv_n ?_)
                have p0_m13 : zOw (m 99) (m13 103) (m13 111) := p0_m13
                have p1_m13 : zmov (m 111 l5.toNatClampNeg) ((l2 * (m 94 18)) + (m 116 l2.toNatClampNeg)) (m 103) (m 111) (m13 103) (m13 111) := p1_m13
                try have mvs := mv_s p1_m13
                try have rpr := r_RG.2.2.2.1
                try have rsi := r_RG.1
                try have rrg := r_RG.2.1
                try have rml := RG_ml (r := l4) r_RG (by have := rs_94_18 hV; omega) (by have := rs_94_64 hV; omega)
                try have rml2 := RG_ml (r := l2) r_RG (by have := rs_94_18 hV; omega) (by have := rs_94_64 hV; omega)
                have hg120 : (0 ≤ l2 ∧ l2.toNatClampNeg < 128) := i_ix (by omega) (by omega)
                refine ⟨hg120, ?_⟩
                try have ow5 := p0_m13 l5.toNatClampNeg (by omega) (by omega)
                try have ra5 := RG_at r_RG (s := (m 111 l5.toNatClampNeg).toNatClampNeg) (by omega) ow5.1
                have hg121 : (0 ≤ (m 111 l5.toNatClampNeg) ∧ (m 111 l5.toNatClampNeg).toNatClampNeg < 3100) := i_ix (by omega) (by omega)
                refine ⟨hg121, ?_⟩
                try have rpr := r_RG.2.2.2.1
                try have rsi := r_RG.1
                try have rrg := r_RG.2.1
                try have rml := RG_ml (r := l4) r_RG (by have := rs_94_18 hV; omega) (by have := rs_94_64 hV; omega)
                try have rml2 := RG_ml (r := l2) r_RG (by have := rs_94_18 hV; omega) (by have := rs_94_64 hV; omega)
                have hg122 : (0 ≤ l2 ∧ l2.toNatClampNeg < 128) := i_ix (by omega) (by omega)
                refine ⟨hg122, ?_⟩
                try have rpr := r_RG.2.2.2.1
                try have rsi := r_RG.1
                try have rrg := r_RG.2.1
                try have rml := RG_ml (r := l4) r_RG (by have := rs_94_18 hV; omega) (by have := rs_94_64 hV; omega)
                try have rml2 := RG_ml (r := l2) r_RG (by have := rs_94_18 hV; omega) (by have := rs_94_64 hV; omega)
                have hV123 : zV (ma_u (zov wr_205 m m13) 116 l2.toNatClampNeg ((m 116 l2.toNatClampNeg) + ((m 102 (m 111 l5.toNatClampNeg).toNatClampNeg) + (1 : Int32)))) := ua_116 hV_m13 (by omega) (by omega)
                have b124 := i_bd l1
                have b125 := i_bd l4
                first | have e126 : (l5 + ((m 102 (m 111 l5.toNatClampNeg).toNatClampNeg) + (1 : Int32))).toInt = l5.toInt + ((m 102 (m 111 l5.toNatClampNeg).toNatClampNeg) + (1 : Int32)).toInt := i_add (by omega) (by omega) | have b127 := i_bd (l5 + ((m 102 (m 111 l5.toNatClampNeg).toNatClampNeg) + (1 : Int32)))
                exact IH (l6.toInt - (l5 + ((m 102 (m 111 l5.toNatClampNeg).toNatClampNeg) + (1 : Int32))).toInt).toNat (by omega) _ (l1) (l2) (l3) (l4) ((l5 + ((m 102 (m 111 l5.toNatClampNeg).toNatClampNeg) + (1 : Int32)))) (l6) rfl (zF_u (zF_zov hF ws_205_235) rfl) hV123 (by omega) (by omega) (show -1 ≤ l2.toInt ∧ l2.toInt < (m 94 64).toInt from by omega) (by omega) (show l4.toInt < (m 94 64).toInt from by omega) (by omega) (by omega) (by omega) r_MD (by omega) r_W r_GW r_GU p0_m13 (show (m 94 10).toInt = 6 ∧ (m 94 58).toInt = 0 from by omega) r_WTS (show zRG1 (m 94 18) (m 94 64) (m 94 63) (m 99) (m13 103) (m 102) ((ma_u m 116 l2.toNatClampNeg ((m 116 l2.toNatClampNeg) + ((m 102 (m 111 l5.toNatClampNeg).toNatClampNeg) + (1 : Int32)))) 116) from by first | (exact RG_put (RG_mv2 r_RG p1_m13 (by omega)) (by omega)) | (exact RG_put r_RG (by omega)) | (exfalso; omega; done) | (exfalso; contradiction; done)) (show qZI (m 99) (m 100) (m 98) (m 101) (m 102) (m13 103) (m 107) (m 108) (m 109) (m13 111) (m 112) (m 113) (m 114) (m 94 55) (m 94 46) ro (m 94 18) (m 94 64) (m 94 19) (m 94 63) ((ma_u m 116 l2.toNatClampNeg ((m 116 l2.toNatClampNeg) + ((m 102 (m 111 l5.toNatClampNeg).toNatClampNeg) + (1 : Int32)))) 116) (m 122) (m 123) (m 124) l2.toInt l3.toInt l4.toInt (l5 + ((m 102 (m 111 l5.toNatClampNeg).toNatClampNeg) + (1 : Int32))).toInt l6.toInt (rC0 aa) from by first | (exact ZI_mv cR cV cL cM cN cq (c1 (by omega)) (s := (m 111 l5.toNatClampNeg)) r_OW (by omega) (by omega) (by omega) rfl (by omega) (by omega) (TO_y cV cM (by omega) (by omega) (by omega)) (by omega) p1_m13 (by have mm := (i_muln (x := l2) (y := m 94 18) (by omega) (by omega) (by omega) (by have := rs_94_18 hV; omega)).2.2; rw [i_add (by omega) (by omega), mm]) (fun r => mu_at r) (by omega) (by omega)) | (exfalso; omega; done) | (exfalso; contradiction; done))
            · skip
              have g128 := i_nle h106
              refine sp_234rz (aa := c)  hV (show qRv c from by first | (exact cV) | (exfalso; omega; done) | (exfalso; contradiction; done)) (show qRL c (m 94 18) (m 94 64) (m 94 19) (m 94 63) (m 116) from by first | (exact cM) | (exfalso; omega; done) | (exfalso; contradiction; done)) (fun v16 m15 hV_m15 p0_m15 p1_m15 => zmi_n ?_)
              have p0_m15 : zLE (m 116) (m 94 64) v16 := p0_m15
              have p1_m15 : qEq v16.toInt (rLe c) := p1_m15
              try have lel := LE_lo p0_m15
              try have lno := LE_no (pr := m 94 63) p0_m15 (by assumption) (by omega) (by omega)
              try have lrg := RG_LE r_RG p0_m15 (by have := rs_94_18 hV; omega) (by have := rs_94_64 hV; omega)
              have b129 := i_bd v16
              refine zd (fun (h130 : (0 : Int32) ≤ v16) => ?_) (fun (h130 : ¬ (0 : Int32) ≤ v16) => ?_)
              · skip
                have g131 := i_le h130
                refine zd (fun (h132 : l3 = (0 : Int32)) => ?_) (fun (h132 : ¬ l3 = (0 : Int32)) => ?_)
                · skip
                  have g133 := i_eq h132
                  try have rpr := r_RG.2.2.2.1
                  try have rsi := r_RG.1
                  try have rrg := r_RG.2.1
                  try have rml := RG_ml (r := l4) r_RG (by have := rs_94_18 hV; omega) (by have := rs_94_64 hV; omega)
                  try have rml2 := RG_ml (r := l2) r_RG (by have := rs_94_18 hV; omega) (by have := rs_94_64 hV; omega)
                  have b134 := i_bd l1
                  have b135 := i_bd l4
                  first | have e136 : (l5 + ((m 102 (m 111 l5.toNatClampNeg).toNatClampNeg) + (1 : Int32))).toInt = l5.toInt + ((m 102 (m 111 l5.toNatClampNeg).toNatClampNeg) + (1 : Int32)).toInt := i_add (by omega) (by omega) | have b137 := i_bd (l5 + ((m 102 (m 111 l5.toNatClampNeg).toNatClampNeg) + (1 : Int32)))
                  exact IH (l6.toInt - (l5 + ((m 102 (m 111 l5.toNatClampNeg).toNatClampNeg) + (1 : Int32))).toInt).toNat (by omega) _ (l1) (v16) (l3) (l4) ((l5 + ((m 102 (m 111 l5.toNatClampNeg).toNatClampNeg) + (1 : Int32)))) (l6) rfl (zF_zov hF ws_234_235) hV_m15 (by omega) (by omega) (show -1 ≤ v16.toInt ∧ v16.toInt < (m 94 64).toInt from by omega) (by omega) (show l4.toInt < (m 94 64).toInt from by omega) (by omega) (by omega) (by omega) r_MD (by omega) r_W r_GW r_GU r_OW (show (m 94 10).toInt = 6 ∧ (m 94 58).toInt = 0 from by omega) r_WTS r_RG (show qZI (m 99) (m 100) (m 98) (m 101) (m 102) (m 103) (m 107) (m 108) (m 109) (m 111) (m 112) (m 113) (m 114) (m 94 55) (m 94 46) ro (m 94 18) (m 94 64) (m 94 19) (m 94 63) (m 116) (m 122) (m 123) (m 124) v16.toInt l3.toInt l4.toInt (l5 + ((m 102 (m 111 l5.toNatClampNeg).toNatClampNeg) + (1 : Int32))).toInt l6.toInt (rC0 aa) from by first | (exact ZI_no cR cV cL cM cN cq (c1 (by omega)) (s := (m 111 l5.toNatClampNeg)) r_OW (by omega) (by omega) (by omega) rfl (by omega) (by omega) ((TO_l cV cM (by omega) (Or.inl (by omega)) (qE2 p1_m15)).trans (by omega))) | (exact ZI_no cR cV cL cM cN cq (c1 (by omega)) (s := (m 111 l5.toNatClampNeg)) r_OW (by omega) (by omega) (by omega) rfl (by omega) (by omega) ((TO_l cV cM (by omega) (Or.inr (by omega)) (qE2 p1_m15)).trans (by omega))) | (exfalso; omega; done) | (exfalso; contradiction; done))
                · skip
                  have g138 := i_ne h132
                  try have rpr := r_RG.2.2.2.1
                  try have rsi := r_RG.1
                  try have rrg := r_RG.2.1
                  try have rml := RG_ml (r := l4) r_RG (by have := rs_94_18 hV; omega) (by have := rs_94_64 hV; omega)
                  try have rml2 := RG_ml (r := l2) r_RG (by have := rs_94_18 hV; omega) (by have := rs_94_64 hV; omega)
                  have hg139 : (0 ≤ v16 ∧ v16.toNatClampNeg < 128) := i_ix (by omega) (by omega)
                  refine ⟨hg139, ?_⟩
                  first | have f140 := i_muln (x := v16) (y := (m 94 18)) (by omega) (by omega) (by omega) (by omega) | have b141 := i_bd (v16 * (m 94 18))
                  first | have f142 : 0 ≤ (m 116 v16.toNatClampNeg).toInt ∧ (m 116 v16.toNatClampNeg).toInt ≤ 4600 := ra_116 (m := m) hV (k := v16.toNatClampNeg) (i_ix (n := 128) (by omega) (by omega)).2 | have b143 := i_bd (m 116 v16.toNatClampNeg)
                  first | have e144 : ((v16 * (m 94 18)) + (m 116 v16.toNatClampNeg)).toInt = (v16 * (m 94 18)).toInt + (m 116 v16.toNatClampNeg).toInt := i_add (by omega) (by omega) | have b145 := i_bd ((v16 * (m 94 18)) + (m 116 v16.toNatClampNeg))
                  refine sp_205 ((m 111 l5.toNatClampNeg)) (((v16 * (m 94 18)) + (m 116 v16.toNatClampNeg))) hV_m15 (by omega) (by omega) (by omega) (by omega) (show (m 99) (m 111 l5.toNatClampNeg).toNatClampNeg ≠ 0 from by first | (assumption; done) | (exact ow5.1) | (exact ow3.1) | (exfalso; omega; done) | (exfalso; contradiction; done)) r_OW (fun m17 hV_m17 p0_m17 p1_m17 => zmv_n ?_)
                  have p0_m17 : zOw (m 99) (m17 103) (m17 111) := p0_m17
                  have p1_m17 : zmov (m 111 l5.toNatClampNeg) ((v16 * (m 94 18)) + (m 116 v16.toNatClampNeg)) (m 103) (m 111) (m17 103) (m17 111) := p1_m17
                  try have mvs := mv_s p1_m17
                  try have rpr := r_RG.2.2.2.1
                  try have rsi := r_RG.1
                  try have rrg := r_RG.2.1
                  try have rml := RG_ml (r := l4) r_RG (by have := rs_94_18 hV; omega) (by have := rs_94_64 hV; omega)
                  try have rml2 := RG_ml (r := l2) r_RG (by have := rs_94_18 hV; omega) (by have := rs_94_64 hV; omega)
                  have hg146 : (0 ≤ v16 ∧ v16.toNatClampNeg < 128) := i_ix (by omega) (by omega)
                  refine ⟨hg146, ?_⟩
                  try have ow5 := p0_m17 l5.toNatClampNeg (by omega) (by omega)
                  try have ra5 := RG_at r_RG (s := (m 111 l5.toNatClampNeg).toNatClampNeg) (by omega) ow5.1
                  have hg147 : (0 ≤ (m 111 l5.toNatClampNeg) ∧ (m 111 l5.toNatClampNeg).toNatClampNeg < 3100) := i_ix (by omega) (by omega)
                  refine ⟨hg147, ?_⟩
                  try have rpr := r_RG.2.2.2.1
                  try have rsi := r_RG.1
                  try have rrg := r_RG.2.1
                  try have rml := RG_ml (r := l4) r_RG (by have := rs_94_18 hV; omega) (by have := rs_94_64 hV; omega)
                  try have rml2 := RG_ml (r := l2) r_RG (by have := rs_94_18 hV; omega) (by have := rs_94_64 hV; omega)
                  have hg148 : (0 ≤ v16 ∧ v16.toNatClampNeg < 128) := i_ix (by omega) (by omega)
                  refine ⟨hg148, ?_⟩
                  try have rpr := r_RG.2.2.2.1
                  try have rsi := r_RG.1
                  try have rrg := r_RG.2.1
                  try have rml := RG_ml (r := l4) r_RG (by have := rs_94_18 hV; omega) (by have := rs_94_64 hV; omega)
                  try have rml2 := RG_ml (r := l2) r_RG (by have := rs_94_18 hV; omega) (by have := rs_94_64 hV; omega)
                  first | have e150 : ((m 116 v16.toNatClampNeg) + ((m 102 (m 111 l5.toNatClampNeg).toNatClampNeg) + (1 : Int32))).toInt = (m 116 v16.toNatClampNeg).toInt + ((m 102 (m 111 l5.toNatClampNeg).toNatClampNeg) + (1 : Int32)).toInt := i_add (by omega) (by omega) | have b151 := i_bd ((m 116 v16.toNatClampNeg) + ((m 102 (m 111 l5.toNatClampNeg).toNatClampNeg) + (1 : Int32)))
                  have hV149 : zV (ma_u (zov wr_205 (zov wr_234 m m15) m17) 116 v16.toNatClampNeg ((m 116 v16.toNatClampNeg) + ((m 102 (m 111 l5.toNatClampNeg).toNatClampNeg) + (1 : Int32)))) := ua_116 hV_m17 (by omega) (by omega)
                  have b152 := i_bd l1
                  have b153 := i_bd l4
                  first | have e154 : (l5 + ((m 102 (m 111 l5.toNatClampNeg).toNatClampNeg) + (1 : Int32))).toInt = l5.toInt + ((m 102 (m 111 l5.toNatClampNeg).toNatClampNeg) + (1 : Int32)).toInt := i_add (by omega) (by omega) | have b155 := i_bd (l5 + ((m 102 (m 111 l5.toNatClampNeg).toNatClampNeg) + (1 : Int32)))
                  exact IH (l6.toInt - (l5 + ((m 102 (m 111 l5.toNatClampNeg).toNatClampNeg) + (1 : Int32))).toInt).toNat (by omega) _ (l1) (v16) (l3) (l4) ((l5 + ((m 102 (m 111 l5.toNatClampNeg).toNatClampNeg) + (1 : Int32)))) (l6) rfl (zF_u (zF_zov (zF_zov hF ws_234_235) ws_205_235) rfl) hV149 (by omega) (by omega) (show -1 ≤ v16.toInt ∧ v16.toInt < (m 94 64).toInt from by omega) (by omega) (show l4.toInt < (m 94 64).toInt from by omega) (by omega) (by omega) (by omega) r_MD (by omega) r_W r_GW r_GU p0_m17 (show (m 94 10).toInt = 6 ∧ (m 94 58).toInt = 0 from by omega) r_WTS (show zRG1 (m 94 18) (m 94 64) (m 94 63) (m 99) (m17 103) (m 102) ((ma_u m 116 v16.toNatClampNeg ((m 116 v16.toNatClampNeg) + ((m 102 (m 111 l5.toNatClampNeg).toNatClampNeg) + (1 : Int32)))) 116) from by first | (exact RG_put (RG_mv2 r_RG p1_m17 (by omega)) (by omega)) | (exact RG_put r_RG (by omega)) | (exfalso; omega; done) | (exfalso; contradiction; done)) (show qZI (m 99) (m 100) (m 98) (m 101) (m 102) (m17 103) (m 107) (m 108) (m 109) (m17 111) (m 112) (m 113) (m 114) (m 94 55) (m 94 46) ro (m 94 18) (m 94 64) (m 94 19) (m 94 63) ((ma_u m 116 v16.toNatClampNeg ((m 116 v16.toNatClampNeg) + ((m 102 (m 111 l5.toNatClampNeg).toNatClampNeg) + (1 : Int32)))) 116) (m 122) (m 123) (m 124) v16.toInt l3.toInt l4.toInt (l5 + ((m 102 (m 111 l5.toNatClampNeg).toNatClampNeg) + (1 : Int32))).toInt l6.toInt (rC0 aa) from by first | (exact ZI_mv cR cV cL cM cN cq (c1 (by omega)) (s := (m 111 l5.toNatClampNeg)) r_OW (by omega) (by omega) (by omega) rfl (by omega) (by omega) (TO_l cV cM (by omega) (Or.inl (by omega)) p1_m15) (by omega) p1_m17 (by have mm := (i_muln (x := v16) (y := m 94 18) (by omega) (by omega) (by omega) (by have := rs_94_18 hV; omega)).2.2; rw [i_add (by omega) (by omega), mm]) (fun r => mu_at r) (by omega) (by omega)) | (exact ZI_mv cR cV cL cM cN cq (c1 (by omega)) (s := (m 111 l5.toNatClampNeg)) r_OW (by omega) (by omega) (by omega) rfl (by omega) (by omega) (TO_l cV cM (by omega) (Or.inr (by omega)) p1_m15) (by omega) p1_m17 (by have mm := (i_muln (x := v16) (y := m 94 18) (by omega) (by omega) (by omega) (by have := rs_94_18 hV; omega)).2.2; rw [i_add (by omega) (by omega), mm]) (fun r => mu_at r) (by omega) (by omega)) | (exfalso; omega; done) | (exfalso; contradiction; done))
              · skip
                have g156 := i_nle h130
                try have rpr := r_RG.2.2.2.1
                try have rsi := r_RG.1
                try have rrg := r_RG.2.1
                try have rml := RG_ml (r := l4) r_RG (by have := rs_94_18 hV; omega) (by have := rs_94_64 hV; omega)
                try have rml2 := RG_ml (r := l2) r_RG (by have := rs_94_18 hV; omega) (by have := rs_94_64 hV; omega)
                have b157 := i_bd l1
                have b158 := i_bd l4
                first | have e159 : (l5 + ((m 102 (m 111 l5.toNatClampNeg).toNatClampNeg) + (1 : Int32))).toInt = l5.toInt + ((m 102 (m 111 l5.toNatClampNeg).toNatClampNeg) + (1 : Int32)).toInt := i_add (by omega) (by omega) | have b160 := i_bd (l5 + ((m 102 (m 111 l5.toNatClampNeg).toNatClampNeg) + (1 : Int32)))
                exact IH (l6.toInt - (l5 + ((m 102 (m 111 l5.toNatClampNeg).toNatClampNeg) + (1 : Int32))).toInt).toNat (by omega) _ (l1) (l2) ((0 : Int32)) (l4) ((l5 + ((m 102 (m 111 l5.toNatClampNeg).toNatClampNeg) + (1 : Int32)))) (l6) rfl (zF_zov hF ws_234_235) hV_m15 (by omega) (by omega) (show -1 ≤ l2.toInt ∧ l2.toInt < (m 94 64).toInt from by omega) (by omega) (show l4.toInt < (m 94 64).toInt from by omega) (by omega) (by omega) (by omega) r_MD (by omega) r_W r_GW r_GU r_OW (show (m 94 10).toInt = 6 ∧ (m 94 58).toInt = 0 from by omega) r_WTS r_RG (show qZI (m 99) (m 100) (m 98) (m 101) (m 102) (m 103) (m 107) (m 108) (m 109) (m 111) (m 112) (m 113) (m 114) (m 94 55) (m 94 46) ro (m 94 18) (m 94 64) (m 94 19) (m 94 63) (m 116) (m 122) (m 123) (m 124) l2.toInt (0 : Int32).toInt l4.toInt (l5 + ((m 102 (m 111 l5.toNatClampNeg).toNatClampNeg) + (1 : Int32))).toInt l6.toInt (rC0 aa) from by first | (exact ZI_no cR cV cL cM cN cq (c1 (by omega)) (s := (m 111 l5.toNatClampNeg)) r_OW (by omega) (by omega) (by omega) rfl (by omega) (by omega) ((TO_l cV cM (by omega) (Or.inl (by omega)) (qE2 p1_m15)).trans (by omega))) | (exact ZI_no cR cV cL cM cN cq (c1 (by omega)) (s := (m 111 l5.toNatClampNeg)) r_OW (by omega) (by omega) (by omega) rfl (by omega) (by omega) ((TO_l cV cM (by omega) (Or.inr (by omega)) (qE2 p1_m15)).trans (by omega))) | (exfalso; omega; done) | (exfalso; contradiction; done))
        · skip
          have g161 := i_nle h43
          try have rpr := r_RG.2.2.2.1
          try have rsi := r_RG.1
          try have rrg := r_RG.2.1
          try have rml := RG_ml (r := l4) r_RG (by have := rs_94_18 hV; omega) (by have := rs_94_64 hV; omega)
          try have rml2 := RG_ml (r := l2) r_RG (by have := rs_94_18 hV; omega) (by have := rs_94_64 hV; omega)
          have b162 := i_bd l1
          have b163 := i_bd l2
          have b164 := i_bd l4
          first | have e165 : (l5 + (1 : Int32)).toInt = l5.toInt + (1) := i_addk rfl (by omega) (by omega) | have b166 := i_bd (l5 + (1 : Int32))
          exact IH (l6.toInt - (l5 + (1 : Int32)).toInt).toNat (by omega) _ (l1) (l2) (l3) (l4) ((l5 + (1 : Int32))) (l6) rfl hF hV (by omega) (by omega) (show -1 ≤ l2.toInt ∧ l2.toInt < (m 94 64).toInt from by omega) (by omega) (show l4.toInt < (m 94 64).toInt from by omega) (by omega) (by omega) (by omega) r_MD (by omega) r_W r_GW r_GU r_OW (show (m 94 10).toInt = 6 ∧ (m 94 58).toInt = 0 from by omega) r_WTS r_RG (show qZI (m 99) (m 100) (m 98) (m 101) (m 102) (m 103) (m 107) (m 108) (m 109) (m 111) (m 112) (m 113) (m 114) (m 94 55) (m 94 46) ro (m 94 18) (m 94 64) (m 94 19) (m 94 63) (m 116) (m 122) (m 123) (m 124) l2.toInt l3.toInt l4.toInt (l5 + (1 : Int32)).toInt l6.toInt (rC0 aa) from by first | (exact ZI_fr cR cV cL cM cN cq (c1 (by omega)) (by omega) (by omega) (by omega) (by omega) (by omega) (by omega)) | (exfalso; omega; done) | (exfalso; contradiction; done))
set_option maxHeartbeats 8000000 in
theorem lp_235rz_161 {X : Nat × (Nat → Int32)} {P : Option ma_V → (Nat → Nat → Int32) → Prop} {T : Nat} {aa : Nat→Nat→Int32} {ro : Int32} {m0 : Nat → Nat → Int32} (h0 : zV m0) (K : ∀ v m₉, zF wr_235 m0 m₉ → zV m₉ → (zGW T (m₉ 94 55) (m₉ 109)) → (zGU T (m₉ 94 46) (m₉ 99)) → (zOw (m₉ 99) (m₉ 103) (m₉ 111)) → (zRG1 (m₉ 94 18) (m₉ 94 64) (m₉ 94 63) (m₉ 99) (m₉ 103) (m₉ 102) (m₉ 116)) → (qRB (m₉ 99) (m₉ 100) (m₉ 98) (m₉ 101) (m₉ 102) (m₉ 103) (m₉ 107) (m₉ 108) (m₉ 109) (m₉ 111) (m₉ 112) (m₉ 113) (m₉ 114) (m₉ 94 55) (m₉ 94 46) ro 0 0 0 1 (rCl aa)) → (qRv (rCl aa)) → (qRL (rCl aa) (m₉ 94 18) (m₉ 94 64) (m₉ 94 19) (m₉ 94 63) (m₉ 116)) → ((m₉ 94 45).toInt = sm (zbU (m₉ 99)) (m₉ 102) 3100) → P (some (.inl v)) m₉) : ∀ (n : Nat) (m : Nat → Nat → Int32) (l1 : Int32) (l2 : Int32) (l3 : Int32) (l4 : Int32), (((128 - cnt (m 124) 128 : Nat) : Int)).toNat = n → zF wr_235 m0 m → zV m → (0 ≤ l3.toInt) → (l3.toInt ≤ 1) → (-1 ≤ l2.toInt ∧ l2.toInt < (m 94 64).toInt) → (l4.toInt = -1 ∨ (0 ≤ l4.toInt ∧ l4.toInt < (m 94 64).toInt ∧ (m 124) l4.toNatClampNeg = 0)) → (T ≤ 512) → (zW (m 94 7) (m 98) (m 101) (m 102) (m 108)) → (zGW T (m 94 55) (m 109)) → (zGU T (m 94 46) (m 99)) → (zOw (m 99) (m 103) (m 111)) → ((m 94 10).toInt = 6 ∧ (m 94 58).toInt = 0) → ((m 94 45).toInt = sm (zbU (m 99)) (m 102) 3100) → (zRG1 (m 94 18) (m 94 64) (m 94 63) (m 99) (m 103) (m 102) (m 116)) → (qZO (m 99) (m 100) (m 98) (m 101) (m 102) (m 103) (m 107) (m 108) (m 109) (m 111) (m 112) (m 113) (m 114) (m 94 55) (m 94 46) ro (m 94 18) (m 94 64) (m 94 19) (m 94 63) (m 116) (m 122) (m 123) (m 124) l2.toInt l3.toInt l4.toInt (rC0 aa)) → zm X 5 108 235 161 [(0, .inr (.inr (some 94))), (1, .inl l1), (2, .inl l2), (3, .inl l3), (4, .inl l4)] m P := by
  intro n
  induction n using Nat.strongRecOn with
  | _ n IH =>
    intro m l1 l2 l3 l4 hmu hF hV hi0 hi1 hi2 r_SP hi4 r_W r_GW r_GU r_OW hi9 r_WTS r_RG r_ZO
    refine g_235_161 l1 l2 l3 l4 ?_
    have f1 : 0 ≤ (m 94 64).toInt ∧ (m 94 64).toInt ≤ 93 := rs_94_64 (m := m) hV
    have f2 : 0 ≤ (m 94 10).toInt ∧ (m 94 10).toInt ≤ 6 := rs_94_10 (m := m) hV
    have f3 : 0 ≤ (m 94 58).toInt ∧ (m 94 58).toInt ≤ 1 := rs_94_58 (m := m) hV
    obtain ⟨c, cR, cV, cL, cM, cN, c1, c0⟩ := r_ZO
    have b4 := i_bd l4
    have li5 : (0 : Int32).toInt = 0 := rfl
    refine zd (fun (h6 : l4 < (0 : Int32)) => ?_) (fun (h6 : ¬ l4 < (0 : Int32)) => ?_)
    · skip
      have g7 := i_lt h6
      have b8 := i_bd l2
      refine zd (fun (h9 : l2 < (0 : Int32)) => ?_) (fun (h9 : ¬ l2 < (0 : Int32)) => ?_)
      · skip
        have g10 := i_lt h9
        have f11 : 0 ≤ (m 94 63).toInt ∧ (m 94 63).toInt ≤ 127 := rs_94_63 (m := m) hV
        try have rpr := r_RG.2.2.2.1
        try have rsi := r_RG.1
        try have rrg := r_RG.2.1
        try have rml := RG_ml (r := l4) r_RG (by have := rs_94_18 hV; omega) (by have := rs_94_64 hV; omega)
        try have rml2 := RG_ml (r := l2) r_RG (by have := rs_94_18 hV; omega) (by have := rs_94_64 hV; omega)
        have hg12 : (0 ≤ (m 94 63) ∧ (m 94 63).toNatClampNeg < 128) := i_ix (by omega) (by omega)
        refine ⟨hg12, ?_⟩
        first | have f13 : 0 ≤ (m 116 (m 94 63).toNatClampNeg).toInt ∧ (m 116 (m 94 63).toNatClampNeg).toInt ≤ 4600 := ra_116 (m := m) hV (k := (m 94 63).toNatClampNeg) (i_ix (n := 128) (by omega) (by omega)).2 | have b14 := i_bd (m 116 (m 94 63).toNatClampNeg)
        refine zd (fun (h15 : (m 116 (m 94 63).toNatClampNeg) = (0 : Int32)) => ?_) (fun (h15 : ¬ (m 116 (m 94 63).toNatClampNeg) = (0 : Int32)) => ?_)
        · skip
          have g16 := i_eq h15
          refine sp_234rz (aa := c)  hV (show qRv c from by first | (exact cV) | (exfalso; omega; done) | (exfalso; contradiction; done)) (show qRL c (m 94 18) (m 94 64) (m 94 19) (m 94 63) (m 116) from by first | (exact cM) | (exfalso; omega; done) | (exfalso; contradiction; done)) (fun v2 m1 hV_m1 p0_m1 p1_m1 => zmi_n ?_)
          have p0_m1 : zLE (m 116) (m 94 64) v2 := p0_m1
          have p1_m1 : qEq v2.toInt (rLe c) := p1_m1
          try have lel := LE_lo p0_m1
          try have lno := LE_no (pr := m 94 63) p0_m1 (by assumption) (by omega) (by omega)
          try have lrg := RG_LE r_RG p0_m1 (by have := rs_94_18 hV; omega) (by have := rs_94_64 hV; omega)
          try have rpr := r_RG.2.2.2.1
          try have rsi := r_RG.1
          try have rrg := r_RG.2.1
          try have rml := RG_ml (r := l4) r_RG (by have := rs_94_18 hV; omega) (by have := rs_94_64 hV; omega)
          try have rml2 := RG_ml (r := l2) r_RG (by have := rs_94_18 hV; omega) (by have := rs_94_64 hV; omega)
          have b18 := i_bd v2
          have hV17 : zV (ma_u (zov wr_234 m m1) 94 63 v2) := us_94_63 hV_m1 (by omega) (by omega)
          have b19 := i_bd l1
          exact K (l1) _ (zF_u (zF_zov hF ws_234_235) rfl) hV17 r_GW r_GU r_OW (show zRG1 (m 94 18) (m 94 64) v2 (m 99) (m 103) (m 102) (m 116) from by first | (exact r_RG) | (exact RG_pr r_RG (by omega) (by omega)) | (exact RG_pr r_RG (LE_no p0_m1 (by assumption) (by omega) (by omega)).1 (LE_no p0_m1 (by assumption) (by omega) (by omega)).2) | (exfalso; omega; done) | (exfalso; contradiction; done)) (show qRB (m 99) (m 100) (m 98) (m 101) (m 102) (m 103) (m 107) (m 108) (m 109) (m 111) (m 112) (m 113) (m 114) (m 94 55) (m 94 46) ro 0 0 0 1 (rCl aa) from by first | (have rpr := r_RG.2.2.2.1; exact (CR_fin cR cV cM (ZO_E c1 c0 (by omega) (by first | exact Or.inl (by omega) | exact Or.inr (by omega))) (PR_1 (by omega)) (by omega) (by omega)).1; done) | (have rpr := r_RG.2.2.2.1; exact (CR_fin cR cV cM (ZO_E c1 c0 (by omega) (by first | exact Or.inl (by omega) | exact Or.inr (by omega))) (PR_2 cM (by omega) (by omega) (by omega) (by first | omega | exact i_en (by assumption))) (by omega) (by omega)).1; done) | (have rpr := r_RG.2.2.2.1; exact (CR_fin cR cV cM (ZO_E c1 c0 (by omega) (by first | exact Or.inl (by omega) | exact Or.inr (by omega))) (PR_3 cV cM (by omega) (by first | omega | exact i_ez (by assumption)) p1_m1) (by have q := PR_e cV cM (by first | omega | exact i_ez (by assumption)); have w := qE p1_m1; omega) (by have q := PR_e cV cM (by first | omega | exact i_ez (by assumption)); have w := qE p1_m1; omega)).1; done) | (exfalso; omega; done) | (exfalso; contradiction; done)) (show qRv (rCl aa) from by first | (have rpr := r_RG.2.2.2.1; exact (CR_fin cR cV cM (ZO_E c1 c0 (by omega) (by first | exact Or.inl (by omega) | exact Or.inr (by omega))) (PR_1 (by omega)) (by omega) (by omega)).2.1; done) | (have rpr := r_RG.2.2.2.1; exact (CR_fin cR cV cM (ZO_E c1 c0 (by omega) (by first | exact Or.inl (by omega) | exact Or.inr (by omega))) (PR_2 cM (by omega) (by omega) (by omega) (by first | omega | exact i_en (by assumption))) (by omega) (by omega)).2.1; done) | (have rpr := r_RG.2.2.2.1; exact (CR_fin cR cV cM (ZO_E c1 c0 (by omega) (by first | exact Or.inl (by omega) | exact Or.inr (by omega))) (PR_3 cV cM (by omega) (by first | omega | exact i_ez (by assumption)) p1_m1) (by have q := PR_e cV cM (by first | omega | exact i_ez (by assumption)); have w := qE p1_m1; omega) (by have q := PR_e cV cM (by first | omega | exact i_ez (by assumption)); have w := qE p1_m1; omega)).2.1; done) | (exfalso; omega; done) | (exfalso; contradiction; done)) (show qRL (rCl aa) (m 94 18) (m 94 64) (m 94 19) v2 (m 116) from by first | (have rpr := r_RG.2.2.2.1; exact (CR_fin cR cV cM (ZO_E c1 c0 (by omega) (by first | exact Or.inl (by omega) | exact Or.inr (by omega))) (PR_1 (by omega)) (by omega) (by omega)).2.2; done) | (have rpr := r_RG.2.2.2.1; exact (CR_fin cR cV cM (ZO_E c1 c0 (by omega) (by first | exact Or.inl (by omega) | exact Or.inr (by omega))) (PR_2 cM (by omega) (by omega) (by omega) (by first | omega | exact i_en (by assumption))) (by omega) (by omega)).2.2; done) | (have rpr := r_RG.2.2.2.1; exact (CR_fin cR cV cM (ZO_E c1 c0 (by omega) (by first | exact Or.inl (by omega) | exact Or.inr (by omega))) (PR_3 cV cM (by omega) (by first | omega | exact i_ez (by assumption)) p1_m1) (by have q := PR_e cV cM (by first | omega | exact i_ez (by assumption)); have w := qE p1_m1; omega) (by have q := PR_e cV cM (by first | omega | exact i_ez (by assumption)); have w := qE p1_m1; omega)).2.2; done) | (exfalso; omega; done) | (exfalso; contradiction; done)) r_WTS
        · skip
          have g20 := i_ne h15
          try have rpr := r_RG.2.2.2.1
          try have rsi := r_RG.1
          try have rrg := r_RG.2.1
          try have rml := RG_ml (r := l4) r_RG (by have := rs_94_18 hV; omega) (by have := rs_94_64 hV; omega)
          try have rml2 := RG_ml (r := l2) r_RG (by have := rs_94_18 hV; omega) (by have := rs_94_64 hV; omega)
          have b21 := i_bd l1
          exact K (l1) _ hF hV r_GW r_GU r_OW r_RG (show qRB (m 99) (m 100) (m 98) (m 101) (m 102) (m 103) (m 107) (m 108) (m 109) (m 111) (m 112) (m 113) (m 114) (m 94 55) (m 94 46) ro 0 0 0 1 (rCl aa) from by first | (have rpr := r_RG.2.2.2.1; exact (CR_fin cR cV cM (ZO_E c1 c0 (by omega) (by first | exact Or.inl (by omega) | exact Or.inr (by omega))) (PR_1 (by omega)) (by omega) (by omega)).1; done) | (have rpr := r_RG.2.2.2.1; exact (CR_fin cR cV cM (ZO_E c1 c0 (by omega) (by first | exact Or.inl (by omega) | exact Or.inr (by omega))) (PR_2 cM (by omega) (by omega) (by omega) (by first | omega | exact i_en (by assumption))) (by omega) (by omega)).1; done) | (exfalso; omega; done) | (exfalso; contradiction; done)) (show qRv (rCl aa) from by first | (have rpr := r_RG.2.2.2.1; exact (CR_fin cR cV cM (ZO_E c1 c0 (by omega) (by first | exact Or.inl (by omega) | exact Or.inr (by omega))) (PR_1 (by omega)) (by omega) (by omega)).2.1; done) | (have rpr := r_RG.2.2.2.1; exact (CR_fin cR cV cM (ZO_E c1 c0 (by omega) (by first | exact Or.inl (by omega) | exact Or.inr (by omega))) (PR_2 cM (by omega) (by omega) (by omega) (by first | omega | exact i_en (by assumption))) (by omega) (by omega)).2.1; done) | (exfalso; omega; done) | (exfalso; contradiction; done)) (show qRL (rCl aa) (m 94 18) (m 94 64) (m 94 19) (m 94 63) (m 116) from by first | (have rpr := r_RG.2.2.2.1; exact (CR_fin cR cV cM (ZO_E c1 c0 (by omega) (by first | exact Or.inl (by omega) | exact Or.inr (by omega))) (PR_1 (by omega)) (by omega) (by omega)).2.2; done) | (have rpr := r_RG.2.2.2.1; exact (CR_fin cR cV cM (ZO_E c1 c0 (by omega) (by first | exact Or.inl (by omega) | exact Or.inr (by omega))) (PR_2 cM (by omega) (by omega) (by omega) (by first | omega | exact i_en (by assumption))) (by omega) (by omega)).2.2; done) | (exfalso; omega; done) | (exfalso; contradiction; done)) r_WTS
      · skip
        have g22 := i_nlt h9
        try have rpr := r_RG.2.2.2.1
        try have rsi := r_RG.1
        try have rrg := r_RG.2.1
        try have rml := RG_ml (r := l4) r_RG (by have := rs_94_18 hV; omega) (by have := rs_94_64 hV; omega)
        try have rml2 := RG_ml (r := l2) r_RG (by have := rs_94_18 hV; omega) (by have := rs_94_64 hV; omega)
        have hV23 : zV (ma_u m 94 63 l2) := us_94_63 hV (by omega) (by omega)
        have b24 := i_bd l1
        exact K (l1) _ (zF_u hF rfl) hV23 r_GW r_GU r_OW (show zRG1 (m 94 18) (m 94 64) l2 (m 99) (m 103) (m 102) (m 116) from by first | (exact r_RG) | (exact RG_pr r_RG (by omega) (by omega)) | (exfalso; omega; done) | (exfalso; contradiction; done)) (show qRB (m 99) (m 100) (m 98) (m 101) (m 102) (m 103) (m 107) (m 108) (m 109) (m 111) (m 112) (m 113) (m 114) (m 94 55) (m 94 46) ro 0 0 0 1 (rCl aa) from by first | (have rpr := r_RG.2.2.2.1; exact (CR_fin cR cV cM (ZO_E c1 c0 (by omega) (by first | exact Or.inl (by omega) | exact Or.inr (by omega))) (PR_1 (by omega)) (by omega) (by omega)).1; done) | (have rpr := r_RG.2.2.2.1; exact (CR_fin cR cV cM (ZO_E c1 c0 (by omega) (by first | exact Or.inl (by omega) | exact Or.inr (by omega))) (PR_2 cM (by omega) (by omega) (by omega) (by first | omega | exact i_en (by assumption))) (by omega) (by omega)).1; done) | (exfalso; omega; done) | (exfalso; contradiction; done)) (show qRv (rCl aa) from by first | (have rpr := r_RG.2.2.2.1; exact (CR_fin cR cV cM (ZO_E c1 c0 (by omega) (by first | exact Or.inl (by omega) | exact Or.inr (by omega))) (PR_1 (by omega)) (by omega) (by omega)).2.1; done) | (have rpr := r_RG.2.2.2.1; exact (CR_fin cR cV cM (ZO_E c1 c0 (by omega) (by first | exact Or.inl (by omega) | exact Or.inr (by omega))) (PR_2 cM (by omega) (by omega) (by omega) (by first | omega | exact i_en (by assumption))) (by omega) (by omega)).2.1; done) | (exfalso; omega; done) | (exfalso; contradiction; done)) (show qRL (rCl aa) (m 94 18) (m 94 64) (m 94 19) l2 (m 116) from by first | (have rpr := r_RG.2.2.2.1; exact (CR_fin cR cV cM (ZO_E c1 c0 (by omega) (by first | exact Or.inl (by omega) | exact Or.inr (by omega))) (PR_1 (by omega)) (by omega) (by omega)).2.2; done) | (have rpr := r_RG.2.2.2.1; exact (CR_fin cR cV cM (ZO_E c1 c0 (by omega) (by first | exact Or.inl (by omega) | exact Or.inr (by omega))) (PR_2 cM (by omega) (by omega) (by omega) (by first | omega | exact i_en (by assumption))) (by omega) (by omega)).2.2; done) | (exfalso; omega; done) | (exfalso; contradiction; done)) r_WTS
    · skip
      have g25 := i_nlt h6
      have b26 := i_bd l3
      refine zd (fun (h27 : l3 = (0 : Int32)) => ?_) (fun (h27 : ¬ l3 = (0 : Int32)) => ?_)
      · skip
        have g28 := i_eq h27
        have b29 := i_bd l2
        refine zd (fun (h30 : l2 < (0 : Int32)) => ?_) (fun (h30 : ¬ l2 < (0 : Int32)) => ?_)
        · skip
          have g31 := i_lt h30
          have f32 : 0 ≤ (m 94 63).toInt ∧ (m 94 63).toInt ≤ 127 := rs_94_63 (m := m) hV
          try have rpr := r_RG.2.2.2.1
          try have rsi := r_RG.1
          try have rrg := r_RG.2.1
          try have rml := RG_ml (r := l4) r_RG (by have := rs_94_18 hV; omega) (by have := rs_94_64 hV; omega)
          try have rml2 := RG_ml (r := l2) r_RG (by have := rs_94_18 hV; omega) (by have := rs_94_64 hV; omega)
          have hg33 : (0 ≤ (m 94 63) ∧ (m 94 63).toNatClampNeg < 128) := i_ix (by omega) (by omega)
          refine ⟨hg33, ?_⟩
          first | have f34 : 0 ≤ (m 116 (m 94 63).toNatClampNeg).toInt ∧ (m 116 (m 94 63).toNatClampNeg).toInt ≤ 4600 := ra_116 (m := m) hV (k := (m 94 63).toNatClampNeg) (i_ix (n := 128) (by omega) (by omega)).2 | have b35 := i_bd (m 116 (m 94 63).toNatClampNeg)
          refine zd (fun (h36 : (m 116 (m 94 63).toNatClampNeg) = (0 : Int32)) => ?_) (fun (h36 : ¬ (m 116 (m 94 63).toNatClampNeg) = (0 : Int32)) => ?_)
          · skip
            have g37 := i_eq h36
            refine sp_234rz (aa := c)  hV (show qRv c from by first | (exact cV) | (exfalso; omega; done) | (exfalso; contradiction; done)) (show qRL c (m 94 18) (m 94 64) (m 94 19) (m 94 63) (m 116) from by first | (exact cM) | (exfalso; omega; done) | (exfalso; contradiction; done)) (fun v4 m3 hV_m3 p0_m3 p1_m3 => zmi_n ?_)
            have p0_m3 : zLE (m 116) (m 94 64) v4 := p0_m3
            have p1_m3 : qEq v4.toInt (rLe c) := p1_m3
            try have lel := LE_lo p0_m3
            try have lno := LE_no (pr := m 94 63) p0_m3 (by assumption) (by omega) (by omega)
            try have lrg := RG_LE r_RG p0_m3 (by have := rs_94_18 hV; omega) (by have := rs_94_64 hV; omega)
            try have rpr := r_RG.2.2.2.1
            try have rsi := r_RG.1
            try have rrg := r_RG.2.1
            try have rml := RG_ml (r := l4) r_RG (by have := rs_94_18 hV; omega) (by have := rs_94_64 hV; omega)
            try have rml2 := RG_ml (r := l2) r_RG (by have := rs_94_18 hV; omega) (by have := rs_94_64 hV; omega)
            have b39 := i_bd v4
            have hV38 : zV (ma_u (zov wr_234 m m3) 94 63 v4) := us_94_63 hV_m3 (by omega) (by omega)
            have b40 := i_bd l1
            exact K (l1) _ (zF_u (zF_zov hF ws_234_235) rfl) hV38 r_GW r_GU r_OW (show zRG1 (m 94 18) (m 94 64) v4 (m 99) (m 103) (m 102) (m 116) from by first | (exact r_RG) | (exact RG_pr r_RG (by omega) (by omega)) | (exact RG_pr r_RG (LE_no p0_m3 (by assumption) (by omega) (by omega)).1 (LE_no p0_m3 (by assumption) (by omega) (by omega)).2) | (exfalso; omega; done) | (exfalso; contradiction; done)) (show qRB (m 99) (m 100) (m 98) (m 101) (m 102) (m 103) (m 107) (m 108) (m 109) (m 111) (m 112) (m 113) (m 114) (m 94 55) (m 94 46) ro 0 0 0 1 (rCl aa) from by first | (have rpr := r_RG.2.2.2.1; exact (CR_fin cR cV cM (ZO_E c1 c0 (by omega) (by first | exact Or.inl (by omega) | exact Or.inr (by omega))) (PR_1 (by omega)) (by omega) (by omega)).1; done) | (have rpr := r_RG.2.2.2.1; exact (CR_fin cR cV cM (ZO_E c1 c0 (by omega) (by first | exact Or.inl (by omega) | exact Or.inr (by omega))) (PR_2 cM (by omega) (by omega) (by omega) (by first | omega | exact i_en (by assumption))) (by omega) (by omega)).1; done) | (have rpr := r_RG.2.2.2.1; exact (CR_fin cR cV cM (ZO_E c1 c0 (by omega) (by first | exact Or.inl (by omega) | exact Or.inr (by omega))) (PR_3 cV cM (by omega) (by first | omega | exact i_ez (by assumption)) p1_m3) (by have q := PR_e cV cM (by first | omega | exact i_ez (by assumption)); have w := qE p1_m3; omega) (by have q := PR_e cV cM (by first | omega | exact i_ez (by assumption)); have w := qE p1_m3; omega)).1; done) | (exfalso; omega; done) | (exfalso; contradiction; done)) (show qRv (rCl aa) from by first | (have rpr := r_RG.2.2.2.1; exact (CR_fin cR cV cM (ZO_E c1 c0 (by omega) (by first | exact Or.inl (by omega) | exact Or.inr (by omega))) (PR_1 (by omega)) (by omega) (by omega)).2.1; done) | (have rpr := r_RG.2.2.2.1; exact (CR_fin cR cV cM (ZO_E c1 c0 (by omega) (by first | exact Or.inl (by omega) | exact Or.inr (by omega))) (PR_2 cM (by omega) (by omega) (by omega) (by first | omega | exact i_en (by assumption))) (by omega) (by omega)).2.1; done) | (have rpr := r_RG.2.2.2.1; exact (CR_fin cR cV cM (ZO_E c1 c0 (by omega) (by first | exact Or.inl (by omega) | exact Or.inr (by omega))) (PR_3 cV cM (by omega) (by first | omega | exact i_ez (by assumption)) p1_m3) (by have q := PR_e cV cM (by first | omega | exact i_ez (by assumption)); have w := qE p1_m3; omega) (by have q := PR_e cV cM (by first | omega | exact i_ez (by assumption)); have w := qE p1_m3; omega)).2.1; done) | (exfalso; omega; done) | (exfalso; contradiction; done)) (show qRL (rCl aa) (m 94 18) (m 94 64) (m 94 19) v4 (m 116) from by first | (have rpr := r_RG.2.2.2.1; exact (CR_fin cR cV cM (ZO_E c1 c0 (by omega) (by first | exact Or.inl (by omega) | exact Or.inr (by omega))) (PR_1 (by omega)) (by omega) (by omega)).2.2; done) | (have rpr := r_RG.2.2.2.1; exact (CR_fin cR cV cM (ZO_E c1 c0 (by omega) (by first | exact Or.inl (by omega) | exact Or.inr (by omega))) (PR_2 cM (by omega) (by omega) (by omega) (by first | omega | exact i_en (by assumption))) (by omega) (by omega)).2.2; done) | (have rpr := r_RG.2.2.2.1; exact (CR_fin cR cV cM (ZO_E c1 c0 (by omega) (by first | exact Or.inl (by omega) | exact Or.inr (by omega))) (PR_3 cV cM (by omega) (by first | omega | exact i_ez (by assumption)) p1_m3) (by have q := PR_e cV cM (by first | omega | exact i_ez (by assumption)); have w := qE p1_m3; omega) (by have q := PR_e cV cM (by first | omega | exact i_ez (by assumption)); have w := qE p1_m3; omega)).2.2; done) | (exfalso; omega; done) | (exfalso; contradiction; done)) r_WTS
          · skip
            have g41 := i_ne h36
            try have rpr := r_RG.2.2.2.1
            try have rsi := r_RG.1
            try have rrg := r_RG.2.1
            try have rml := RG_ml (r := l4) r_RG (by have := rs_94_18 hV; omega) (by have := rs_94_64 hV; omega)
            try have rml2 := RG_ml (r := l2) r_RG (by have := rs_94_18 hV; omega) (by have := rs_94_64 hV; omega)
            have b42 := i_bd l1
            exact K (l1) _ hF hV r_GW r_GU r_OW r_RG (show qRB (m 99) (m 100) (m 98) (m 101) (m 102) (m 103) (m 107) (m 108) (m 109) (m 111) (m 112) (m 113) (m 114) (m 94 55) (m 94 46) ro 0 0 0 1 (rCl aa) from by first | (have rpr := r_RG.2.2.2.1; exact (CR_fin cR cV cM (ZO_E c1 c0 (by omega) (by first | exact Or.inl (by omega) | exact Or.inr (by omega))) (PR_1 (by omega)) (by omega) (by omega)).1; done) | (have rpr := r_RG.2.2.2.1; exact (CR_fin cR cV cM (ZO_E c1 c0 (by omega) (by first | exact Or.inl (by omega) | exact Or.inr (by omega))) (PR_2 cM (by omega) (by omega) (by omega) (by first | omega | exact i_en (by assumption))) (by omega) (by omega)).1; done) | (exfalso; omega; done) | (exfalso; contradiction; done)) (show qRv (rCl aa) from by first | (have rpr := r_RG.2.2.2.1; exact (CR_fin cR cV cM (ZO_E c1 c0 (by omega) (by first | exact Or.inl (by omega) | exact Or.inr (by omega))) (PR_1 (by omega)) (by omega) (by omega)).2.1; done) | (have rpr := r_RG.2.2.2.1; exact (CR_fin cR cV cM (ZO_E c1 c0 (by omega) (by first | exact Or.inl (by omega) | exact Or.inr (by omega))) (PR_2 cM (by omega) (by omega) (by omega) (by first | omega | exact i_en (by assumption))) (by omega) (by omega)).2.1; done) | (exfalso; omega; done) | (exfalso; contradiction; done)) (show qRL (rCl aa) (m 94 18) (m 94 64) (m 94 19) (m 94 63) (m 116) from by first | (have rpr := r_RG.2.2.2.1; exact (CR_fin cR cV cM (ZO_E c1 c0 (by omega) (by first | exact Or.inl (by omega) | exact Or.inr (by omega))) (PR_1 (by omega)) (by omega) (by omega)).2.2; done) | (have rpr := r_RG.2.2.2.1; exact (CR_fin cR cV cM (ZO_E c1 c0 (by omega) (by first | exact Or.inl (by omega) | exact Or.inr (by omega))) (PR_2 cM (by omega) (by omega) (by omega) (by first | omega | exact i_en (by assumption))) (by omega) (by omega)).2.2; done) | (exfalso; omega; done) | (exfalso; contradiction; done)) r_WTS
        · skip
          have g43 := i_nlt h30
          try have rpr := r_RG.2.2.2.1
          try have rsi := r_RG.1
          try have rrg := r_RG.2.1
          try have rml := RG_ml (r := l4) r_RG (by have := rs_94_18 hV; omega) (by have := rs_94_64 hV; omega)
          try have rml2 := RG_ml (r := l2) r_RG (by have := rs_94_18 hV; omega) (by have := rs_94_64 hV; omega)
          have hV44 : zV (ma_u m 94 63 l2) := us_94_63 hV (by omega) (by omega)
          have b45 := i_bd l1
          exact K (l1) _ (zF_u hF rfl) hV44 r_GW r_GU r_OW (show zRG1 (m 94 18) (m 94 64) l2 (m 99) (m 103) (m 102) (m 116) from by first | (exact r_RG) | (exact RG_pr r_RG (by omega) (by omega)) | (exfalso; omega; done) | (exfalso; contradiction; done)) (show qRB (m 99) (m 100) (m 98) (m 101) (m 102) (m 103) (m 107) (m 108) (m 109) (m 111) (m 112) (m 113) (m 114) (m 94 55) (m 94 46) ro 0 0 0 1 (rCl aa) from by first | (have rpr := r_RG.2.2.2.1; exact (CR_fin cR cV cM (ZO_E c1 c0 (by omega) (by first | exact Or.inl (by omega) | exact Or.inr (by omega))) (PR_1 (by omega)) (by omega) (by omega)).1; done) | (have rpr := r_RG.2.2.2.1; exact (CR_fin cR cV cM (ZO_E c1 c0 (by omega) (by first | exact Or.inl (by omega) | exact Or.inr (by omega))) (PR_2 cM (by omega) (by omega) (by omega) (by first | omega | exact i_en (by assumption))) (by omega) (by omega)).1; done) | (exfalso; omega; done) | (exfalso; contradiction; done)) (show qRv (rCl aa) from by first | (have rpr := r_RG.2.2.2.1; exact (CR_fin cR cV cM (ZO_E c1 c0 (by omega) (by first | exact Or.inl (by omega) | exact Or.inr (by omega))) (PR_1 (by omega)) (by omega) (by omega)).2.1; done) | (have rpr := r_RG.2.2.2.1; exact (CR_fin cR cV cM (ZO_E c1 c0 (by omega) (by first | exact Or.inl (by omega) | exact Or.inr (by omega))) (PR_2 cM (by omega) (by omega) (by omega) (by first | omega | exact i_en (by assumption))) (by omega) (by omega)).2.1; done) | (exfalso; omega; done) | (exfalso; contradiction; done)) (show qRL (rCl aa) (m 94 18) (m 94 64) (m 94 19) l2 (m 116) from by first | (have rpr := r_RG.2.2.2.1; exact (CR_fin cR cV cM (ZO_E c1 c0 (by omega) (by first | exact Or.inl (by omega) | exact Or.inr (by omega))) (PR_1 (by omega)) (by omega) (by omega)).2.2; done) | (have rpr := r_RG.2.2.2.1; exact (CR_fin cR cV cM (ZO_E c1 c0 (by omega) (by first | exact Or.inl (by omega) | exact Or.inr (by omega))) (PR_2 cM (by omega) (by omega) (by omega) (by first | omega | exact i_en (by assumption))) (by omega) (by omega)).2.2; done) | (exfalso; omega; done) | (exfalso; contradiction; done)) r_WTS
      · skip
        have g46 := i_ne h27
        try have rpr := r_RG.2.2.2.1
        try have rsi := r_RG.1
        try have rrg := r_RG.2.1
        try have rml := RG_ml (r := l4) r_RG (by have := rs_94_18 hV; omega) (by have := rs_94_64 hV; omega)
        try have rml2 := RG_ml (r := l2) r_RG (by have := rs_94_18 hV; omega) (by have := rs_94_64 hV; omega)
        try have sp4 := r_SP
        have hg47 : (0 ≤ l4 ∧ l4.toNatClampNeg < 128) := i_ix (by omega) (by omega)
        refine ⟨hg47, ?_⟩
        try have rpr := r_RG.2.2.2.1
        try have rsi := r_RG.1
        try have rrg := r_RG.2.1
        try have rml := RG_ml (r := l4) r_RG (by have := rs_94_18 hV; omega) (by have := rs_94_64 hV; omega)
        try have rml2 := RG_ml (r := l2) r_RG (by have := rs_94_18 hV; omega) (by have := rs_94_64 hV; omega)
        have hg48 : (0 ≤ l4 ∧ l4.toNatClampNeg < 128) := i_ix (by omega) (by omega)
        refine ⟨hg48, ?_⟩
        try have rpr := r_RG.2.2.2.1
        try have rsi := r_RG.1
        try have rrg := r_RG.2.1
        try have rml := RG_ml (r := l4) r_RG (by have := rs_94_18 hV; omega) (by have := rs_94_64 hV; omega)
        try have rml2 := RG_ml (r := l2) r_RG (by have := rs_94_18 hV; omega) (by have := rs_94_64 hV; omega)
        have li50 : (1 : Int32).toInt = 1 := rfl
        have hV49 : zV (ma_u m 124 l4.toNatClampNeg (1 : Int32)) := ua_124 hV (by omega) (by omega)
        have b51 := i_bd l1
        have b52 := i_bd l2
        have f53 : 0 ≤ (m 94 18).toInt ∧ (m 94 18).toInt ≤ 256 := rs_94_18 (m := m) hV
        first | have f54 := i_muln (x := l4) (y := (m 94 18)) (by omega) (by omega) (by omega) (by omega) | have b55 := i_bd (l4 * (m 94 18))
        first | have f56 : 0 ≤ (m 116 l4.toNatClampNeg).toInt ∧ (m 116 l4.toNatClampNeg).toInt ≤ 4600 := ra_116 (m := m) hV (k := l4.toNatClampNeg) (i_ix (n := 128) (by omega) (by omega)).2 | have b57 := i_bd (m 116 l4.toNatClampNeg)
        first | have e58 : ((l4 * (m 94 18)) + (m 116 l4.toNatClampNeg)).toInt = (l4 * (m 94 18)).toInt + (m 116 l4.toNatClampNeg).toInt := i_add (by omega) (by omega) | have b59 := i_bd ((l4 * (m 94 18)) + (m 116 l4.toNatClampNeg))
        exact lp_235rz_199 h0 K (fun _ _ _ _ _ z1 z2 z3 y0 y1 y2 y3 y4 y5 y6 y7 y8 y9 y10 y11 y12 => IH _ z1 _ _ _ _ _ rfl z2 z3 y0 y1 y2 y3 y4 y5 y6 y7 y8 y9 y10 y11 y12) _ _ (l1) (l2) (l3) (l4) ((l4 * (m 94 18))) (((l4 * (m 94 18)) + (m 116 l4.toNatClampNeg))) rfl (zF_u hF rfl) hV49 (by omega) (by omega) (show -1 ≤ l2.toInt ∧ l2.toInt < (m 94 64).toInt from by omega) (by omega) (show l4.toInt < (m 94 64).toInt from by omega) (by omega) (by omega) (by omega) (show 128 - cnt ((ma_u m 124 l4.toNatClampNeg (1 : Int32)) 124) 128 < n from by first | (have zq := dn_lt (m := m) (c := 124) (k := l4.toNatClampNeg) (n := 128) (x := (1 : Int32)) (by omega) (by rcases r_SP with z | z; omega; exact z.2.2) (by decide); omega; done) | (exfalso; omega; done) | (exfalso; contradiction; done)) (by omega) r_W r_GW r_GU r_OW (show (m 94 10).toInt = 6 ∧ (m 94 58).toInt = 0 from by omega) r_WTS r_RG (show qZI (m 99) (m 100) (m 98) (m 101) (m 102) (m 103) (m 107) (m 108) (m 109) (m 111) (m 112) (m 113) (m 114) (m 94 55) (m 94 46) ro (m 94 18) (m 94 64) (m 94 19) (m 94 63) (m 116) (m 122) (m 123) ((ma_u m 124 l4.toNatClampNeg (1 : Int32)) 124) l2.toInt l3.toInt l4.toInt (l4 * (m 94 18)).toInt ((l4 * (m 94 18)) + (m 116 l4.toNatClampNeg)).toInt (rC0 aa) from by first | (have e4 := RG_ml (r := l4) r_RG (by have := rs_94_18 hV; omega) (by have := rs_94_64 hV; omega); have mm := (i_muln (x := l4) (y := m 94 18) (by omega) (by omega) (by omega) (by have := rs_94_18 hV; omega)).2.2; exact ZI_0 cR cV cL cM cN (c1 (by omega)) (by omega) (fun r => mu_at r) mm (x := m 116 l4.toNatClampNeg) rfl (by omega) (by omega); done) | (exfalso; omega; done) | (exfalso; contradiction; done))
set_option maxHeartbeats 8000000 in
theorem lp_235rz_121 {X : Nat × (Nat → Int32)} {P : Option ma_V → (Nat → Nat → Int32) → Prop} {T : Nat} {aa : Nat→Nat→Int32} {ro : Int32} {m0 : Nat → Nat → Int32} (h0 : zV m0) (K : ∀ v m₉, zF wr_235 m0 m₉ → zV m₉ → (zGW T (m₉ 94 55) (m₉ 109)) → (zGU T (m₉ 94 46) (m₉ 99)) → (zOw (m₉ 99) (m₉ 103) (m₉ 111)) → (zRG1 (m₉ 94 18) (m₉ 94 64) (m₉ 94 63) (m₉ 99) (m₉ 103) (m₉ 102) (m₉ 116)) → (qRB (m₉ 99) (m₉ 100) (m₉ 98) (m₉ 101) (m₉ 102) (m₉ 103) (m₉ 107) (m₉ 108) (m₉ 109) (m₉ 111) (m₉ 112) (m₉ 113) (m₉ 114) (m₉ 94 55) (m₉ 94 46) ro 0 0 0 1 (rCl aa)) → (qRv (rCl aa)) → (qRL (rCl aa) (m₉ 94 18) (m₉ 94 64) (m₉ 94 19) (m₉ 94 63) (m₉ 116)) → ((m₉ 94 45).toInt = sm (zbU (m₉ 99)) (m₉ 102) 3100) → P (some (.inl v)) m₉) : ∀ (n : Nat) (m : Nat → Nat → Int32) (l1 : Int32) (l2 : Int32), (128 - l2.toInt).toNat = n → zF wr_235 m0 m → zV m → (0 ≤ l2.toInt) → (T ≤ 512) → (zW (m 94 7) (m 98) (m 101) (m 102) (m 108)) → (zGW T (m 94 55) (m 109)) → (zGU T (m 94 46) (m 99)) → (zOw (m 99) (m 103) (m 111)) → ((m 94 10).toInt = 6 ∧ (m 94 58).toInt = 0) → ((m 94 45).toInt = sm (zbU (m 99)) (m 102) 3100) → (zRG1 (m 94 18) (m 94 64) (m 94 63) (m 99) (m 103) (m 102) (m 116)) → (qRB (m 99) (m 100) (m 98) (m 101) (m 102) (m 103) (m 107) (m 108) (m 109) (m 111) (m 112) (m 113) (m 114) (m 94 55) (m 94 46) ro 0 0 0 1 (aSw aa)) → (qRv aa) → (qRL aa (m 94 18) (m 94 64) (m 94 19) (m 94 63) (m0 116)) → (qKS (m 99) (m 102) (m 107) (m 103) (m 122) (m 123) (m 124) (m 94 18).toInt (m 94 64).toInt 3100) → (qTZ (m0 116) (m 116) (m 122) (m 94 64).toInt l2.toInt) → zm X 5 108 235 121 [(0, .inr (.inr (some 94))), (1, .inl l1), (2, .inl l2)] m P := by
  intro n
  induction n using Nat.strongRecOn with
  | _ n IH =>
    intro m l1 l2 hmu hF hV hi0 hi1 r_W r_GW r_GU r_OW hi6 r_WTS r_RG r_RB r_RV r_RLo r_KSe r_TZ
    refine g_235_121 l1 l2 ?_
    have f1 : 0 ≤ (m 94 10).toInt ∧ (m 94 10).toInt ≤ 6 := rs_94_10 (m := m) hV
    have f2 : 0 ≤ (m 94 58).toInt ∧ (m 94 58).toInt ≤ 1 := rs_94_58 (m := m) hV
    have f3 : 0 ≤ (m 94 64).toInt ∧ (m 94 64).toInt ≤ 93 := rs_94_64 (m := m) hV
    have b4 := i_bd l2
    refine zd (fun (h5 : (m 94 64) ≤ l2) => ?_) (fun (h5 : ¬ (m 94 64) ≤ l2) => ?_)
    · skip
      have g6 := i_le h5
      refine sp_236rz (aa := (rB0 aa)) (tt := (-1))  hV (show qRv (rB0 aa) from by first | (exact (Rv_b0 r_RV).1) | (exact r_RV) | (exfalso; omega; done) | (exfalso; contradiction; done)) (show qRL (rB0 aa) (m 94 18) (m 94 64) (m 94 19) (m 94 63) (m 116) from by first | (exact RL_b0 r_RB.1 r_RV r_RLo r_KSe (by omega) (by omega) r_TZ (by omega)) | (exfalso; omega; done) | (exfalso; contradiction; done)) (show qLv (rB0 aa) (-1) from by first | (exact (Rv_b0 r_RV).2) | (exfalso; omega; done) | (exfalso; contradiction; done)) (show qLR (rB0 aa) (m 94 64) (m 94 19) (m 94 18) (m 94 63) (m 122) (m 123) (m 124) from by first | (exact LR_b0 r_RB.1 r_RV r_RLo r_KSe (by omega) (by omega)) | (exfalso; omega; done) | (exfalso; contradiction; done)) (fun v2 m1 hV_m1 p0_m1 p1_m1 => zmi_n ?_)
      have p0_m1 : v2.toInt = -1 ∨ (0 ≤ v2.toInt ∧ v2.toInt < (m 94 64).toInt ∧ (m 124) v2.toNatClampNeg = 0) := p0_m1
      have p1_m1 : qEq v2.toInt (rFw (rB0 aa)) := p1_m1
      try have rpr := r_RG.2.2.2.1
      try have rsi := r_RG.1
      try have rrg := r_RG.2.1
      try have rml := RG_ml (r := l4) r_RG (by have := rs_94_18 hV; omega) (by have := rs_94_64 hV; omega)
      try have rml2 := RG_ml (r := l2) r_RG (by have := rs_94_18 hV; omega) (by have := rs_94_64 hV; omega)
      have b7 := i_bd l1
      have li8 : (-1 : Int32).toInt = -1 := rfl
      have li9 : (1 : Int32).toInt = 1 := rfl
      have b10 := i_bd v2
      exact lp_235rz_161 h0 K _ _ (l1) ((-1 : Int32)) ((1 : Int32)) (v2) rfl (zF_zov hF ws_236_235) hV_m1 (by omega) (by omega) (show -1 ≤ (-1 : Int32).toInt ∧ (-1 : Int32).toInt < (m 94 64).toInt from by omega) p0_m1 (by omega) r_W r_GW r_GU r_OW (show (m 94 10).toInt = 6 ∧ (m 94 58).toInt = 0 from by omega) r_WTS r_RG (show qZO (m 99) (m 100) (m 98) (m 101) (m 102) (m 103) (m 107) (m 108) (m 109) (m 111) (m 112) (m 113) (m 114) (m 94 55) (m 94 46) ro (m 94 18) (m 94 64) (m 94 19) (m 94 63) (m 116) (m 122) (m 123) (m 124) (-1 : Int32).toInt (1 : Int32).toInt v2.toInt (rC0 aa) from by first | (exact ZO_0 r_RB r_RV r_RLo r_KSe (by omega) (by omega) r_TZ (by omega) p1_m1) | (exfalso; omega; done) | (exfalso; contradiction; done))
    · skip
      have g11 := i_nle h5
      try have au := RG_at r_RG (s := l2.toNatClampNeg) (by omega) (by assumption)
      try have rsi := r_RG.1
      try have dv : 0 ≤ (l2).toInt ∧ (l2).toInt ≤ 93 := i_div16 (by omega) (by omega) (by omega)
      have hg12 : (0 ≤ l2 ∧ l2.toNatClampNeg < 128) := i_ix (by omega) (by omega)
      refine ⟨hg12, ?_⟩
      have b13 := i_bd (m 122 l2.toNatClampNeg)
      have li14 : (0 : Int32).toInt = 0 := rfl
      refine zd (fun (h15 : (m 122 l2.toNatClampNeg) = (0 : Int32)) => ?_) (fun (h15 : ¬ (m 122 l2.toNatClampNeg) = (0 : Int32)) => ?_)
      · skip
        have g16 := i_eq h15
        try have rpr := r_RG.2.2.2.1
        try have rsi := r_RG.1
        try have rrg := r_RG.2.1
        try have rml := RG_ml (r := l4) r_RG (by have := rs_94_18 hV; omega) (by have := rs_94_64 hV; omega)
        try have rml2 := RG_ml (r := l2) r_RG (by have := rs_94_18 hV; omega) (by have := rs_94_64 hV; omega)
        have hg17 : (0 ≤ l2 ∧ l2.toNatClampNeg < 128) := i_ix (by omega) (by omega)
        refine ⟨hg17, ?_⟩
        try have rpr := r_RG.2.2.2.1
        try have rsi := r_RG.1
        try have rrg := r_RG.2.1
        try have rml := RG_ml (r := l4) r_RG (by have := rs_94_18 hV; omega) (by have := rs_94_64 hV; omega)
        try have rml2 := RG_ml (r := l2) r_RG (by have := rs_94_18 hV; omega) (by have := rs_94_64 hV; omega)
        have hV18 : zV (ma_u m 116 l2.toNatClampNeg (0 : Int32)) := ua_116 hV (by omega) (by omega)
        have b19 := i_bd l1
        first | have e20 : (l2 + (1 : Int32)).toInt = l2.toInt + (1) := i_addk rfl (by omega) (by omega) | have b21 := i_bd (l2 + (1 : Int32))
        exact IH (128 - (l2 + (1 : Int32)).toInt).toNat (by omega) _ (l1) ((l2 + (1 : Int32))) rfl (zF_u hF rfl) hV18 (by omega) (by omega) r_W r_GW r_GU r_OW (show (m 94 10).toInt = 6 ∧ (m 94 58).toInt = 0 from by omega) r_WTS (show zRG1 (m 94 18) (m 94 64) (m 94 63) (m 99) (m 103) (m 102) ((ma_u m 116 l2.toNatClampNeg (0 : Int32)) 116) from by first | (exact RG_put r_RG (by omega)) | (exfalso; omega; done) | (exfalso; contradiction; done)) r_RB r_RV r_RLo r_KSe (show qTZ (m0 116) ((ma_u m 116 l2.toNatClampNeg (0 : Int32)) 116) (m 122) (m 94 64).toInt (l2 + (1 : Int32)).toInt from by first | (exact TZ_0) | (exact TZ_y r_TZ (by omega) (by omega) (by first | omega | exact i_ez (by assumption)) (fun r => mu_at r)) | (exact TZ_n r_TZ (by omega) (by omega) (by first | omega | exact i_en (by assumption))) | (exfalso; omega; done) | (exfalso; contradiction; done))
      · skip
        have g22 := i_ne h15
        try have rpr := r_RG.2.2.2.1
        try have rsi := r_RG.1
        try have rrg := r_RG.2.1
        try have rml := RG_ml (r := l4) r_RG (by have := rs_94_18 hV; omega) (by have := rs_94_64 hV; omega)
        try have rml2 := RG_ml (r := l2) r_RG (by have := rs_94_18 hV; omega) (by have := rs_94_64 hV; omega)
        have b23 := i_bd l1
        first | have e24 : (l2 + (1 : Int32)).toInt = l2.toInt + (1) := i_addk rfl (by omega) (by omega) | have b25 := i_bd (l2 + (1 : Int32))
        exact IH (128 - (l2 + (1 : Int32)).toInt).toNat (by omega) _ (l1) ((l2 + (1 : Int32))) rfl hF hV (by omega) (by omega) r_W r_GW r_GU r_OW (show (m 94 10).toInt = 6 ∧ (m 94 58).toInt = 0 from by omega) r_WTS r_RG r_RB r_RV r_RLo r_KSe (show qTZ (m0 116) (m 116) (m 122) (m 94 64).toInt (l2 + (1 : Int32)).toInt from by first | (exact TZ_0) | (exact TZ_y r_TZ (by omega) (by omega) (by first | omega | exact i_ez (by assumption)) (fun r => mu_at r)) | (exact TZ_n r_TZ (by omega) (by omega) (by first | omega | exact i_en (by assumption))) | (exfalso; omega; done) | (exfalso; contradiction; done))
set_option maxHeartbeats 8000000 in
theorem lp_235rz_44 {X : Nat × (Nat → Int32)} {P : Option ma_V → (Nat → Nat → Int32) → Prop} {T : Nat} {aa : Nat→Nat→Int32} {ro : Int32} {m0 : Nat → Nat → Int32} (h0 : zV m0) (K : ∀ v m₉, zF wr_235 m0 m₉ → zV m₉ → (zGW T (m₉ 94 55) (m₉ 109)) → (zGU T (m₉ 94 46) (m₉ 99)) → (zOw (m₉ 99) (m₉ 103) (m₉ 111)) → (zRG1 (m₉ 94 18) (m₉ 94 64) (m₉ 94 63) (m₉ 99) (m₉ 103) (m₉ 102) (m₉ 116)) → (qRB (m₉ 99) (m₉ 100) (m₉ 98) (m₉ 101) (m₉ 102) (m₉ 103) (m₉ 107) (m₉ 108) (m₉ 109) (m₉ 111) (m₉ 112) (m₉ 113) (m₉ 114) (m₉ 94 55) (m₉ 94 46) ro 0 0 0 1 (rCl aa)) → (qRv (rCl aa)) → (qRL (rCl aa) (m₉ 94 18) (m₉ 94 64) (m₉ 94 19) (m₉ 94 63) (m₉ 116)) → ((m₉ 94 45).toInt = sm (zbU (m₉ 99)) (m₉ 102) 3100) → P (some (.inl v)) m₉) : ∀ (n : Nat) (m : Nat → Nat → Int32) (l1 : Int32) (l2 : Int32), (3100 - l2.toInt).toNat = n → zF wr_235 m0 m → zV m → (0 ≤ l2.toInt) → (l2.toInt ≤ 3100) → (T ≤ 512) → (zW (m 94 7) (m 98) (m 101) (m 102) (m 108)) → (zGW T (m 94 55) (m 109)) → (zGU T (m 94 46) (m 99)) → (zOw (m 99) (m 103) (m 111)) → ((m 94 10).toInt = 6 ∧ (m 94 58).toInt = 0) → ((m 94 45).toInt = sm (zbU (m 99)) (m 102) 3100) → (zRG1 (m 94 18) (m 94 64) (m 94 63) (m 99) (m 103) (m 102) (m 116)) → (qRB (m 99) (m 100) (m 98) (m 101) (m 102) (m 103) (m 107) (m 108) (m 109) (m 111) (m 112) (m 113) (m 114) (m 94 55) (m 94 46) ro 0 0 0 1 (aSw aa)) → (qRv aa) → (qRL aa (m 94 18) (m 94 64) (m 94 19) (m 94 63) (m0 116)) → ((m 116) = (m0 116)) → (qKS (m 99) (m 102) (m 107) (m 103) (m 122) (m 123) (m 124) (m 94 18).toInt (m 94 64).toInt l2.toNatClampNeg) → zm X 5 108 235 44 [(0, .inr (.inr (some 94))), (1, .inl l1), (2, .inl l2)] m P := by
  intro n
  induction n using Nat.strongRecOn with
  | _ n IH =>
    intro m l1 l2 hmu hF hV hi0 hi1 hi2 r_W r_GW r_GU r_OW hi7 r_WTS r_RG r_RB r_RV r_RLo r_TE r_KS
    refine g_235_44 l1 l2 ?_
    have f1 : 0 ≤ (m 94 10).toInt ∧ (m 94 10).toInt ≤ 6 := rs_94_10 (m := m) hV
    have f2 : 0 ≤ (m 94 58).toInt ∧ (m 94 58).toInt ≤ 1 := rs_94_58 (m := m) hV
    have li3 : (3100 : Int32).toInt = 3100 := rfl
    have b4 := i_bd l2
    refine zd (fun (h5 : (3100 : Int32) ≤ l2) => ?_) (fun (h5 : ¬ (3100 : Int32) ≤ l2) => ?_)
    · skip
      have g6 := i_le h5
      try have rpr := r_RG.2.2.2.1
      try have rsi := r_RG.1
      try have rrg := r_RG.2.1
      try have rml := RG_ml (r := l4) r_RG (by have := rs_94_18 hV; omega) (by have := rs_94_64 hV; omega)
      try have rml2 := RG_ml (r := l2) r_RG (by have := rs_94_18 hV; omega) (by have := rs_94_64 hV; omega)
      have b7 := i_bd l1
      have li8 : (0 : Int32).toInt = 0 := rfl
      exact lp_235rz_121 h0 K _ _ (l1) ((0 : Int32)) rfl hF hV (by omega) (by omega) r_W r_GW r_GU r_OW (show (m 94 10).toInt = 6 ∧ (m 94 58).toInt = 0 from by omega) r_WTS r_RG r_RB r_RV r_RLo (show qKS (m 99) (m 102) (m 107) (m 103) (m 122) (m 123) (m 124) (m 94 18).toInt (m 94 64).toInt 3100 from by first | (have q := r_KS; rw [show l2.toNatClampNeg = 3100 from by have := tn_cast (x := l2) (by omega); omega] at q; exact q; done) | (exfalso; omega; done) | (exfalso; contradiction; done)) (show qTZ (m0 116) (m 116) (m 122) (m 94 64).toInt (0 : Int32).toInt from by first | (exact TZ_1 r_TE) | (exact TZ_0) | (exfalso; omega; done) | (exfalso; contradiction; done))
    · skip
      have g9 := i_nle h5
      have hg10 : (0 ≤ l2 ∧ l2.toNatClampNeg < 3100) := i_ix (by omega) (by omega)
      refine ⟨hg10, ?_⟩
      first | have f11 : 0 ≤ (m 99 l2.toNatClampNeg).toInt ∧ (m 99 l2.toNatClampNeg).toInt ≤ 1 := ra_99 (m := m) hV (k := l2.toNatClampNeg) (i_ix (n := 3100) (by omega) (by omega)).2 | have b12 := i_bd (m 99 l2.toNatClampNeg)
      have li13 : (0 : Int32).toInt = 0 := rfl
      refine zd (fun (h14 : (m 99 l2.toNatClampNeg) = (0 : Int32)) => ?_) (fun (h14 : ¬ (m 99 l2.toNatClampNeg) = (0 : Int32)) => ?_)
      · skip
        have g15 := i_eq h14
        try have rpr := r_RG.2.2.2.1
        try have rsi := r_RG.1
        try have rrg := r_RG.2.1
        try have rml := RG_ml (r := l4) r_RG (by have := rs_94_18 hV; omega) (by have := rs_94_64 hV; omega)
        try have rml2 := RG_ml (r := l2) r_RG (by have := rs_94_18 hV; omega) (by have := rs_94_64 hV; omega)
        have b16 := i_bd l1
        first | have e17 : (l2 + (1 : Int32)).toInt = l2.toInt + (1) := i_addk rfl (by omega) (by omega) | have b18 := i_bd (l2 + (1 : Int32))
        exact IH (3100 - (l2 + (1 : Int32)).toInt).toNat (by omega) _ (l1) ((l2 + (1 : Int32))) rfl hF hV (by omega) (by omega) (by omega) r_W r_GW r_GU r_OW (show (m 94 10).toInt = 6 ∧ (m 94 58).toInt = 0 from by omega) r_WTS r_RG r_RB r_RV r_RLo r_TE (show qKS (m 99) (m 102) (m 107) (m 103) (m 122) (m 123) (m 124) (m 94 18).toInt (m 94 64).toInt (l2 + (1 : Int32)).toNatClampNeg from by first | (exact KS_n r_KS (by omega) (by assumption) (by omega)) | (exact KS_y r_RB.1 r_KS (by omega) (by omega) r_RG.1 (by assumption) (by omega) (fun r => mu_at r) (Or.inl ⟨by omega, fun r => mu_at r⟩)) | (exact KS_y r_RB.1 r_KS (by omega) (by omega) r_RG.1 (by assumption) (by omega) (fun r => mu_at r) (Or.inr ⟨by omega, rfl⟩)) | (exact KS_0 (by omega)) | (exact KS_dec r_KS (by omega)) | (exfalso; omega; done) | (exfalso; contradiction; done))
      · skip
        have g19 := i_ne h14
        try have rpr := r_RG.2.2.2.1
        try have rsi := r_RG.1
        try have rrg := r_RG.2.1
        try have rml := RG_ml (r := l4) r_RG (by have := rs_94_18 hV; omega) (by have := rs_94_64 hV; omega)
        try have rml2 := RG_ml (r := l2) r_RG (by have := rs_94_18 hV; omega) (by have := rs_94_64 hV; omega)
        have hg20 : (0 ≤ l2 ∧ l2.toNatClampNeg < 3100) := i_ix (by omega) (by omega)
        refine ⟨hg20, ?_⟩
        have f21 : 0 ≤ (m 94 18).toInt ∧ (m 94 18).toInt ≤ 256 := rs_94_18 (m := m) hV
        have hg22 : (m 94 18) ≠ 0 := i_nz (by omega)
        refine ⟨hg22, ?_⟩
        first | have f23 : 0 ≤ (m 103 l2.toNatClampNeg).toInt ∧ (m 103 l2.toNatClampNeg).toInt ≤ 4599 := ra_103 (m := m) hV (k := l2.toNatClampNeg) (i_ix (n := 3100) (by omega) (by omega)).2 | have b24 := i_bd (m 103 l2.toNatClampNeg)
        first | have f25 := i_div (x := (m 103 l2.toNatClampNeg)) (y := (m 94 18)) (by omega) (by omega) | have b26 := i_bd ((m 103 l2.toNatClampNeg) / (m 94 18))
        try have au := RG_at r_RG (s := l2.toNatClampNeg) (by omega) (by assumption)
        try have rsi := r_RG.1
        try have dv : 0 ≤ (((m 103 l2.toNatClampNeg) / (m 94 18))).toInt ∧ (((m 103 l2.toNatClampNeg) / (m 94 18))).toInt ≤ 93 := i_div16 (by omega) (by omega) (by omega)
        have hg27 : (0 ≤ ((m 103 l2.toNatClampNeg) / (m 94 18)) ∧ ((m 103 l2.toNatClampNeg) / (m 94 18)).toNatClampNeg < 128) := i_ix (by omega) (by omega)
        refine ⟨hg27, ?_⟩
        try have ow5 := r_OW l5.toNatClampNeg (by omega) (by omega)
        try have ra5 := RG_at r_RG (s := (m 111 l5.toNatClampNeg).toNatClampNeg) (by omega) ow5.1
        have hg28 : (0 ≤ l2 ∧ l2.toNatClampNeg < 3100) := i_ix (by omega) (by omega)
        refine ⟨hg28, ?_⟩
        try have au := RG_at r_RG (s := l2.toNatClampNeg) (by omega) (by assumption)
        try have rsi := r_RG.1
        try have dv : 0 ≤ (((m 103 l2.toNatClampNeg) / (m 94 18))).toInt ∧ (((m 103 l2.toNatClampNeg) / (m 94 18))).toInt ≤ 93 := i_div16 (by omega) (by omega) (by omega)
        have hg29 : (0 ≤ ((m 103 l2.toNatClampNeg) / (m 94 18)) ∧ ((m 103 l2.toNatClampNeg) / (m 94 18)).toNatClampNeg < 128) := i_ix (by omega) (by omega)
        refine ⟨hg29, ?_⟩
        have hg30 : (0 ≤ l2 ∧ l2.toNatClampNeg < 3100) := i_ix (by omega) (by omega)
        refine ⟨hg30, ?_⟩
        have b31 := i_bd (m 107 l2.toNatClampNeg)
        refine zd (fun (h32 : (m 107 l2.toNatClampNeg) ≤ (0 : Int32)) => ?_) (fun (h32 : ¬ (m 107 l2.toNatClampNeg) ≤ (0 : Int32)) => ?_)
        · skip
          have g33 := i_le h32
          try have rpr := r_RG.2.2.2.1
          try have rsi := r_RG.1
          try have rrg := r_RG.2.1
          try have rml := RG_ml (r := l4) r_RG (by have := rs_94_18 hV; omega) (by have := rs_94_64 hV; omega)
          try have rml2 := RG_ml (r := l2) r_RG (by have := rs_94_18 hV; omega) (by have := rs_94_64 hV; omega)
          have hV34 : zV (ma_u m 122 ((m 103 l2.toNatClampNeg) / (m 94 18)).toNatClampNeg ((m 122 ((m 103 l2.toNatClampNeg) / (m 94 18)).toNatClampNeg) + ((m 102 l2.toNatClampNeg) + (1 : Int32)))) := ua_122 hV
          have b35 := i_bd l1
          first | have e36 : (l2 + (1 : Int32)).toInt = l2.toInt + (1) := i_addk rfl (by omega) (by omega) | have b37 := i_bd (l2 + (1 : Int32))
          exact IH (3100 - (l2 + (1 : Int32)).toInt).toNat (by omega) _ (l1) ((l2 + (1 : Int32))) rfl (zF_u hF rfl) hV34 (by omega) (by omega) (by omega) r_W r_GW r_GU r_OW (show (m 94 10).toInt = 6 ∧ (m 94 58).toInt = 0 from by omega) r_WTS r_RG r_RB r_RV r_RLo r_TE (show qKS (m 99) (m 102) (m 107) (m 103) ((ma_u m 122 ((m 103 l2.toNatClampNeg) / (m 94 18)).toNatClampNeg ((m 122 ((m 103 l2.toNatClampNeg) / (m 94 18)).toNatClampNeg) + ((m 102 l2.toNatClampNeg) + (1 : Int32)))) 122) (m 123) (m 124) (m 94 18).toInt (m 94 64).toInt (l2 + (1 : Int32)).toNatClampNeg from by first | (exact KS_n r_KS (by omega) (by assumption) (by omega)) | (exact KS_y r_RB.1 r_KS (by omega) (by omega) r_RG.1 (by assumption) (by omega) (fun r => mu_at r) (Or.inl ⟨by omega, fun r => mu_at r⟩)) | (exact KS_y r_RB.1 r_KS (by omega) (by omega) r_RG.1 (by assumption) (by omega) (fun r => mu_at r) (Or.inr ⟨by omega, rfl⟩)) | (exact KS_push r_KS (by assumption) (by omega) (by decide) (by assumption)) | (exact KS_push (KS_0 (r := m 110) (y := m 94 73) (by omega)) (by assumption) (by omega) (by decide) (by assumption)) | (exfalso; omega; done) | (exfalso; contradiction; done))
        · skip
          have g38 := i_nle h32
          try have rpr := r_RG.2.2.2.1
          try have rsi := r_RG.1
          try have rrg := r_RG.2.1
          try have rml := RG_ml (r := l4) r_RG (by have := rs_94_18 hV; omega) (by have := rs_94_64 hV; omega)
          try have rml2 := RG_ml (r := l2) r_RG (by have := rs_94_18 hV; omega) (by have := rs_94_64 hV; omega)
          have hg39 : (0 ≤ l2 ∧ l2.toNatClampNeg < 3100) := i_ix (by omega) (by omega)
          refine ⟨hg39, ?_⟩
          have hg40 : (m 94 18) ≠ 0 := i_nz (by omega)
          refine ⟨hg40, ?_⟩
          try have au := RG_at r_RG (s := l2.toNatClampNeg) (by omega) (by assumption)
          try have rsi := r_RG.1
          try have dv : 0 ≤ (((m 103 l2.toNatClampNeg) / (m 94 18))).toInt ∧ (((m 103 l2.toNatClampNeg) / (m 94 18))).toInt ≤ 93 := i_div16 (by omega) (by omega) (by omega)
          have hg41 : (0 ≤ ((m 103 l2.toNatClampNeg) / (m 94 18)) ∧ ((m 103 l2.toNatClampNeg) / (m 94 18)).toNatClampNeg < 128) := i_ix (by omega) (by omega)
          refine ⟨hg41, ?_⟩
          try have rpr := r_RG.2.2.2.1
          try have rsi := r_RG.1
          try have rrg := r_RG.2.1
          try have rml := RG_ml (r := l4) r_RG (by have := rs_94_18 hV; omega) (by have := rs_94_64 hV; omega)
          try have rml2 := RG_ml (r := l2) r_RG (by have := rs_94_18 hV; omega) (by have := rs_94_64 hV; omega)
          have hV42 : zV (ma_u m 122 ((m 103 l2.toNatClampNeg) / (m 94 18)).toNatClampNeg ((m 122 ((m 103 l2.toNatClampNeg) / (m 94 18)).toNatClampNeg) + ((m 102 l2.toNatClampNeg) + (1 : Int32)))) := ua_122 hV
          have li44 : (1 : Int32).toInt = 1 := rfl
          have hV43 : zV (ma_u (ma_u m 122 ((m 103 l2.toNatClampNeg) / (m 94 18)).toNatClampNeg ((m 122 ((m 103 l2.toNatClampNeg) / (m 94 18)).toNatClampNeg) + ((m 102 l2.toNatClampNeg) + (1 : Int32)))) 123 ((m 103 l2.toNatClampNeg) / (m 94 18)).toNatClampNeg (1 : Int32)) := ua_123 hV42 (by omega) (by omega)
          have b45 := i_bd l1
          first | have e46 : (l2 + (1 : Int32)).toInt = l2.toInt + (1) := i_addk rfl (by omega) (by omega) | have b47 := i_bd (l2 + (1 : Int32))
          exact IH (3100 - (l2 + (1 : Int32)).toInt).toNat (by omega) _ (l1) ((l2 + (1 : Int32))) rfl (zF_u (zF_u hF rfl) rfl) hV43 (by omega) (by omega) (by omega) r_W r_GW r_GU r_OW (show (m 94 10).toInt = 6 ∧ (m 94 58).toInt = 0 from by omega) r_WTS r_RG r_RB r_RV r_RLo r_TE (show qKS (m 99) (m 102) (m 107) (m 103) ((ma_u m 122 ((m 103 l2.toNatClampNeg) / (m 94 18)).toNatClampNeg ((m 122 ((m 103 l2.toNatClampNeg) / (m 94 18)).toNatClampNeg) + ((m 102 l2.toNatClampNeg) + (1 : Int32)))) 122) ((ma_u m 123 ((m 103 l2.toNatClampNeg) / (m 94 18)).toNatClampNeg (1 : Int32)) 123) (m 124) (m 94 18).toInt (m 94 64).toInt (l2 + (1 : Int32)).toNatClampNeg from by first | (exact KS_n r_KS (by omega) (by assumption) (by omega)) | (exact KS_y r_RB.1 r_KS (by omega) (by omega) r_RG.1 (by assumption) (by omega) (fun r => mu_at r) (Or.inl ⟨by omega, fun r => mu_at r⟩)) | (exact KS_y r_RB.1 r_KS (by omega) (by omega) r_RG.1 (by assumption) (by omega) (fun r => mu_at r) (Or.inr ⟨by omega, rfl⟩)) | (exact KS_push r_KS (by assumption) (by omega) (by decide) (by assumption)) | (exact KS_push (KS_0 (r := m 110) (y := m 94 73) (by omega)) (by assumption) (by omega) (by decide) (by assumption)) | (exfalso; omega; done) | (exfalso; contradiction; done))
set_option maxHeartbeats 8000000 in
theorem lp_235rz_7 {X : Nat × (Nat → Int32)} {P : Option ma_V → (Nat → Nat → Int32) → Prop} {T : Nat} {aa : Nat→Nat→Int32} {ro : Int32} {m0 : Nat → Nat → Int32} (h0 : zV m0) (K : ∀ v m₉, zF wr_235 m0 m₉ → zV m₉ → (zGW T (m₉ 94 55) (m₉ 109)) → (zGU T (m₉ 94 46) (m₉ 99)) → (zOw (m₉ 99) (m₉ 103) (m₉ 111)) → (zRG1 (m₉ 94 18) (m₉ 94 64) (m₉ 94 63) (m₉ 99) (m₉ 103) (m₉ 102) (m₉ 116)) → (qRB (m₉ 99) (m₉ 100) (m₉ 98) (m₉ 101) (m₉ 102) (m₉ 103) (m₉ 107) (m₉ 108) (m₉ 109) (m₉ 111) (m₉ 112) (m₉ 113) (m₉ 114) (m₉ 94 55) (m₉ 94 46) ro 0 0 0 1 (rCl aa)) → (qRv (rCl aa)) → (qRL (rCl aa) (m₉ 94 18) (m₉ 94 64) (m₉ 94 19) (m₉ 94 63) (m₉ 116)) → ((m₉ 94 45).toInt = sm (zbU (m₉ 99)) (m₉ 102) 3100) → P (some (.inl v)) m₉) : ∀ (n : Nat) (m : Nat → Nat → Int32) (l1 : Int32) (l2 : Int32), (128 - l2.toInt).toNat = n → zF wr_235 m0 m → zV m → (0 ≤ l2.toInt) → (T ≤ 512) → (zW (m 94 7) (m 98) (m 101) (m 102) (m 108)) → (zGW T (m 94 55) (m 109)) → (zGU T (m 94 46) (m 99)) → (zOw (m 99) (m 103) (m 111)) → ((m 94 10).toInt = 6 ∧ (m 94 58).toInt = 0) → ((m 94 45).toInt = sm (zbU (m 99)) (m 102) 3100) → (zRG1 (m 94 18) (m 94 64) (m 94 63) (m 99) (m 103) (m 102) (m 116)) → (qRB (m 99) (m 100) (m 98) (m 101) (m 102) (m 103) (m 107) (m 108) (m 109) (m 111) (m 112) (m 113) (m 114) (m 94 55) (m 94 46) ro 0 0 0 1 (aSw aa)) → (qRv aa) → (qRL aa (m 94 18) (m 94 64) (m 94 19) (m 94 63) (m0 116)) → ((m 116) = (m0 116)) → (qK0 (m 122) (m 123) (m 124) l2.toInt) → zm X 5 108 235 7 [(0, .inr (.inr (some 94))), (1, .inl l1), (2, .inl l2)] m P := by
  intro n
  induction n using Nat.strongRecOn with
  | _ n IH =>
    intro m l1 l2 hmu hF hV hi0 hi1 r_W r_GW r_GU r_OW hi6 r_WTS r_RG r_RB r_RV r_RLo r_TE r_K0
    refine g_235_7 l1 l2 ?_
    have f1 : 0 ≤ (m 94 10).toInt ∧ (m 94 10).toInt ≤ 6 := rs_94_10 (m := m) hV
    have f2 : 0 ≤ (m 94 58).toInt ∧ (m 94 58).toInt ≤ 1 := rs_94_58 (m := m) hV
    have f3 : 0 ≤ (m 94 64).toInt ∧ (m 94 64).toInt ≤ 93 := rs_94_64 (m := m) hV
    have b4 := i_bd l2
    refine zd (fun (h5 : (m 94 64) ≤ l2) => ?_) (fun (h5 : ¬ (m 94 64) ≤ l2) => ?_)
    · skip
      have g6 := i_le h5
      try have rpr := r_RG.2.2.2.1
      try have rsi := r_RG.1
      try have rrg := r_RG.2.1
      try have rml := RG_ml (r := l4) r_RG (by have := rs_94_18 hV; omega) (by have := rs_94_64 hV; omega)
      try have rml2 := RG_ml (r := l2) r_RG (by have := rs_94_18 hV; omega) (by have := rs_94_64 hV; omega)
      have b7 := i_bd l1
      have li8 : (0 : Int32).toInt = 0 := rfl
      exact lp_235rz_44 h0 K _ _ (l1) ((0 : Int32)) rfl hF hV (by omega) (by omega) (by omega) r_W r_GW r_GU r_OW (show (m 94 10).toInt = 6 ∧ (m 94 58).toInt = 0 from by omega) r_WTS r_RG r_RB r_RV r_RLo r_TE (show qKS (m 99) (m 102) (m 107) (m 103) (m 122) (m 123) (m 124) (m 94 18).toInt (m 94 64).toInt (0 : Int32).toNatClampNeg from by first | (exact KZ_0 r_K0 (by omega)) | (exact KS_0 (by omega)) | (exfalso; omega; done) | (exfalso; contradiction; done))
    · skip
      have g9 := i_nle h5
      try have au := RG_at r_RG (s := l2.toNatClampNeg) (by omega) (by assumption)
      try have rsi := r_RG.1
      try have dv : 0 ≤ (l2).toInt ∧ (l2).toInt ≤ 93 := i_div16 (by omega) (by omega) (by omega)
      have hg10 : (0 ≤ l2 ∧ l2.toNatClampNeg < 128) := i_ix (by omega) (by omega)
      refine ⟨hg10, ?_⟩
      try have au := RG_at r_RG (s := l2.toNatClampNeg) (by omega) (by assumption)
      try have rsi := r_RG.1
      try have dv : 0 ≤ (l2).toInt ∧ (l2).toInt ≤ 93 := i_div16 (by omega) (by omega) (by omega)
      have hg11 : (0 ≤ l2 ∧ l2.toNatClampNeg < 128) := i_ix (by omega) (by omega)
      refine ⟨hg11, ?_⟩
      try have rpr := r_RG.2.2.2.1
      try have rsi := r_RG.1
      try have rrg := r_RG.2.1
      try have rml := RG_ml (r := l4) r_RG (by have := rs_94_18 hV; omega) (by have := rs_94_64 hV; omega)
      try have rml2 := RG_ml (r := l2) r_RG (by have := rs_94_18 hV; omega) (by have := rs_94_64 hV; omega)
      have hg12 : (0 ≤ l2 ∧ l2.toNatClampNeg < 128) := i_ix (by omega) (by omega)
      refine ⟨hg12, ?_⟩
      try have rpr := r_RG.2.2.2.1
      try have rsi := r_RG.1
      try have rrg := r_RG.2.1
      try have rml := RG_ml (r := l4) r_RG (by have := rs_94_18 hV; omega) (by have := rs_94_64 hV; omega)
      try have rml2 := RG_ml (r := l2) r_RG (by have := rs_94_18 hV; omega) (by have := rs_94_64 hV; omega)
      have hV13 : zV (ma_u m 122 l2.toNatClampNeg (0 : Int32)) := ua_122 hV
      have li15 : (0 : Int32).toInt = 0 := rfl
      have hV14 : zV (ma_u (ma_u m 122 l2.toNatClampNeg (0 : Int32)) 123 l2.toNatClampNeg (0 : Int32)) := ua_123 hV13 (by omega) (by omega)
      have hV16 : zV (ma_u (ma_u (ma_u m 122 l2.toNatClampNeg (0 : Int32)) 123 l2.toNatClampNeg (0 : Int32)) 124 l2.toNatClampNeg (0 : Int32)) := ua_124 hV14 (by omega) (by omega)
      have b17 := i_bd l1
      first | have e18 : (l2 + (1 : Int32)).toInt = l2.toInt + (1) := i_addk rfl (by omega) (by omega) | have b19 := i_bd (l2 + (1 : Int32))
      exact IH (128 - (l2 + (1 : Int32)).toInt).toNat (by omega) _ (l1) ((l2 + (1 : Int32))) rfl (zF_u (zF_u (zF_u hF rfl) rfl) rfl) hV16 (by omega) (by omega) r_W r_GW r_GU r_OW (show (m 94 10).toInt = 6 ∧ (m 94 58).toInt = 0 from by omega) r_WTS r_RG r_RB r_RV r_RLo r_TE (show qK0 ((ma_u m 122 l2.toNatClampNeg (0 : Int32)) 122) ((ma_u m 123 l2.toNatClampNeg (0 : Int32)) 123) ((ma_u m 124 l2.toNatClampNeg (0 : Int32)) 124) (l2 + (1 : Int32)).toInt from by first | (exact K0_0) | (exact K0_nx r_K0 (by omega) (by omega) (fun r => mu_at r) (fun r => mu_at r) (fun r => mu_at r)) | (exfalso; omega; done) | (exfalso; contradiction; done))
set_option maxHeartbeats 8000000 in
theorem sp_235rz {X : Nat × (Nat → Int32)} {P : Option ma_V → (Nat → Nat → Int32) → Prop} {T : Nat} {aa : Nat→Nat→Int32} {ro : Int32} {m : Nat → Nat → Int32}  (hV : zV m) (hpre0 : T ≤ 512) (r_W : zW (m 94 7) (m 98) (m 101) (m 102) (m 108)) (r_GW : zGW T (m 94 55) (m 109)) (r_GU : zGU T (m 94 46) (m 99)) (r_OW : zOw (m 99) (m 103) (m 111)) (hpre5 : (m 94 10).toInt = 6 ∧ (m 94 58).toInt = 0) (r_RB : qRB (m 99) (m 100) (m 98) (m 101) (m 102) (m 103) (m 107) (m 108) (m 109) (m 111) (m 112) (m 113) (m 114) (m 94 55) (m 94 46) ro 0 0 0 1 aa) (r_RV : qRv aa) (r_RL : qRL aa (m 94 18) (m 94 64) (m 94 19) (m 94 63) (m 116)) (r_RG : zRG1 (m 94 18) (m 94 64) (m 94 63) (m 99) (m 103) (m 102) (m 116)) (r_WTS : (m 94 45).toInt = sm (zbU (m 99)) (m 102) 3100) (KZ : ∀ v m₉, zV (zov wr_235 m m₉) → (zGW T (m₉ 94 55) (m₉ 109)) → (zGU T (m 94 46) (m₉ 99)) → (zOw (m₉ 99) (m₉ 103) (m₉ 111)) → (zRG1 (m 94 18) (m 94 64) (m₉ 94 63) (m₉ 99) (m₉ 103) (m 102) (m₉ 116)) → (qRB (m₉ 99) (m 100) (m 98) (m 101) (m 102) (m₉ 103) (m 107) (m 108) (m₉ 109) (m₉ 111) (m 112) (m₉ 113) (m₉ 114) (m₉ 94 55) (m 94 46) ro 0 0 0 1 (rCl aa)) → (qRv (rCl aa)) → (qRL (rCl aa) (m 94 18) (m 94 64) (m 94 19) (m₉ 94 63) (m₉ 116)) → ((m₉ 94 45).toInt = sm (zbU (m₉ 99)) (m 102) 3100) → P (some (.inl v)) (zov wr_235 m m₉)) : zm X 5 108 235 0 [(0, .inr (.inr (some 94)))] m P := by
  have K : ∀ v m₉, zF wr_235 m m₉ → zV m₉ → (zGW T (m₉ 94 55) (m₉ 109)) → (zGU T (m₉ 94 46) (m₉ 99)) → (zOw (m₉ 99) (m₉ 103) (m₉ 111)) → (zRG1 (m₉ 94 18) (m₉ 94 64) (m₉ 94 63) (m₉ 99) (m₉ 103) (m₉ 102) (m₉ 116)) → (qRB (m₉ 99) (m₉ 100) (m₉ 98) (m₉ 101) (m₉ 102) (m₉ 103) (m₉ 107) (m₉ 108) (m₉ 109) (m₉ 111) (m₉ 112) (m₉ 113) (m₉ 114) (m₉ 94 55) (m₉ 94 46) ro 0 0 0 1 (rCl aa)) → (qRv (rCl aa)) → (qRL (rCl aa) (m₉ 94 18) (m₉ 94 64) (m₉ 94 19) (m₉ 94 63) (m₉ 116)) → ((m₉ 94 45).toInt = sm (zbU (m₉ 99)) (m₉ 102) 3100) → P (some (.inl v)) m₉ := by
    intro v m₉ hf z q0 q1 q2 q3 q4 q5 q6 q7
    have e := zov_eq hf
    rw [e] at z ⊢
    try rw [e] at q0
    try rw [e] at q1
    try rw [e] at q2
    try rw [e] at q3
    try rw [e] at q4
    try rw [e] at q5
    try rw [e] at q6
    try rw [e] at q7
    exact KZ v m₉ z q0 q1 q2 q3 q4 q5 q6 q7
  refine g_235_0  ?_
  have f1 : 0 ≤ (m 94 10).toInt ∧ (m 94 10).toInt ≤ 6 := rs_94_10 (m := m) hV
  have f2 : 0 ≤ (m 94 58).toInt ∧ (m 94 58).toInt ≤ 1 := rs_94_58 (m := m) hV
  refine sp_187rm (aa := aa)  hV (by omega) r_W r_GW r_GU r_OW (show (m 94 10).toInt ≠ 4 from by omega) r_RB (show qI aa from by first | (exact r_RV.1) | (exfalso; omega; done) | (exfalso; contradiction; done)) r_WTS (fun v2 m1 hV_m1 p0_m1 p1_m1 p2_m1 p3_m1 p4_m1 p5_m1 => zmi_n ?_)
  have p0_m1 : zGW T (m1 94 55) (m1 109) := p0_m1
  have p1_m1 : zGU T (m 94 46) (m1 99) := p1_m1
  have p2_m1 : zOw (m1 99) (m 103) (m1 111) := p2_m1
  have p3_m1 : qRB (m1 99) (m 100) (m 98) (m 101) (m 102) (m 103) (m 107) (m 108) (m1 109) (m1 111) (m 112) (m1 113) (m1 114) (m1 94 55) (m 94 46) ro 0 0 0 1 (aSw aa) := p3_m1
  have p4_m1 : qI (aSw aa) := p4_m1
  have p5_m1 : (m1 94 45).toInt = sm (zbU (m1 99)) (m 102) 3100 := p5_m1
  try have rpr := r_RG.2.2.2.1
  try have rsi := r_RG.1
  try have rrg := r_RG.2.1
  try have rml := RG_ml (r := l4) r_RG (by have := rs_94_18 hV; omega) (by have := rs_94_64 hV; omega)
  try have rml2 := RG_ml (r := l2) r_RG (by have := rs_94_18 hV; omega) (by have := rs_94_64 hV; omega)
  have b3 := i_bd v2
  have li4 : (0 : Int32).toInt = 0 := rfl
  exact lp_235rz_7 hV K _ _ (v2) ((0 : Int32)) rfl (zF_zov zF_rfl ws_187_235) hV_m1 (by omega) (by omega) r_W p0_m1 p1_m1 p2_m1 (show (m 94 10).toInt = 6 ∧ (m 94 58).toInt = 0 from by omega) p5_m1 (show zRG1 (m 94 18) (m 94 64) (m 94 63) (m1 99) (m 103) (m 102) (m 116) from by first | (exact RG_of p3_m1 (Rv_sw r_RV) (RL_sw r_RL)) | (exfalso; omega; done) | (exfalso; contradiction; done)) p3_m1 r_RV (show qRL aa (m 94 18) (m 94 64) (m 94 19) (m 94 63) (m 116) from by first | (exact r_RL) | (exfalso; omega; done) | (exfalso; contradiction; done)) (show (m 116) = (m 116) from by first | (exact rfl) | (exfalso; omega; done) | (exfalso; contradiction; done)) (show qK0 (m 122) (m 123) (m 124) (0 : Int32).toInt from by first | (exact K0_0) | (exfalso; omega; done) | (exfalso; contradiction; done))

