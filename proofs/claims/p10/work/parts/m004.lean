/-! from 95.zu03 -/
/-! the reference: who is used, words (written by wip/tools/gen15u.py) -/
set_option maxHeartbeats 8000000 in
theorem lp_235uw_199 {X : Nat × (Nat → Int32)} {P : Option ma_V → (Nat → Nat → Int32) → Prop} {T : Nat} {m0 : Nat → Nat → Int32} (h0 : zV m0) (K : ∀ v m₉, zF wr_235 m0 m₉ → zV m₉ → (zGW T (m₉ 94 55) (m₉ 109)) → (zGU T (m₉ 94 46) (m₉ 99)) → (zOw (m₉ 99) (m₉ 103) (m₉ 111)) → (zDX (m₉ 94 10) (m₉ 99) (m₉ 112) (m₉ 113) (m₉ 114) (m₉ 94 55) (m₉ 98) (m₉ 101) (m₉ 102) (m₉ 108)) → (zRG1 (m₉ 94 18) (m₉ 94 64) (m₉ 94 63) (m₉ 99) (m₉ 103) (m₉ 102) (m₉ 116)) → (zUs (m0 99) (m₉ 99)) → P (some (.inl v)) m₉) {n161 : Nat} (OUT161 : ∀ (m₉ : Nat → Nat → Int32) (l1 : Int32) (l2 : Int32) (l3 : Int32) (l4 : Int32), (((128 - cnt (m₉ 124) 128 : Nat) : Int)).toNat < n161 → zF wr_235 m0 m₉ → zV m₉ → (0 ≤ l3.toInt) → (l3.toInt ≤ 1) → (-1 ≤ l2.toInt ∧ l2.toInt < (m₉ 94 64).toInt) → (l4.toInt = -1 ∨ (0 ≤ l4.toInt ∧ l4.toInt < (m₉ 94 64).toInt ∧ (m₉ 124) l4.toNatClampNeg = 0)) → (zW (m₉ 94 7) (m₉ 98) (m₉ 101) (m₉ 102) (m₉ 108)) → (zGW T (m₉ 94 55) (m₉ 109)) → (zGU T (m₉ 94 46) (m₉ 99)) → (zOw (m₉ 99) (m₉ 103) (m₉ 111)) → (zDX (m₉ 94 10) (m₉ 99) (m₉ 112) (m₉ 113) (m₉ 114) (m₉ 94 55) (m₉ 98) (m₉ 101) (m₉ 102) (m₉ 108)) → (zRG1 (m₉ 94 18) (m₉ 94 64) (m₉ 94 63) (m₉ 99) (m₉ 103) (m₉ 102) (m₉ 116)) → ((m₉ 94 10).toInt = 6) → (zUs (m0 99) (m₉ 99)) → zm X 5 108 235 161 [(0, .inr (.inr (some 94))), (1, .inl l1), (2, .inl l2), (3, .inl l3), (4, .inl l4)] m₉ P) : ∀ (n : Nat) (m : Nat → Nat → Int32) (l1 : Int32) (l2 : Int32) (l3 : Int32) (l4 : Int32) (l5 : Int32) (l6 : Int32), (l6.toInt - l5.toInt).toNat = n → zF wr_235 m0 m → zV m → (0 ≤ l3.toInt) → (l3.toInt ≤ 1) → (-1 ≤ l2.toInt ∧ l2.toInt < (m 94 64).toInt) → (0 ≤ l4.toInt) → (l4.toInt < (m 94 64).toInt) → (0 ≤ l5.toInt) → (l6.toInt ≤ 1500) → (l5.toInt ≤ 1600) → (128 - cnt (m 124) 128 < n161) → (zW (m 94 7) (m 98) (m 101) (m 102) (m 108)) → (zGW T (m 94 55) (m 109)) → (zGU T (m 94 46) (m 99)) → (zOw (m 99) (m 103) (m 111)) → (zDX (m 94 10) (m 99) (m 112) (m 113) (m 114) (m 94 55) (m 98) (m 101) (m 102) (m 108)) → (zRG1 (m 94 18) (m 94 64) (m 94 63) (m 99) (m 103) (m 102) (m 116)) → ((m 94 10).toInt = 6) → (zUs (m0 99) (m 99)) → zm X 5 108 235 199 [(0, .inr (.inr (some 94))), (1, .inl l1), (2, .inl l2), (3, .inl l3), (4, .inl l4), (5, .inl l5), (6, .inl l6)] m P := by
  intro n
  induction n using Nat.strongRecOn with
  | _ n IH =>
    intro m l1 l2 l3 l4 l5 l6 hmu hF hV hi0 hi1 hi2 hi3 hi4 hi5 hi6 hi7 r_MD r_W r_GW r_GU r_OW r_DX r_RG hi15 r_UQs
    refine g_235_199 l1 l2 l3 l4 l5 l6 ?_
    have f1 : 0 ≤ (m 94 64).toInt ∧ (m 94 64).toInt ≤ 93 := rs_94_64 (m := m) hV
    have f2 : 0 ≤ (m 94 10).toInt ∧ (m 94 10).toInt ≤ 6 := rs_94_10 (m := m) hV
    have b3 := i_bd l6
    have b4 := i_bd l5
    refine zd (fun (h5 : l6 ≤ l5) => ?_) (fun (h5 : ¬ l6 ≤ l5) => ?_)
    · skip
      have g6 := i_le h5
      have b7 := i_bd l3
      have li8 : (0 : Int32).toInt = 0 := rfl
      refine zd (fun (h9 : l3 = (0 : Int32)) => ?_) (fun (h9 : ¬ l3 = (0 : Int32)) => ?_)
      · skip
        have g10 := i_eq h9
        refine sp_236  hV  (fun v2 m1 hV_m1 p0_m1 => zmi_n ?_)
        have p0_m1 : v2.toInt = -1 ∨ (0 ≤ v2.toInt ∧ v2.toInt < (m 94 64).toInt ∧ (m 124) v2.toNatClampNeg = 0) := p0_m1
        try have rpr := r_RG.2.2.2.1
        try have rsi := r_RG.1
        try have rrg := r_RG.2.1
        try have rml := RG_ml (r := l4) r_RG (by have := rs_94_18 hV; omega) (by have := rs_94_64 hV; omega)
        try have rml2 := RG_ml (r := l2) r_RG (by have := rs_94_18 hV; omega) (by have := rs_94_64 hV; omega)
        have b11 := i_bd l1
        have b12 := i_bd l2
        have b13 := i_bd v2
        exact OUT161 _ (l1) (l2) (l3) (v2) (show (((128 - cnt (m 124) 128 : Nat) : Int)).toNat < n161 from by omega) (zF_zov hF ws_236_235) hV_m1 (by omega) (by omega) (show -1 ≤ l2.toInt ∧ l2.toInt < (m 94 64).toInt from by omega) p0_m1 r_W r_GW r_GU r_OW r_DX r_RG (show (m 94 10).toInt = 6 from by omega) r_UQs
      · skip
        have g14 := i_ne h9
        have b15 := i_bd l4
        try have rpr := r_RG.2.2.2.1
        try have rsi := r_RG.1
        try have rrg := r_RG.2.1
        try have rml := RG_ml (r := l4) r_RG (by have := rs_94_18 hV; omega) (by have := rs_94_64 hV; omega)
        try have rml2 := RG_ml (r := l2) r_RG (by have := rs_94_18 hV; omega) (by have := rs_94_64 hV; omega)
        have hg16 : (0 ≤ l4 ∧ l4.toNatClampNeg < 128) := i_ix (by omega) (by omega)
        refine ⟨hg16, ?_⟩
        have hV17 : zV (ma_u m 116 l4.toNatClampNeg (0 : Int32)) := ua_116 hV (by omega) (by omega)
        refine sp_236  hV17  (fun v4 m3 hV_m3 p0_m3 => zmi_n ?_)
        have p0_m3 : v4.toInt = -1 ∨ (0 ≤ v4.toInt ∧ v4.toInt < (m 94 64).toInt ∧ (m 124) v4.toNatClampNeg = 0) := p0_m3
        try have rpr := r_RG.2.2.2.1
        try have rsi := r_RG.1
        try have rrg := r_RG.2.1
        try have rml := RG_ml (r := l4) r_RG (by have := rs_94_18 hV; omega) (by have := rs_94_64 hV; omega)
        try have rml2 := RG_ml (r := l2) r_RG (by have := rs_94_18 hV; omega) (by have := rs_94_64 hV; omega)
        have b18 := i_bd l1
        have b19 := i_bd l2
        have b20 := i_bd v4
        exact OUT161 _ (l1) (l2) (l3) (v4) (show (((128 - cnt (m 124) 128 : Nat) : Int)).toNat < n161 from by omega) (zF_zov (zF_u hF rfl) ws_236_235) hV_m3 (by omega) (by omega) (show -1 ≤ l2.toInt ∧ l2.toInt < (m 94 64).toInt from by omega) p0_m3 r_W r_GW r_GU r_OW r_DX (show zRG1 (m 94 18) (m 94 64) (m 94 63) (m 99) (m 103) (m 102) ((ma_u m 116 l4.toNatClampNeg (0 : Int32)) 116) from by first | (exact RG_put r_RG (by omega)) | (exfalso; omega; done) | (exfalso; contradiction; done)) (show (m 94 10).toInt = 6 from by omega) r_UQs
    · skip
      have g21 := i_nle h5
      have b22 := i_bd l3
      have li23 : (0 : Int32).toInt = 0 := rfl
      refine zd (fun (h24 : l3 = (0 : Int32)) => ?_) (fun (h24 : ¬ l3 = (0 : Int32)) => ?_)
      · skip
        have g25 := i_eq h24
        refine zd (fun (h26 : l3 = (0 : Int32)) => ?_) (fun (h26 : ¬ l3 = (0 : Int32)) => ?_)
        · skip
          have g27 := i_eq h26
          refine sp_236  hV  (fun v6 m5 hV_m5 p0_m5 => zmi_n ?_)
          have p0_m5 : v6.toInt = -1 ∨ (0 ≤ v6.toInt ∧ v6.toInt < (m 94 64).toInt ∧ (m 124) v6.toNatClampNeg = 0) := p0_m5
          try have rpr := r_RG.2.2.2.1
          try have rsi := r_RG.1
          try have rrg := r_RG.2.1
          try have rml := RG_ml (r := l4) r_RG (by have := rs_94_18 hV; omega) (by have := rs_94_64 hV; omega)
          try have rml2 := RG_ml (r := l2) r_RG (by have := rs_94_18 hV; omega) (by have := rs_94_64 hV; omega)
          have b28 := i_bd l1
          have b29 := i_bd l2
          have b30 := i_bd v6
          exact OUT161 _ (l1) (l2) (l3) (v6) (show (((128 - cnt (m 124) 128 : Nat) : Int)).toNat < n161 from by omega) (zF_zov hF ws_236_235) hV_m5 (by omega) (by omega) (show -1 ≤ l2.toInt ∧ l2.toInt < (m 94 64).toInt from by omega) p0_m5 r_W r_GW r_GU r_OW r_DX r_RG (show (m 94 10).toInt = 6 from by omega) r_UQs
        · skip
          have g31 := i_ne h26
          have b32 := i_bd l4
          try have rpr := r_RG.2.2.2.1
          try have rsi := r_RG.1
          try have rrg := r_RG.2.1
          try have rml := RG_ml (r := l4) r_RG (by have := rs_94_18 hV; omega) (by have := rs_94_64 hV; omega)
          try have rml2 := RG_ml (r := l2) r_RG (by have := rs_94_18 hV; omega) (by have := rs_94_64 hV; omega)
          have hg33 : (0 ≤ l4 ∧ l4.toNatClampNeg < 128) := i_ix (by omega) (by omega)
          refine ⟨hg33, ?_⟩
          have hV34 : zV (ma_u m 116 l4.toNatClampNeg (0 : Int32)) := ua_116 hV (by omega) (by omega)
          refine sp_236  hV34  (fun v8 m7 hV_m7 p0_m7 => zmi_n ?_)
          have p0_m7 : v8.toInt = -1 ∨ (0 ≤ v8.toInt ∧ v8.toInt < (m 94 64).toInt ∧ (m 124) v8.toNatClampNeg = 0) := p0_m7
          try have rpr := r_RG.2.2.2.1
          try have rsi := r_RG.1
          try have rrg := r_RG.2.1
          try have rml := RG_ml (r := l4) r_RG (by have := rs_94_18 hV; omega) (by have := rs_94_64 hV; omega)
          try have rml2 := RG_ml (r := l2) r_RG (by have := rs_94_18 hV; omega) (by have := rs_94_64 hV; omega)
          have b35 := i_bd l1
          have b36 := i_bd l2
          have b37 := i_bd v8
          exact OUT161 _ (l1) (l2) (l3) (v8) (show (((128 - cnt (m 124) 128 : Nat) : Int)).toNat < n161 from by omega) (zF_zov (zF_u hF rfl) ws_236_235) hV_m7 (by omega) (by omega) (show -1 ≤ l2.toInt ∧ l2.toInt < (m 94 64).toInt from by omega) p0_m7 r_W r_GW r_GU r_OW r_DX (show zRG1 (m 94 18) (m 94 64) (m 94 63) (m 99) (m 103) (m 102) ((ma_u m 116 l4.toNatClampNeg (0 : Int32)) 116) from by first | (exact RG_put r_RG (by omega)) | (exfalso; omega; done) | (exfalso; contradiction; done)) (show (m 94 10).toInt = 6 from by omega) r_UQs
      · skip
        have g38 := i_ne h24
        try have rpr := r_RG.2.2.2.1
        try have rsi := r_RG.1
        try have rrg := r_RG.2.1
        try have rml := RG_ml (r := l4) r_RG (by have := rs_94_18 hV; omega) (by have := rs_94_64 hV; omega)
        try have rml2 := RG_ml (r := l2) r_RG (by have := rs_94_18 hV; omega) (by have := rs_94_64 hV; omega)
        have hg39 : (0 ≤ l5 ∧ l5.toNatClampNeg < 4600) := i_ix (by omega) (by omega)
        refine ⟨hg39, ?_⟩
        first | have f40 : -1 ≤ (m 111 l5.toNatClampNeg).toInt ∧ (m 111 l5.toNatClampNeg).toInt ≤ 3099 := ra_111 (m := m) hV (k := l5.toNatClampNeg) (i_ix (n := 4600) (by omega) (by omega)).2 | have b41 := i_bd (m 111 l5.toNatClampNeg)
        refine zd (fun (h42 : (0 : Int32) ≤ (m 111 l5.toNatClampNeg)) => ?_) (fun (h42 : ¬ (0 : Int32) ≤ (m 111 l5.toNatClampNeg)) => ?_)
        · skip
          have g43 := i_le h42
          try have ow5 := r_OW l5.toNatClampNeg (by omega) (by omega)
          try have ra5 := RG_at r_RG (s := (m 111 l5.toNatClampNeg).toNatClampNeg) (by omega) ow5.1
          have hg44 : (0 ≤ (m 111 l5.toNatClampNeg) ∧ (m 111 l5.toNatClampNeg).toNatClampNeg < 3100) := i_ix (by omega) (by omega)
          refine ⟨hg44, ?_⟩
          have b45 := i_bd l2
          refine zd (fun (h46 : l2 < (0 : Int32)) => ?_) (fun (h46 : ¬ l2 < (0 : Int32)) => ?_)
          · skip
            have g47 := i_lt h46
            refine sp_234  hV  (fun v10 m9 hV_m9 p0_m9 => zmi_n ?_)
            have p0_m9 : zLE (m 116) (m 94 64) v10 := p0_m9
            try have lel := LE_lo p0_m9
            try have lno := LE_no (pr := m 94 63) p0_m9 (by assumption) (by omega) (by omega)
            try have lrg := RG_LE r_RG p0_m9 (by have := rs_94_18 hV; omega) (by have := rs_94_64 hV; omega)
            have b48 := i_bd v10
            refine zd (fun (h49 : (0 : Int32) ≤ v10) => ?_) (fun (h49 : ¬ (0 : Int32) ≤ v10) => ?_)
            · skip
              have g50 := i_le h49
              refine zd (fun (h51 : l3 = (0 : Int32)) => ?_) (fun (h51 : ¬ l3 = (0 : Int32)) => ?_)
              · skip
                have g52 := i_eq h51
                try have rpr := r_RG.2.2.2.1
                try have rsi := r_RG.1
                try have rrg := r_RG.2.1
                try have rml := RG_ml (r := l4) r_RG (by have := rs_94_18 hV; omega) (by have := rs_94_64 hV; omega)
                try have rml2 := RG_ml (r := l2) r_RG (by have := rs_94_18 hV; omega) (by have := rs_94_64 hV; omega)
                have b53 := i_bd l1
                have b54 := i_bd l4
                first | have f55 : 0 ≤ (m 102 (m 111 l5.toNatClampNeg).toNatClampNeg).toInt ∧ (m 102 (m 111 l5.toNatClampNeg).toNatClampNeg).toInt ≤ 60 := ra_102 (m := m) hV (k := (m 111 l5.toNatClampNeg).toNatClampNeg) (i_ix (n := 3100) (by omega) (by omega)).2 | have b56 := i_bd (m 102 (m 111 l5.toNatClampNeg).toNatClampNeg)
                first | have e57 : ((m 102 (m 111 l5.toNatClampNeg).toNatClampNeg) + (1 : Int32)).toInt = (m 102 (m 111 l5.toNatClampNeg).toNatClampNeg).toInt + (1) := i_addk rfl (by omega) (by omega) | have b58 := i_bd ((m 102 (m 111 l5.toNatClampNeg).toNatClampNeg) + (1 : Int32))
                first | have e59 : (l5 + ((m 102 (m 111 l5.toNatClampNeg).toNatClampNeg) + (1 : Int32))).toInt = l5.toInt + ((m 102 (m 111 l5.toNatClampNeg).toNatClampNeg) + (1 : Int32)).toInt := i_add (by omega) (by omega) | have b60 := i_bd (l5 + ((m 102 (m 111 l5.toNatClampNeg).toNatClampNeg) + (1 : Int32)))
                exact IH (l6.toInt - (l5 + ((m 102 (m 111 l5.toNatClampNeg).toNatClampNeg) + (1 : Int32))).toInt).toNat (by omega) _ (l1) (v10) (l3) (l4) ((l5 + ((m 102 (m 111 l5.toNatClampNeg).toNatClampNeg) + (1 : Int32)))) (l6) rfl (zF_zov hF ws_234_235) hV_m9 (by omega) (by omega) (show -1 ≤ v10.toInt ∧ v10.toInt < (m 94 64).toInt from by omega) (by omega) (show l4.toInt < (m 94 64).toInt from by omega) (by omega) (by omega) (by omega) r_MD r_W r_GW r_GU r_OW r_DX r_RG (show (m 94 10).toInt = 6 from by omega) r_UQs
              · skip
                have g61 := i_ne h51
                try have rpr := r_RG.2.2.2.1
                try have rsi := r_RG.1
                try have rrg := r_RG.2.1
                try have rml := RG_ml (r := l4) r_RG (by have := rs_94_18 hV; omega) (by have := rs_94_64 hV; omega)
                try have rml2 := RG_ml (r := l2) r_RG (by have := rs_94_18 hV; omega) (by have := rs_94_64 hV; omega)
                have hg62 : (0 ≤ v10 ∧ v10.toNatClampNeg < 128) := i_ix (by omega) (by omega)
                refine ⟨hg62, ?_⟩
                have f63 : 0 ≤ (m 94 18).toInt ∧ (m 94 18).toInt ≤ 256 := rs_94_18 (m := m) hV
                first | have f64 := i_muln (x := v10) (y := (m 94 18)) (by omega) (by omega) (by omega) (by omega) | have b65 := i_bd (v10 * (m 94 18))
                first | have f66 : 0 ≤ (m 116 v10.toNatClampNeg).toInt ∧ (m 116 v10.toNatClampNeg).toInt ≤ 4600 := ra_116 (m := m) hV (k := v10.toNatClampNeg) (i_ix (n := 128) (by omega) (by omega)).2 | have b67 := i_bd (m 116 v10.toNatClampNeg)
                first | have e68 : ((v10 * (m 94 18)) + (m 116 v10.toNatClampNeg)).toInt = (v10 * (m 94 18)).toInt + (m 116 v10.toNatClampNeg).toInt := i_add (by omega) (by omega) | have b69 := i_bd ((v10 * (m 94 18)) + (m 116 v10.toNatClampNeg))
                refine sp_205 ((m 111 l5.toNatClampNeg)) (((v10 * (m 94 18)) + (m 116 v10.toNatClampNeg))) hV_m9 (by omega) (by omega) (by omega) (by omega) (show (m 99) (m 111 l5.toNatClampNeg).toNatClampNeg ≠ 0 from by first | (assumption; done) | (exact ow5.1) | (exfalso; omega; done) | (exfalso; contradiction; done)) r_OW (fun m11 hV_m11 p0_m11 p1_m11 => zmv_n ?_)
                have p0_m11 : zOw (m 99) (m11 103) (m11 111) := p0_m11
                have p1_m11 : zmov (m 111 l5.toNatClampNeg) ((v10 * (m 94 18)) + (m 116 v10.toNatClampNeg)) (m 103) (m 111) (m11 103) (m11 111) := p1_m11
                try have rpr := r_RG.2.2.2.1
                try have rsi := r_RG.1
                try have rrg := r_RG.2.1
                try have rml := RG_ml (r := l4) r_RG (by have := rs_94_18 hV; omega) (by have := rs_94_64 hV; omega)
                try have rml2 := RG_ml (r := l2) r_RG (by have := rs_94_18 hV; omega) (by have := rs_94_64 hV; omega)
                have hg70 : (0 ≤ v10 ∧ v10.toNatClampNeg < 128) := i_ix (by omega) (by omega)
                refine ⟨hg70, ?_⟩
                try have ow5 := p0_m11 l5.toNatClampNeg (by omega) (by omega)
                try have ra5 := RG_at r_RG (s := (m 111 l5.toNatClampNeg).toNatClampNeg) (by omega) ow5.1
                have hg71 : (0 ≤ (m 111 l5.toNatClampNeg) ∧ (m 111 l5.toNatClampNeg).toNatClampNeg < 3100) := i_ix (by omega) (by omega)
                refine ⟨hg71, ?_⟩
                try have rpr := r_RG.2.2.2.1
                try have rsi := r_RG.1
                try have rrg := r_RG.2.1
                try have rml := RG_ml (r := l4) r_RG (by have := rs_94_18 hV; omega) (by have := rs_94_64 hV; omega)
                try have rml2 := RG_ml (r := l2) r_RG (by have := rs_94_18 hV; omega) (by have := rs_94_64 hV; omega)
                have hg72 : (0 ≤ v10 ∧ v10.toNatClampNeg < 128) := i_ix (by omega) (by omega)
                refine ⟨hg72, ?_⟩
                try have rpr := r_RG.2.2.2.1
                try have rsi := r_RG.1
                try have rrg := r_RG.2.1
                try have rml := RG_ml (r := l4) r_RG (by have := rs_94_18 hV; omega) (by have := rs_94_64 hV; omega)
                try have rml2 := RG_ml (r := l2) r_RG (by have := rs_94_18 hV; omega) (by have := rs_94_64 hV; omega)
                first | have f74 : 0 ≤ (m 102 (m 111 l5.toNatClampNeg).toNatClampNeg).toInt ∧ (m 102 (m 111 l5.toNatClampNeg).toNatClampNeg).toInt ≤ 60 := ra_102 (m := m) hV (k := (m 111 l5.toNatClampNeg).toNatClampNeg) (i_ix (n := 3100) (by omega) (by omega)).2 | have b75 := i_bd (m 102 (m 111 l5.toNatClampNeg).toNatClampNeg)
                first | have e76 : ((m 102 (m 111 l5.toNatClampNeg).toNatClampNeg) + (1 : Int32)).toInt = (m 102 (m 111 l5.toNatClampNeg).toNatClampNeg).toInt + (1) := i_addk rfl (by omega) (by omega) | have b77 := i_bd ((m 102 (m 111 l5.toNatClampNeg).toNatClampNeg) + (1 : Int32))
                first | have e78 : ((m 116 v10.toNatClampNeg) + ((m 102 (m 111 l5.toNatClampNeg).toNatClampNeg) + (1 : Int32))).toInt = (m 116 v10.toNatClampNeg).toInt + ((m 102 (m 111 l5.toNatClampNeg).toNatClampNeg) + (1 : Int32)).toInt := i_add (by omega) (by omega) | have b79 := i_bd ((m 116 v10.toNatClampNeg) + ((m 102 (m 111 l5.toNatClampNeg).toNatClampNeg) + (1 : Int32)))
                have hV73 : zV (ma_u (zov wr_205 (zov wr_234 m m9) m11) 116 v10.toNatClampNeg ((m 116 v10.toNatClampNeg) + ((m 102 (m 111 l5.toNatClampNeg).toNatClampNeg) + (1 : Int32)))) := ua_116 hV_m11 (by omega) (by omega)
                have b80 := i_bd l1
                have b81 := i_bd l4
                first | have e82 : (l5 + ((m 102 (m 111 l5.toNatClampNeg).toNatClampNeg) + (1 : Int32))).toInt = l5.toInt + ((m 102 (m 111 l5.toNatClampNeg).toNatClampNeg) + (1 : Int32)).toInt := i_add (by omega) (by omega) | have b83 := i_bd (l5 + ((m 102 (m 111 l5.toNatClampNeg).toNatClampNeg) + (1 : Int32)))
                exact IH (l6.toInt - (l5 + ((m 102 (m 111 l5.toNatClampNeg).toNatClampNeg) + (1 : Int32))).toInt).toNat (by omega) _ (l1) (v10) (l3) (l4) ((l5 + ((m 102 (m 111 l5.toNatClampNeg).toNatClampNeg) + (1 : Int32)))) (l6) rfl (zF_u (zF_zov (zF_zov hF ws_234_235) ws_205_235) rfl) hV73 (by omega) (by omega) (show -1 ≤ v10.toInt ∧ v10.toInt < (m 94 64).toInt from by omega) (by omega) (show l4.toInt < (m 94 64).toInt from by omega) (by omega) (by omega) (by omega) r_MD r_W r_GW r_GU p0_m11 r_DX (show zRG1 (m 94 18) (m 94 64) (m 94 63) (m 99) (m11 103) (m 102) ((ma_u m 116 v10.toNatClampNeg ((m 116 v10.toNatClampNeg) + ((m 102 (m 111 l5.toNatClampNeg).toNatClampNeg) + (1 : Int32)))) 116) from by first | (exact RG_put (RG_mv2 r_RG p1_m11 (by omega)) (by omega)) | (exact RG_put r_RG (by omega)) | (exfalso; omega; done) | (exfalso; contradiction; done)) (show (m 94 10).toInt = 6 from by omega) r_UQs
            · skip
              have g84 := i_nle h49
              try have rpr := r_RG.2.2.2.1
              try have rsi := r_RG.1
              try have rrg := r_RG.2.1
              try have rml := RG_ml (r := l4) r_RG (by have := rs_94_18 hV; omega) (by have := rs_94_64 hV; omega)
              try have rml2 := RG_ml (r := l2) r_RG (by have := rs_94_18 hV; omega) (by have := rs_94_64 hV; omega)
              have b85 := i_bd l1
              have b86 := i_bd l4
              first | have f87 : 0 ≤ (m 102 (m 111 l5.toNatClampNeg).toNatClampNeg).toInt ∧ (m 102 (m 111 l5.toNatClampNeg).toNatClampNeg).toInt ≤ 60 := ra_102 (m := m) hV (k := (m 111 l5.toNatClampNeg).toNatClampNeg) (i_ix (n := 3100) (by omega) (by omega)).2 | have b88 := i_bd (m 102 (m 111 l5.toNatClampNeg).toNatClampNeg)
              first | have e89 : ((m 102 (m 111 l5.toNatClampNeg).toNatClampNeg) + (1 : Int32)).toInt = (m 102 (m 111 l5.toNatClampNeg).toNatClampNeg).toInt + (1) := i_addk rfl (by omega) (by omega) | have b90 := i_bd ((m 102 (m 111 l5.toNatClampNeg).toNatClampNeg) + (1 : Int32))
              first | have e91 : (l5 + ((m 102 (m 111 l5.toNatClampNeg).toNatClampNeg) + (1 : Int32))).toInt = l5.toInt + ((m 102 (m 111 l5.toNatClampNeg).toNatClampNeg) + (1 : Int32)).toInt := i_add (by omega) (by omega) | have b92 := i_bd (l5 + ((m 102 (m 111 l5.toNatClampNeg).toNatClampNeg) + (1 : Int32)))
              exact IH (l6.toInt - (l5 + ((m 102 (m 111 l5.toNatClampNeg).toNatClampNeg) + (1 : Int32))).toInt).toNat (by omega) _ (l1) (l2) ((0 : Int32)) (l4) ((l5 + ((m 102 (m 111 l5.toNatClampNeg).toNatClampNeg) + (1 : Int32)))) (l6) rfl (zF_zov hF ws_234_235) hV_m9 (by omega) (by omega) (show -1 ≤ l2.toInt ∧ l2.toInt < (m 94 64).toInt from by omega) (by omega) (show l4.toInt < (m 94 64).toInt from by omega) (by omega) (by omega) (by omega) r_MD r_W r_GW r_GU r_OW r_DX r_RG (show (m 94 10).toInt = 6 from by omega) r_UQs
          · skip
            have g93 := i_nlt h46
            try have rpr := r_RG.2.2.2.1
            try have rsi := r_RG.1
            try have rrg := r_RG.2.1
            try have rml := RG_ml (r := l4) r_RG (by have := rs_94_18 hV; omega) (by have := rs_94_64 hV; omega)
            try have rml2 := RG_ml (r := l2) r_RG (by have := rs_94_18 hV; omega) (by have := rs_94_64 hV; omega)
            have hg94 : (0 ≤ l2 ∧ l2.toNatClampNeg < 128) := i_ix (by omega) (by omega)
            refine ⟨hg94, ?_⟩
            try have ow5 := r_OW l5.toNatClampNeg (by omega) (by omega)
            try have ra5 := RG_at r_RG (s := (m 111 l5.toNatClampNeg).toNatClampNeg) (by omega) ow5.1
            have hg95 : (0 ≤ (m 111 l5.toNatClampNeg) ∧ (m 111 l5.toNatClampNeg).toNatClampNeg < 3100) := i_ix (by omega) (by omega)
            refine ⟨hg95, ?_⟩
            first | have f96 : 0 ≤ (m 116 l2.toNatClampNeg).toInt ∧ (m 116 l2.toNatClampNeg).toInt ≤ 4600 := ra_116 (m := m) hV (k := l2.toNatClampNeg) (i_ix (n := 128) (by omega) (by omega)).2 | have b97 := i_bd (m 116 l2.toNatClampNeg)
            first | have f98 : 0 ≤ (m 102 (m 111 l5.toNatClampNeg).toNatClampNeg).toInt ∧ (m 102 (m 111 l5.toNatClampNeg).toNatClampNeg).toInt ≤ 60 := ra_102 (m := m) hV (k := (m 111 l5.toNatClampNeg).toNatClampNeg) (i_ix (n := 3100) (by omega) (by omega)).2 | have b99 := i_bd (m 102 (m 111 l5.toNatClampNeg).toNatClampNeg)
            first | have e100 : ((m 102 (m 111 l5.toNatClampNeg).toNatClampNeg) + (1 : Int32)).toInt = (m 102 (m 111 l5.toNatClampNeg).toNatClampNeg).toInt + (1) := i_addk rfl (by omega) (by omega) | have b101 := i_bd ((m 102 (m 111 l5.toNatClampNeg).toNatClampNeg) + (1 : Int32))
            first | have e102 : ((m 116 l2.toNatClampNeg) + ((m 102 (m 111 l5.toNatClampNeg).toNatClampNeg) + (1 : Int32))).toInt = (m 116 l2.toNatClampNeg).toInt + ((m 102 (m 111 l5.toNatClampNeg).toNatClampNeg) + (1 : Int32)).toInt := i_add (by omega) (by omega) | have b103 := i_bd ((m 116 l2.toNatClampNeg) + ((m 102 (m 111 l5.toNatClampNeg).toNatClampNeg) + (1 : Int32)))
            have f104 : 0 ≤ (m 94 18).toInt ∧ (m 94 18).toInt ≤ 256 := rs_94_18 (m := m) hV
            refine zd (fun (h105 : ((m 116 l2.toNatClampNeg) + ((m 102 (m 111 l5.toNatClampNeg).toNatClampNeg) + (1 : Int32))) ≤ (m 94 18)) => ?_) (fun (h105 : ¬ ((m 116 l2.toNatClampNeg) + ((m 102 (m 111 l5.toNatClampNeg).toNatClampNeg) + (1 : Int32))) ≤ (m 94 18)) => ?_)
            · skip
              have g106 := i_le h105
              refine zd (fun (h107 : l3 = (0 : Int32)) => ?_) (fun (h107 : ¬ l3 = (0 : Int32)) => ?_)
              · skip
                have g108 := i_eq h107
                try have rpr := r_RG.2.2.2.1
                try have rsi := r_RG.1
                try have rrg := r_RG.2.1
                try have rml := RG_ml (r := l4) r_RG (by have := rs_94_18 hV; omega) (by have := rs_94_64 hV; omega)
                try have rml2 := RG_ml (r := l2) r_RG (by have := rs_94_18 hV; omega) (by have := rs_94_64 hV; omega)
                have b109 := i_bd l1
                have b110 := i_bd l4
                first | have e111 : (l5 + ((m 102 (m 111 l5.toNatClampNeg).toNatClampNeg) + (1 : Int32))).toInt = l5.toInt + ((m 102 (m 111 l5.toNatClampNeg).toNatClampNeg) + (1 : Int32)).toInt := i_add (by omega) (by omega) | have b112 := i_bd (l5 + ((m 102 (m 111 l5.toNatClampNeg).toNatClampNeg) + (1 : Int32)))
                exact IH (l6.toInt - (l5 + ((m 102 (m 111 l5.toNatClampNeg).toNatClampNeg) + (1 : Int32))).toInt).toNat (by omega) _ (l1) (l2) (l3) (l4) ((l5 + ((m 102 (m 111 l5.toNatClampNeg).toNatClampNeg) + (1 : Int32)))) (l6) rfl hF hV (by omega) (by omega) (show -1 ≤ l2.toInt ∧ l2.toInt < (m 94 64).toInt from by omega) (by omega) (show l4.toInt < (m 94 64).toInt from by omega) (by omega) (by omega) (by omega) r_MD r_W r_GW r_GU r_OW r_DX r_RG (show (m 94 10).toInt = 6 from by omega) r_UQs
              · skip
                have g113 := i_ne h107
                try have rpr := r_RG.2.2.2.1
                try have rsi := r_RG.1
                try have rrg := r_RG.2.1
                try have rml := RG_ml (r := l4) r_RG (by have := rs_94_18 hV; omega) (by have := rs_94_64 hV; omega)
                try have rml2 := RG_ml (r := l2) r_RG (by have := rs_94_18 hV; omega) (by have := rs_94_64 hV; omega)
                have hg114 : (0 ≤ l2 ∧ l2.toNatClampNeg < 128) := i_ix (by omega) (by omega)
                refine ⟨hg114, ?_⟩
                first | have f115 := i_muln (x := l2) (y := (m 94 18)) (by omega) (by omega) (by omega) (by omega) | have b116 := i_bd (l2 * (m 94 18))
                first | have e117 : ((l2 * (m 94 18)) + (m 116 l2.toNatClampNeg)).toInt = (l2 * (m 94 18)).toInt + (m 116 l2.toNatClampNeg).toInt := i_add (by omega) (by omega) | have b118 := i_bd ((l2 * (m 94 18)) + (m 116 l2.toNatClampNeg))
                refine sp_205 ((m 111 l5.toNatClampNeg)) (((l2 * (m 94 18)) + (m 116 l2.toNatClampNeg))) hV (by omega) (by omega) (by omega) (by omega) (show (m 99) (m 111 l5.toNatClampNeg).toNatClampNeg ≠ 0 from by first | (assumption; done) | (exact ow5.1) | (exfalso; omega; done) | (exfalso; contradiction; done)) r_OW (fun m13 hV_m13 p0_m13 p1_m13 => zmv_n ?_)
                have p0_m13 : zOw (m 99) (m13 103) (m13 111) := p0_m13
                have p1_m13 : zmov (m 111 l5.toNatClampNeg) ((l2 * (m 94 18)) + (m 116 l2.toNatClampNeg)) (m 103) (m 111) (m13 103) (m13 111) := p1_m13
                try have rpr := r_RG.2.2.2.1
                try have rsi := r_RG.1
                try have rrg := r_RG.2.1
                try have rml := RG_ml (r := l4) r_RG (by have := rs_94_18 hV; omega) (by have := rs_94_64 hV; omega)
                try have rml2 := RG_ml (r := l2) r_RG (by have := rs_94_18 hV; omega) (by have := rs_94_64 hV; omega)
                have hg119 : (0 ≤ l2 ∧ l2.toNatClampNeg < 128) := i_ix (by omega) (by omega)
                refine ⟨hg119, ?_⟩
                try have ow5 := p0_m13 l5.toNatClampNeg (by omega) (by omega)
                try have ra5 := RG_at r_RG (s := (m 111 l5.toNatClampNeg).toNatClampNeg) (by omega) ow5.1
                have hg120 : (0 ≤ (m 111 l5.toNatClampNeg) ∧ (m 111 l5.toNatClampNeg).toNatClampNeg < 3100) := i_ix (by omega) (by omega)
                refine ⟨hg120, ?_⟩
                try have rpr := r_RG.2.2.2.1
                try have rsi := r_RG.1
                try have rrg := r_RG.2.1
                try have rml := RG_ml (r := l4) r_RG (by have := rs_94_18 hV; omega) (by have := rs_94_64 hV; omega)
                try have rml2 := RG_ml (r := l2) r_RG (by have := rs_94_18 hV; omega) (by have := rs_94_64 hV; omega)
                have hg121 : (0 ≤ l2 ∧ l2.toNatClampNeg < 128) := i_ix (by omega) (by omega)
                refine ⟨hg121, ?_⟩
                try have rpr := r_RG.2.2.2.1
                try have rsi := r_RG.1
                try have rrg := r_RG.2.1
                try have rml := RG_ml (r := l4) r_RG (by have := rs_94_18 hV; omega) (by have := rs_94_64 hV; omega)
                try have rml2 := RG_ml (r := l2) r_RG (by have := rs_94_18 hV; omega) (by have := rs_94_64 hV; omega)
                have hV122 : zV (ma_u (zov wr_205 m m13) 116 l2.toNatClampNeg ((m 116 l2.toNatClampNeg) + ((m 102 (m 111 l5.toNatClampNeg).toNatClampNeg) + (1 : Int32)))) := ua_116 hV_m13 (by omega) (by omega)
                have b123 := i_bd l1
                have b124 := i_bd l4
                first | have e125 : (l5 + ((m 102 (m 111 l5.toNatClampNeg).toNatClampNeg) + (1 : Int32))).toInt = l5.toInt + ((m 102 (m 111 l5.toNatClampNeg).toNatClampNeg) + (1 : Int32)).toInt := i_add (by omega) (by omega) | have b126 := i_bd (l5 + ((m 102 (m 111 l5.toNatClampNeg).toNatClampNeg) + (1 : Int32)))
                exact IH (l6.toInt - (l5 + ((m 102 (m 111 l5.toNatClampNeg).toNatClampNeg) + (1 : Int32))).toInt).toNat (by omega) _ (l1) (l2) (l3) (l4) ((l5 + ((m 102 (m 111 l5.toNatClampNeg).toNatClampNeg) + (1 : Int32)))) (l6) rfl (zF_u (zF_zov hF ws_205_235) rfl) hV122 (by omega) (by omega) (show -1 ≤ l2.toInt ∧ l2.toInt < (m 94 64).toInt from by omega) (by omega) (show l4.toInt < (m 94 64).toInt from by omega) (by omega) (by omega) (by omega) r_MD r_W r_GW r_GU p0_m13 r_DX (show zRG1 (m 94 18) (m 94 64) (m 94 63) (m 99) (m13 103) (m 102) ((ma_u m 116 l2.toNatClampNeg ((m 116 l2.toNatClampNeg) + ((m 102 (m 111 l5.toNatClampNeg).toNatClampNeg) + (1 : Int32)))) 116) from by first | (exact RG_put (RG_mv2 r_RG p1_m13 (by omega)) (by omega)) | (exact RG_put r_RG (by omega)) | (exfalso; omega; done) | (exfalso; contradiction; done)) (show (m 94 10).toInt = 6 from by omega) r_UQs
            · skip
              have g127 := i_nle h105
              refine sp_234  hV  (fun v16 m15 hV_m15 p0_m15 => zmi_n ?_)
              have p0_m15 : zLE (m 116) (m 94 64) v16 := p0_m15
              try have lel := LE_lo p0_m15
              try have lno := LE_no (pr := m 94 63) p0_m15 (by assumption) (by omega) (by omega)
              try have lrg := RG_LE r_RG p0_m15 (by have := rs_94_18 hV; omega) (by have := rs_94_64 hV; omega)
              have b128 := i_bd v16
              refine zd (fun (h129 : (0 : Int32) ≤ v16) => ?_) (fun (h129 : ¬ (0 : Int32) ≤ v16) => ?_)
              · skip
                have g130 := i_le h129
                refine zd (fun (h131 : l3 = (0 : Int32)) => ?_) (fun (h131 : ¬ l3 = (0 : Int32)) => ?_)
                · skip
                  have g132 := i_eq h131
                  try have rpr := r_RG.2.2.2.1
                  try have rsi := r_RG.1
                  try have rrg := r_RG.2.1
                  try have rml := RG_ml (r := l4) r_RG (by have := rs_94_18 hV; omega) (by have := rs_94_64 hV; omega)
                  try have rml2 := RG_ml (r := l2) r_RG (by have := rs_94_18 hV; omega) (by have := rs_94_64 hV; omega)
                  have b133 := i_bd l1
                  have b134 := i_bd l4
                  first | have e135 : (l5 + ((m 102 (m 111 l5.toNatClampNeg).toNatClampNeg) + (1 : Int32))).toInt = l5.toInt + ((m 102 (m 111 l5.toNatClampNeg).toNatClampNeg) + (1 : Int32)).toInt := i_add (by omega) (by omega) | have b136 := i_bd (l5 + ((m 102 (m 111 l5.toNatClampNeg).toNatClampNeg) + (1 : Int32)))
                  exact IH (l6.toInt - (l5 + ((m 102 (m 111 l5.toNatClampNeg).toNatClampNeg) + (1 : Int32))).toInt).toNat (by omega) _ (l1) (v16) (l3) (l4) ((l5 + ((m 102 (m 111 l5.toNatClampNeg).toNatClampNeg) + (1 : Int32)))) (l6) rfl (zF_zov hF ws_234_235) hV_m15 (by omega) (by omega) (show -1 ≤ v16.toInt ∧ v16.toInt < (m 94 64).toInt from by omega) (by omega) (show l4.toInt < (m 94 64).toInt from by omega) (by omega) (by omega) (by omega) r_MD r_W r_GW r_GU r_OW r_DX r_RG (show (m 94 10).toInt = 6 from by omega) r_UQs
                · skip
                  have g137 := i_ne h131
                  try have rpr := r_RG.2.2.2.1
                  try have rsi := r_RG.1
                  try have rrg := r_RG.2.1
                  try have rml := RG_ml (r := l4) r_RG (by have := rs_94_18 hV; omega) (by have := rs_94_64 hV; omega)
                  try have rml2 := RG_ml (r := l2) r_RG (by have := rs_94_18 hV; omega) (by have := rs_94_64 hV; omega)
                  have hg138 : (0 ≤ v16 ∧ v16.toNatClampNeg < 128) := i_ix (by omega) (by omega)
                  refine ⟨hg138, ?_⟩
                  first | have f139 := i_muln (x := v16) (y := (m 94 18)) (by omega) (by omega) (by omega) (by omega) | have b140 := i_bd (v16 * (m 94 18))
                  first | have f141 : 0 ≤ (m 116 v16.toNatClampNeg).toInt ∧ (m 116 v16.toNatClampNeg).toInt ≤ 4600 := ra_116 (m := m) hV (k := v16.toNatClampNeg) (i_ix (n := 128) (by omega) (by omega)).2 | have b142 := i_bd (m 116 v16.toNatClampNeg)
                  first | have e143 : ((v16 * (m 94 18)) + (m 116 v16.toNatClampNeg)).toInt = (v16 * (m 94 18)).toInt + (m 116 v16.toNatClampNeg).toInt := i_add (by omega) (by omega) | have b144 := i_bd ((v16 * (m 94 18)) + (m 116 v16.toNatClampNeg))
                  refine sp_205 ((m 111 l5.toNatClampNeg)) (((v16 * (m 94 18)) + (m 116 v16.toNatClampNeg))) hV_m15 (by omega) (by omega) (by omega) (by omega) (show (m 99) (m 111 l5.toNatClampNeg).toNatClampNeg ≠ 0 from by first | (assumption; done) | (exact ow5.1) | (exfalso; omega; done) | (exfalso; contradiction; done)) r_OW (fun m17 hV_m17 p0_m17 p1_m17 => zmv_n ?_)
                  have p0_m17 : zOw (m 99) (m17 103) (m17 111) := p0_m17
                  have p1_m17 : zmov (m 111 l5.toNatClampNeg) ((v16 * (m 94 18)) + (m 116 v16.toNatClampNeg)) (m 103) (m 111) (m17 103) (m17 111) := p1_m17
                  try have rpr := r_RG.2.2.2.1
                  try have rsi := r_RG.1
                  try have rrg := r_RG.2.1
                  try have rml := RG_ml (r := l4) r_RG (by have := rs_94_18 hV; omega) (by have := rs_94_64 hV; omega)
                  try have rml2 := RG_ml (r := l2) r_RG (by have := rs_94_18 hV; omega) (by have := rs_94_64 hV; omega)
                  have hg145 : (0 ≤ v16 ∧ v16.toNatClampNeg < 128) := i_ix (by omega) (by omega)
                  refine ⟨hg145, ?_⟩
                  try have ow5 := p0_m17 l5.toNatClampNeg (by omega) (by omega)
                  try have ra5 := RG_at r_RG (s := (m 111 l5.toNatClampNeg).toNatClampNeg) (by omega) ow5.1
                  have hg146 : (0 ≤ (m 111 l5.toNatClampNeg) ∧ (m 111 l5.toNatClampNeg).toNatClampNeg < 3100) := i_ix (by omega) (by omega)
                  refine ⟨hg146, ?_⟩
                  try have rpr := r_RG.2.2.2.1
                  try have rsi := r_RG.1
                  try have rrg := r_RG.2.1
                  try have rml := RG_ml (r := l4) r_RG (by have := rs_94_18 hV; omega) (by have := rs_94_64 hV; omega)
                  try have rml2 := RG_ml (r := l2) r_RG (by have := rs_94_18 hV; omega) (by have := rs_94_64 hV; omega)
                  have hg147 : (0 ≤ v16 ∧ v16.toNatClampNeg < 128) := i_ix (by omega) (by omega)
                  refine ⟨hg147, ?_⟩
                  try have rpr := r_RG.2.2.2.1
                  try have rsi := r_RG.1
                  try have rrg := r_RG.2.1
                  try have rml := RG_ml (r := l4) r_RG (by have := rs_94_18 hV; omega) (by have := rs_94_64 hV; omega)
                  try have rml2 := RG_ml (r := l2) r_RG (by have := rs_94_18 hV; omega) (by have := rs_94_64 hV; omega)
                  first | have e149 : ((m 116 v16.toNatClampNeg) + ((m 102 (m 111 l5.toNatClampNeg).toNatClampNeg) + (1 : Int32))).toInt = (m 116 v16.toNatClampNeg).toInt + ((m 102 (m 111 l5.toNatClampNeg).toNatClampNeg) + (1 : Int32)).toInt := i_add (by omega) (by omega) | have b150 := i_bd ((m 116 v16.toNatClampNeg) + ((m 102 (m 111 l5.toNatClampNeg).toNatClampNeg) + (1 : Int32)))
                  have hV148 : zV (ma_u (zov wr_205 (zov wr_234 m m15) m17) 116 v16.toNatClampNeg ((m 116 v16.toNatClampNeg) + ((m 102 (m 111 l5.toNatClampNeg).toNatClampNeg) + (1 : Int32)))) := ua_116 hV_m17 (by omega) (by omega)
                  have b151 := i_bd l1
                  have b152 := i_bd l4
                  first | have e153 : (l5 + ((m 102 (m 111 l5.toNatClampNeg).toNatClampNeg) + (1 : Int32))).toInt = l5.toInt + ((m 102 (m 111 l5.toNatClampNeg).toNatClampNeg) + (1 : Int32)).toInt := i_add (by omega) (by omega) | have b154 := i_bd (l5 + ((m 102 (m 111 l5.toNatClampNeg).toNatClampNeg) + (1 : Int32)))
                  exact IH (l6.toInt - (l5 + ((m 102 (m 111 l5.toNatClampNeg).toNatClampNeg) + (1 : Int32))).toInt).toNat (by omega) _ (l1) (v16) (l3) (l4) ((l5 + ((m 102 (m 111 l5.toNatClampNeg).toNatClampNeg) + (1 : Int32)))) (l6) rfl (zF_u (zF_zov (zF_zov hF ws_234_235) ws_205_235) rfl) hV148 (by omega) (by omega) (show -1 ≤ v16.toInt ∧ v16.toInt < (m 94 64).toInt from by omega) (by omega) (show l4.toInt < (m 94 64).toInt from by omega) (by omega) (by omega) (by omega) r_MD r_W r_GW r_GU p0_m17 r_DX (show zRG1 (m 94 18) (m 94 64) (m 94 63) (m 99) (m17 103) (m 102) ((ma_u m 116 v16.toNatClampNeg ((m 116 v16.toNatClampNeg) + ((m 102 (m 111 l5.toNatClampNeg).toNatClampNeg) + (1 : Int32)))) 116) from by first | (exact RG_put (RG_mv2 r_RG p1_m17 (by omega)) (by omega)) | (exact RG_put r_RG (by omega)) | (exfalso; omega; done) | (exfalso; contradiction; done)) (show (m 94 10).toInt = 6 from by omega) r_UQs
              · skip
                have g155 := i_nle h129
                try have rpr := r_RG.2.2.2.1
                try have rsi := r_RG.1
                try have rrg := r_RG.2.1
                try have rml := RG_ml (r := l4) r_RG (by have := rs_94_18 hV; omega) (by have := rs_94_64 hV; omega)
                try have rml2 := RG_ml (r := l2) r_RG (by have := rs_94_18 hV; omega) (by have := rs_94_64 hV; omega)
                have b156 := i_bd l1
                have b157 := i_bd l4
                first | have e158 : (l5 + ((m 102 (m 111 l5.toNatClampNeg).toNatClampNeg) + (1 : Int32))).toInt = l5.toInt + ((m 102 (m 111 l5.toNatClampNeg).toNatClampNeg) + (1 : Int32)).toInt := i_add (by omega) (by omega) | have b159 := i_bd (l5 + ((m 102 (m 111 l5.toNatClampNeg).toNatClampNeg) + (1 : Int32)))
                exact IH (l6.toInt - (l5 + ((m 102 (m 111 l5.toNatClampNeg).toNatClampNeg) + (1 : Int32))).toInt).toNat (by omega) _ (l1) (l2) ((0 : Int32)) (l4) ((l5 + ((m 102 (m 111 l5.toNatClampNeg).toNatClampNeg) + (1 : Int32)))) (l6) rfl (zF_zov hF ws_234_235) hV_m15 (by omega) (by omega) (show -1 ≤ l2.toInt ∧ l2.toInt < (m 94 64).toInt from by omega) (by omega) (show l4.toInt < (m 94 64).toInt from by omega) (by omega) (by omega) (by omega) r_MD r_W r_GW r_GU r_OW r_DX r_RG (show (m 94 10).toInt = 6 from by omega) r_UQs
        · skip
          have g160 := i_nle h42
          try have rpr := r_RG.2.2.2.1
          try have rsi := r_RG.1
          try have rrg := r_RG.2.1
          try have rml := RG_ml (r := l4) r_RG (by have := rs_94_18 hV; omega) (by have := rs_94_64 hV; omega)
          try have rml2 := RG_ml (r := l2) r_RG (by have := rs_94_18 hV; omega) (by have := rs_94_64 hV; omega)
          have b161 := i_bd l1
          have b162 := i_bd l2
          have b163 := i_bd l4
          first | have e164 : (l5 + (1 : Int32)).toInt = l5.toInt + (1) := i_addk rfl (by omega) (by omega) | have b165 := i_bd (l5 + (1 : Int32))
          exact IH (l6.toInt - (l5 + (1 : Int32)).toInt).toNat (by omega) _ (l1) (l2) (l3) (l4) ((l5 + (1 : Int32))) (l6) rfl hF hV (by omega) (by omega) (show -1 ≤ l2.toInt ∧ l2.toInt < (m 94 64).toInt from by omega) (by omega) (show l4.toInt < (m 94 64).toInt from by omega) (by omega) (by omega) (by omega) r_MD r_W r_GW r_GU r_OW r_DX r_RG (show (m 94 10).toInt = 6 from by omega) r_UQs
theorem lp_235uw_161 {X : Nat × (Nat → Int32)} {P : Option ma_V → (Nat → Nat → Int32) → Prop} {T : Nat} {m0 : Nat → Nat → Int32} (h0 : zV m0) (K : ∀ v m₉, zF wr_235 m0 m₉ → zV m₉ → (zGW T (m₉ 94 55) (m₉ 109)) → (zGU T (m₉ 94 46) (m₉ 99)) → (zOw (m₉ 99) (m₉ 103) (m₉ 111)) → (zDX (m₉ 94 10) (m₉ 99) (m₉ 112) (m₉ 113) (m₉ 114) (m₉ 94 55) (m₉ 98) (m₉ 101) (m₉ 102) (m₉ 108)) → (zRG1 (m₉ 94 18) (m₉ 94 64) (m₉ 94 63) (m₉ 99) (m₉ 103) (m₉ 102) (m₉ 116)) → (zUs (m0 99) (m₉ 99)) → P (some (.inl v)) m₉) : ∀ (n : Nat) (m : Nat → Nat → Int32) (l1 : Int32) (l2 : Int32) (l3 : Int32) (l4 : Int32), (((128 - cnt (m 124) 128 : Nat) : Int)).toNat = n → zF wr_235 m0 m → zV m → (0 ≤ l3.toInt) → (l3.toInt ≤ 1) → (-1 ≤ l2.toInt ∧ l2.toInt < (m 94 64).toInt) → (l4.toInt = -1 ∨ (0 ≤ l4.toInt ∧ l4.toInt < (m 94 64).toInt ∧ (m 124) l4.toNatClampNeg = 0)) → (zW (m 94 7) (m 98) (m 101) (m 102) (m 108)) → (zGW T (m 94 55) (m 109)) → (zGU T (m 94 46) (m 99)) → (zOw (m 99) (m 103) (m 111)) → (zDX (m 94 10) (m 99) (m 112) (m 113) (m 114) (m 94 55) (m 98) (m 101) (m 102) (m 108)) → (zRG1 (m 94 18) (m 94 64) (m 94 63) (m 99) (m 103) (m 102) (m 116)) → ((m 94 10).toInt = 6) → (zUs (m0 99) (m 99)) → zm X 5 108 235 161 [(0, .inr (.inr (some 94))), (1, .inl l1), (2, .inl l2), (3, .inl l3), (4, .inl l4)] m P := by
  intro n
  induction n using Nat.strongRecOn with
  | _ n IH =>
    intro m l1 l2 l3 l4 hmu hF hV hi0 hi1 hi2 r_SP r_W r_GW r_GU r_OW r_DX r_RG hi10 r_UQs
    refine g_235_161 l1 l2 l3 l4 ?_
    have f1 : 0 ≤ (m 94 64).toInt ∧ (m 94 64).toInt ≤ 93 := rs_94_64 (m := m) hV
    have f2 : 0 ≤ (m 94 10).toInt ∧ (m 94 10).toInt ≤ 6 := rs_94_10 (m := m) hV
    have b3 := i_bd l4
    have li4 : (0 : Int32).toInt = 0 := rfl
    refine zd (fun (h5 : l4 < (0 : Int32)) => ?_) (fun (h5 : ¬ l4 < (0 : Int32)) => ?_)
    · skip
      have g6 := i_lt h5
      have b7 := i_bd l2
      refine zd (fun (h8 : l2 < (0 : Int32)) => ?_) (fun (h8 : ¬ l2 < (0 : Int32)) => ?_)
      · skip
        have g9 := i_lt h8
        have f10 : 0 ≤ (m 94 63).toInt ∧ (m 94 63).toInt ≤ 127 := rs_94_63 (m := m) hV
        try have rpr := r_RG.2.2.2.1
        try have rsi := r_RG.1
        try have rrg := r_RG.2.1
        try have rml := RG_ml (r := l4) r_RG (by have := rs_94_18 hV; omega) (by have := rs_94_64 hV; omega)
        try have rml2 := RG_ml (r := l2) r_RG (by have := rs_94_18 hV; omega) (by have := rs_94_64 hV; omega)
        have hg11 : (0 ≤ (m 94 63) ∧ (m 94 63).toNatClampNeg < 128) := i_ix (by omega) (by omega)
        refine ⟨hg11, ?_⟩
        first | have f12 : 0 ≤ (m 116 (m 94 63).toNatClampNeg).toInt ∧ (m 116 (m 94 63).toNatClampNeg).toInt ≤ 4600 := ra_116 (m := m) hV (k := (m 94 63).toNatClampNeg) (i_ix (n := 128) (by omega) (by omega)).2 | have b13 := i_bd (m 116 (m 94 63).toNatClampNeg)
        refine zd (fun (h14 : (m 116 (m 94 63).toNatClampNeg) = (0 : Int32)) => ?_) (fun (h14 : ¬ (m 116 (m 94 63).toNatClampNeg) = (0 : Int32)) => ?_)
        · skip
          have g15 := i_eq h14
          refine sp_234  hV  (fun v2 m1 hV_m1 p0_m1 => zmi_n ?_)
          have p0_m1 : zLE (m 116) (m 94 64) v2 := p0_m1
          try have lel := LE_lo p0_m1
          try have lno := LE_no (pr := m 94 63) p0_m1 (by assumption) (by omega) (by omega)
          try have lrg := RG_LE r_RG p0_m1 (by have := rs_94_18 hV; omega) (by have := rs_94_64 hV; omega)
          try have rpr := r_RG.2.2.2.1
          try have rsi := r_RG.1
          try have rrg := r_RG.2.1
          try have rml := RG_ml (r := l4) r_RG (by have := rs_94_18 hV; omega) (by have := rs_94_64 hV; omega)
          try have rml2 := RG_ml (r := l2) r_RG (by have := rs_94_18 hV; omega) (by have := rs_94_64 hV; omega)
          have b17 := i_bd v2
          have hV16 : zV (ma_u (zov wr_234 m m1) 94 63 v2) := us_94_63 hV_m1 (by omega) (by omega)
          have b18 := i_bd l1
          exact K (l1) _ (zF_u (zF_zov hF ws_234_235) rfl) hV16 r_GW r_GU r_OW r_DX (show zRG1 (m 94 18) (m 94 64) v2 (m 99) (m 103) (m 102) (m 116) from by first | (exact RG_pr r_RG (by omega) (by omega)) | (exact RG_pr r_RG (LE_no p0_m1 (by assumption) (by omega) (by omega)).1 (LE_no p0_m1 (by assumption) (by omega) (by omega)).2) | (exfalso; omega; done) | (exfalso; contradiction; done)) r_UQs
        · skip
          have g19 := i_ne h14
          try have rpr := r_RG.2.2.2.1
          try have rsi := r_RG.1
          try have rrg := r_RG.2.1
          try have rml := RG_ml (r := l4) r_RG (by have := rs_94_18 hV; omega) (by have := rs_94_64 hV; omega)
          try have rml2 := RG_ml (r := l2) r_RG (by have := rs_94_18 hV; omega) (by have := rs_94_64 hV; omega)
          have b20 := i_bd l1
          exact K (l1) _ hF hV r_GW r_GU r_OW r_DX r_RG r_UQs
      · skip
        have g21 := i_nlt h8
        try have rpr := r_RG.2.2.2.1
        try have rsi := r_RG.1
        try have rrg := r_RG.2.1
        try have rml := RG_ml (r := l4) r_RG (by have := rs_94_18 hV; omega) (by have := rs_94_64 hV; omega)
        try have rml2 := RG_ml (r := l2) r_RG (by have := rs_94_18 hV; omega) (by have := rs_94_64 hV; omega)
        have hV22 : zV (ma_u m 94 63 l2) := us_94_63 hV (by omega) (by omega)
        have b23 := i_bd l1
        exact K (l1) _ (zF_u hF rfl) hV22 r_GW r_GU r_OW r_DX (show zRG1 (m 94 18) (m 94 64) l2 (m 99) (m 103) (m 102) (m 116) from by first | (exact RG_pr r_RG (by omega) (by omega)) | (exfalso; omega; done) | (exfalso; contradiction; done)) r_UQs
    · skip
      have g24 := i_nlt h5
      have b25 := i_bd l3
      refine zd (fun (h26 : l3 = (0 : Int32)) => ?_) (fun (h26 : ¬ l3 = (0 : Int32)) => ?_)
      · skip
        have g27 := i_eq h26
        have b28 := i_bd l2
        refine zd (fun (h29 : l2 < (0 : Int32)) => ?_) (fun (h29 : ¬ l2 < (0 : Int32)) => ?_)
        · skip
          have g30 := i_lt h29
          have f31 : 0 ≤ (m 94 63).toInt ∧ (m 94 63).toInt ≤ 127 := rs_94_63 (m := m) hV
          try have rpr := r_RG.2.2.2.1
          try have rsi := r_RG.1
          try have rrg := r_RG.2.1
          try have rml := RG_ml (r := l4) r_RG (by have := rs_94_18 hV; omega) (by have := rs_94_64 hV; omega)
          try have rml2 := RG_ml (r := l2) r_RG (by have := rs_94_18 hV; omega) (by have := rs_94_64 hV; omega)
          have hg32 : (0 ≤ (m 94 63) ∧ (m 94 63).toNatClampNeg < 128) := i_ix (by omega) (by omega)
          refine ⟨hg32, ?_⟩
          first | have f33 : 0 ≤ (m 116 (m 94 63).toNatClampNeg).toInt ∧ (m 116 (m 94 63).toNatClampNeg).toInt ≤ 4600 := ra_116 (m := m) hV (k := (m 94 63).toNatClampNeg) (i_ix (n := 128) (by omega) (by omega)).2 | have b34 := i_bd (m 116 (m 94 63).toNatClampNeg)
          refine zd (fun (h35 : (m 116 (m 94 63).toNatClampNeg) = (0 : Int32)) => ?_) (fun (h35 : ¬ (m 116 (m 94 63).toNatClampNeg) = (0 : Int32)) => ?_)
          · skip
            have g36 := i_eq h35
            refine sp_234  hV  (fun v4 m3 hV_m3 p0_m3 => zmi_n ?_)
            have p0_m3 : zLE (m 116) (m 94 64) v4 := p0_m3
            try have lel := LE_lo p0_m3
            try have lno := LE_no (pr := m 94 63) p0_m3 (by assumption) (by omega) (by omega)
            try have lrg := RG_LE r_RG p0_m3 (by have := rs_94_18 hV; omega) (by have := rs_94_64 hV; omega)
            try have rpr := r_RG.2.2.2.1
            try have rsi := r_RG.1
            try have rrg := r_RG.2.1
            try have rml := RG_ml (r := l4) r_RG (by have := rs_94_18 hV; omega) (by have := rs_94_64 hV; omega)
            try have rml2 := RG_ml (r := l2) r_RG (by have := rs_94_18 hV; omega) (by have := rs_94_64 hV; omega)
            have b38 := i_bd v4
            have hV37 : zV (ma_u (zov wr_234 m m3) 94 63 v4) := us_94_63 hV_m3 (by omega) (by omega)
            have b39 := i_bd l1
            exact K (l1) _ (zF_u (zF_zov hF ws_234_235) rfl) hV37 r_GW r_GU r_OW r_DX (show zRG1 (m 94 18) (m 94 64) v4 (m 99) (m 103) (m 102) (m 116) from by first | (exact RG_pr r_RG (by omega) (by omega)) | (exact RG_pr r_RG (LE_no p0_m3 (by assumption) (by omega) (by omega)).1 (LE_no p0_m3 (by assumption) (by omega) (by omega)).2) | (exfalso; omega; done) | (exfalso; contradiction; done)) r_UQs
          · skip
            have g40 := i_ne h35
            try have rpr := r_RG.2.2.2.1
            try have rsi := r_RG.1
            try have rrg := r_RG.2.1
            try have rml := RG_ml (r := l4) r_RG (by have := rs_94_18 hV; omega) (by have := rs_94_64 hV; omega)
            try have rml2 := RG_ml (r := l2) r_RG (by have := rs_94_18 hV; omega) (by have := rs_94_64 hV; omega)
            have b41 := i_bd l1
            exact K (l1) _ hF hV r_GW r_GU r_OW r_DX r_RG r_UQs
        · skip
          have g42 := i_nlt h29
          try have rpr := r_RG.2.2.2.1
          try have rsi := r_RG.1
          try have rrg := r_RG.2.1
          try have rml := RG_ml (r := l4) r_RG (by have := rs_94_18 hV; omega) (by have := rs_94_64 hV; omega)
          try have rml2 := RG_ml (r := l2) r_RG (by have := rs_94_18 hV; omega) (by have := rs_94_64 hV; omega)
          have hV43 : zV (ma_u m 94 63 l2) := us_94_63 hV (by omega) (by omega)
          have b44 := i_bd l1
          exact K (l1) _ (zF_u hF rfl) hV43 r_GW r_GU r_OW r_DX (show zRG1 (m 94 18) (m 94 64) l2 (m 99) (m 103) (m 102) (m 116) from by first | (exact RG_pr r_RG (by omega) (by omega)) | (exfalso; omega; done) | (exfalso; contradiction; done)) r_UQs
      · skip
        have g45 := i_ne h26
        try have rpr := r_RG.2.2.2.1
        try have rsi := r_RG.1
        try have rrg := r_RG.2.1
        try have rml := RG_ml (r := l4) r_RG (by have := rs_94_18 hV; omega) (by have := rs_94_64 hV; omega)
        try have rml2 := RG_ml (r := l2) r_RG (by have := rs_94_18 hV; omega) (by have := rs_94_64 hV; omega)
        try have sp4 := r_SP
        have hg46 : (0 ≤ l4 ∧ l4.toNatClampNeg < 128) := i_ix (by omega) (by omega)
        refine ⟨hg46, ?_⟩
        try have rpr := r_RG.2.2.2.1
        try have rsi := r_RG.1
        try have rrg := r_RG.2.1
        try have rml := RG_ml (r := l4) r_RG (by have := rs_94_18 hV; omega) (by have := rs_94_64 hV; omega)
        try have rml2 := RG_ml (r := l2) r_RG (by have := rs_94_18 hV; omega) (by have := rs_94_64 hV; omega)
        have hg47 : (0 ≤ l4 ∧ l4.toNatClampNeg < 128) := i_ix (by omega) (by omega)
        refine ⟨hg47, ?_⟩
        try have rpr := r_RG.2.2.2.1
        try have rsi := r_RG.1
        try have rrg := r_RG.2.1
        try have rml := RG_ml (r := l4) r_RG (by have := rs_94_18 hV; omega) (by have := rs_94_64 hV; omega)
        try have rml2 := RG_ml (r := l2) r_RG (by have := rs_94_18 hV; omega) (by have := rs_94_64 hV; omega)
        have li49 : (1 : Int32).toInt = 1 := rfl
        have hV48 : zV (ma_u m 124 l4.toNatClampNeg (1 : Int32)) := ua_124 hV (by omega) (by omega)
        have b50 := i_bd l1
        have b51 := i_bd l2
        have f52 : 0 ≤ (m 94 18).toInt ∧ (m 94 18).toInt ≤ 256 := rs_94_18 (m := m) hV
        first | have f53 := i_muln (x := l4) (y := (m 94 18)) (by omega) (by omega) (by omega) (by omega) | have b54 := i_bd (l4 * (m 94 18))
        first | have f55 : 0 ≤ (m 116 l4.toNatClampNeg).toInt ∧ (m 116 l4.toNatClampNeg).toInt ≤ 4600 := ra_116 (m := m) hV (k := l4.toNatClampNeg) (i_ix (n := 128) (by omega) (by omega)).2 | have b56 := i_bd (m 116 l4.toNatClampNeg)
        first | have e57 : ((l4 * (m 94 18)) + (m 116 l4.toNatClampNeg)).toInt = (l4 * (m 94 18)).toInt + (m 116 l4.toNatClampNeg).toInt := i_add (by omega) (by omega) | have b58 := i_bd ((l4 * (m 94 18)) + (m 116 l4.toNatClampNeg))
        exact lp_235uw_199 h0 K (fun _ _ _ _ _ z1 z2 z3 y0 y1 y2 y3 y4 y5 y6 y7 y8 y9 y10 y11 => IH _ z1 _ _ _ _ _ rfl z2 z3 y0 y1 y2 y3 y4 y5 y6 y7 y8 y9 y10 y11) _ _ (l1) (l2) (l3) (l4) ((l4 * (m 94 18))) (((l4 * (m 94 18)) + (m 116 l4.toNatClampNeg))) rfl (zF_u hF rfl) hV48 (by omega) (by omega) (show -1 ≤ l2.toInt ∧ l2.toInt < (m 94 64).toInt from by omega) (by omega) (show l4.toInt < (m 94 64).toInt from by omega) (by omega) (by omega) (by omega) (show 128 - cnt ((ma_u m 124 l4.toNatClampNeg (1 : Int32)) 124) 128 < n from by first | (have zq := dn_lt (m := m) (c := 124) (k := l4.toNatClampNeg) (n := 128) (x := (1 : Int32)) (by omega) (by rcases r_SP with z | z; omega; exact z.2.2) (by decide); omega; done) | (exfalso; omega; done) | (exfalso; contradiction; done)) r_W r_GW r_GU r_OW r_DX r_RG (show (m 94 10).toInt = 6 from by omega) r_UQs
theorem lp_235uw_121 {X : Nat × (Nat → Int32)} {P : Option ma_V → (Nat → Nat → Int32) → Prop} {T : Nat} {m0 : Nat → Nat → Int32} (h0 : zV m0) (K : ∀ v m₉, zF wr_235 m0 m₉ → zV m₉ → (zGW T (m₉ 94 55) (m₉ 109)) → (zGU T (m₉ 94 46) (m₉ 99)) → (zOw (m₉ 99) (m₉ 103) (m₉ 111)) → (zDX (m₉ 94 10) (m₉ 99) (m₉ 112) (m₉ 113) (m₉ 114) (m₉ 94 55) (m₉ 98) (m₉ 101) (m₉ 102) (m₉ 108)) → (zRG1 (m₉ 94 18) (m₉ 94 64) (m₉ 94 63) (m₉ 99) (m₉ 103) (m₉ 102) (m₉ 116)) → (zUs (m0 99) (m₉ 99)) → P (some (.inl v)) m₉) : ∀ (n : Nat) (m : Nat → Nat → Int32) (l1 : Int32) (l2 : Int32), (128 - l2.toInt).toNat = n → zF wr_235 m0 m → zV m → (0 ≤ l2.toInt) → (zW (m 94 7) (m 98) (m 101) (m 102) (m 108)) → (zGW T (m 94 55) (m 109)) → (zGU T (m 94 46) (m 99)) → (zOw (m 99) (m 103) (m 111)) → (zDX (m 94 10) (m 99) (m 112) (m 113) (m 114) (m 94 55) (m 98) (m 101) (m 102) (m 108)) → (zRG1 (m 94 18) (m 94 64) (m 94 63) (m 99) (m 103) (m 102) (m 116)) → ((m 94 10).toInt = 6) → (zUs (m0 99) (m 99)) → zm X 5 108 235 121 [(0, .inr (.inr (some 94))), (1, .inl l1), (2, .inl l2)] m P := by
  intro n
  induction n using Nat.strongRecOn with
  | _ n IH =>
    intro m l1 l2 hmu hF hV hi0 r_W r_GW r_GU r_OW r_DX r_RG hi7 r_UQs
    refine g_235_121 l1 l2 ?_
    have f1 : 0 ≤ (m 94 10).toInt ∧ (m 94 10).toInt ≤ 6 := rs_94_10 (m := m) hV
    have f2 : 0 ≤ (m 94 64).toInt ∧ (m 94 64).toInt ≤ 93 := rs_94_64 (m := m) hV
    have b3 := i_bd l2
    refine zd (fun (h4 : (m 94 64) ≤ l2) => ?_) (fun (h4 : ¬ (m 94 64) ≤ l2) => ?_)
    · skip
      have g5 := i_le h4
      refine sp_236  hV  (fun v2 m1 hV_m1 p0_m1 => zmi_n ?_)
      have p0_m1 : v2.toInt = -1 ∨ (0 ≤ v2.toInt ∧ v2.toInt < (m 94 64).toInt ∧ (m 124) v2.toNatClampNeg = 0) := p0_m1
      try have rpr := r_RG.2.2.2.1
      try have rsi := r_RG.1
      try have rrg := r_RG.2.1
      try have rml := RG_ml (r := l4) r_RG (by have := rs_94_18 hV; omega) (by have := rs_94_64 hV; omega)
      try have rml2 := RG_ml (r := l2) r_RG (by have := rs_94_18 hV; omega) (by have := rs_94_64 hV; omega)
      have b6 := i_bd l1
      have li7 : (-1 : Int32).toInt = -1 := rfl
      have li8 : (1 : Int32).toInt = 1 := rfl
      have b9 := i_bd v2
      exact lp_235uw_161 h0 K _ _ (l1) ((-1 : Int32)) ((1 : Int32)) (v2) rfl (zF_zov hF ws_236_235) hV_m1 (by omega) (by omega) (show -1 ≤ (-1 : Int32).toInt ∧ (-1 : Int32).toInt < (m 94 64).toInt from by omega) p0_m1 r_W r_GW r_GU r_OW r_DX r_RG (show (m 94 10).toInt = 6 from by omega) r_UQs
    · skip
      have g10 := i_nle h4
      try have au := RG_at r_RG (s := l2.toNatClampNeg) (by omega) (by assumption)
      try have rsi := r_RG.1
      try have dv : 0 ≤ (l2).toInt ∧ (l2).toInt ≤ 93 := i_div16 (by omega) (by omega) (by omega)
      have hg11 : (0 ≤ l2 ∧ l2.toNatClampNeg < 128) := i_ix (by omega) (by omega)
      refine ⟨hg11, ?_⟩
      have b12 := i_bd (m 122 l2.toNatClampNeg)
      have li13 : (0 : Int32).toInt = 0 := rfl
      refine zd (fun (h14 : (m 122 l2.toNatClampNeg) = (0 : Int32)) => ?_) (fun (h14 : ¬ (m 122 l2.toNatClampNeg) = (0 : Int32)) => ?_)
      · skip
        have g15 := i_eq h14
        try have rpr := r_RG.2.2.2.1
        try have rsi := r_RG.1
        try have rrg := r_RG.2.1
        try have rml := RG_ml (r := l4) r_RG (by have := rs_94_18 hV; omega) (by have := rs_94_64 hV; omega)
        try have rml2 := RG_ml (r := l2) r_RG (by have := rs_94_18 hV; omega) (by have := rs_94_64 hV; omega)
        have hg16 : (0 ≤ l2 ∧ l2.toNatClampNeg < 128) := i_ix (by omega) (by omega)
        refine ⟨hg16, ?_⟩
        try have rpr := r_RG.2.2.2.1
        try have rsi := r_RG.1
        try have rrg := r_RG.2.1
        try have rml := RG_ml (r := l4) r_RG (by have := rs_94_18 hV; omega) (by have := rs_94_64 hV; omega)
        try have rml2 := RG_ml (r := l2) r_RG (by have := rs_94_18 hV; omega) (by have := rs_94_64 hV; omega)
        have hV17 : zV (ma_u m 116 l2.toNatClampNeg (0 : Int32)) := ua_116 hV (by omega) (by omega)
        have b18 := i_bd l1
        first | have e19 : (l2 + (1 : Int32)).toInt = l2.toInt + (1) := i_addk rfl (by omega) (by omega) | have b20 := i_bd (l2 + (1 : Int32))
        exact IH (128 - (l2 + (1 : Int32)).toInt).toNat (by omega) _ (l1) ((l2 + (1 : Int32))) rfl (zF_u hF rfl) hV17 (by omega) r_W r_GW r_GU r_OW r_DX (show zRG1 (m 94 18) (m 94 64) (m 94 63) (m 99) (m 103) (m 102) ((ma_u m 116 l2.toNatClampNeg (0 : Int32)) 116) from by first | (exact RG_put r_RG (by omega)) | (exfalso; omega; done) | (exfalso; contradiction; done)) (show (m 94 10).toInt = 6 from by omega) r_UQs
      · skip
        have g21 := i_ne h14
        try have rpr := r_RG.2.2.2.1
        try have rsi := r_RG.1
        try have rrg := r_RG.2.1
        try have rml := RG_ml (r := l4) r_RG (by have := rs_94_18 hV; omega) (by have := rs_94_64 hV; omega)
        try have rml2 := RG_ml (r := l2) r_RG (by have := rs_94_18 hV; omega) (by have := rs_94_64 hV; omega)
        have b22 := i_bd l1
        first | have e23 : (l2 + (1 : Int32)).toInt = l2.toInt + (1) := i_addk rfl (by omega) (by omega) | have b24 := i_bd (l2 + (1 : Int32))
        exact IH (128 - (l2 + (1 : Int32)).toInt).toNat (by omega) _ (l1) ((l2 + (1 : Int32))) rfl hF hV (by omega) r_W r_GW r_GU r_OW r_DX r_RG (show (m 94 10).toInt = 6 from by omega) r_UQs
theorem lp_235uw_44 {X : Nat × (Nat → Int32)} {P : Option ma_V → (Nat → Nat → Int32) → Prop} {T : Nat} {m0 : Nat → Nat → Int32} (h0 : zV m0) (K : ∀ v m₉, zF wr_235 m0 m₉ → zV m₉ → (zGW T (m₉ 94 55) (m₉ 109)) → (zGU T (m₉ 94 46) (m₉ 99)) → (zOw (m₉ 99) (m₉ 103) (m₉ 111)) → (zDX (m₉ 94 10) (m₉ 99) (m₉ 112) (m₉ 113) (m₉ 114) (m₉ 94 55) (m₉ 98) (m₉ 101) (m₉ 102) (m₉ 108)) → (zRG1 (m₉ 94 18) (m₉ 94 64) (m₉ 94 63) (m₉ 99) (m₉ 103) (m₉ 102) (m₉ 116)) → (zUs (m0 99) (m₉ 99)) → P (some (.inl v)) m₉) : ∀ (n : Nat) (m : Nat → Nat → Int32) (l1 : Int32) (l2 : Int32), (3100 - l2.toInt).toNat = n → zF wr_235 m0 m → zV m → (0 ≤ l2.toInt) → (zW (m 94 7) (m 98) (m 101) (m 102) (m 108)) → (zGW T (m 94 55) (m 109)) → (zGU T (m 94 46) (m 99)) → (zOw (m 99) (m 103) (m 111)) → (zDX (m 94 10) (m 99) (m 112) (m 113) (m 114) (m 94 55) (m 98) (m 101) (m 102) (m 108)) → (zRG1 (m 94 18) (m 94 64) (m 94 63) (m 99) (m 103) (m 102) (m 116)) → ((m 94 10).toInt = 6) → (zUs (m0 99) (m 99)) → zm X 5 108 235 44 [(0, .inr (.inr (some 94))), (1, .inl l1), (2, .inl l2)] m P := by
  intro n
  induction n using Nat.strongRecOn with
  | _ n IH =>
    intro m l1 l2 hmu hF hV hi0 r_W r_GW r_GU r_OW r_DX r_RG hi7 r_UQs
    refine g_235_44 l1 l2 ?_
    have f1 : 0 ≤ (m 94 10).toInt ∧ (m 94 10).toInt ≤ 6 := rs_94_10 (m := m) hV
    have li2 : (3100 : Int32).toInt = 3100 := rfl
    have b3 := i_bd l2
    refine zd (fun (h4 : (3100 : Int32) ≤ l2) => ?_) (fun (h4 : ¬ (3100 : Int32) ≤ l2) => ?_)
    · skip
      have g5 := i_le h4
      try have rpr := r_RG.2.2.2.1
      try have rsi := r_RG.1
      try have rrg := r_RG.2.1
      try have rml := RG_ml (r := l4) r_RG (by have := rs_94_18 hV; omega) (by have := rs_94_64 hV; omega)
      try have rml2 := RG_ml (r := l2) r_RG (by have := rs_94_18 hV; omega) (by have := rs_94_64 hV; omega)
      have b6 := i_bd l1
      have li7 : (0 : Int32).toInt = 0 := rfl
      exact lp_235uw_121 h0 K _ _ (l1) ((0 : Int32)) rfl hF hV (by omega) r_W r_GW r_GU r_OW r_DX r_RG (show (m 94 10).toInt = 6 from by omega) r_UQs
    · skip
      have g8 := i_nle h4
      have hg9 : (0 ≤ l2 ∧ l2.toNatClampNeg < 3100) := i_ix (by omega) (by omega)
      refine ⟨hg9, ?_⟩
      first | have f10 : 0 ≤ (m 99 l2.toNatClampNeg).toInt ∧ (m 99 l2.toNatClampNeg).toInt ≤ 1 := ra_99 (m := m) hV (k := l2.toNatClampNeg) (i_ix (n := 3100) (by omega) (by omega)).2 | have b11 := i_bd (m 99 l2.toNatClampNeg)
      have li12 : (0 : Int32).toInt = 0 := rfl
      refine zd (fun (h13 : (m 99 l2.toNatClampNeg) = (0 : Int32)) => ?_) (fun (h13 : ¬ (m 99 l2.toNatClampNeg) = (0 : Int32)) => ?_)
      · skip
        have g14 := i_eq h13
        try have rpr := r_RG.2.2.2.1
        try have rsi := r_RG.1
        try have rrg := r_RG.2.1
        try have rml := RG_ml (r := l4) r_RG (by have := rs_94_18 hV; omega) (by have := rs_94_64 hV; omega)
        try have rml2 := RG_ml (r := l2) r_RG (by have := rs_94_18 hV; omega) (by have := rs_94_64 hV; omega)
        have b15 := i_bd l1
        first | have e16 : (l2 + (1 : Int32)).toInt = l2.toInt + (1) := i_addk rfl (by omega) (by omega) | have b17 := i_bd (l2 + (1 : Int32))
        exact IH (3100 - (l2 + (1 : Int32)).toInt).toNat (by omega) _ (l1) ((l2 + (1 : Int32))) rfl hF hV (by omega) r_W r_GW r_GU r_OW r_DX r_RG (show (m 94 10).toInt = 6 from by omega) r_UQs
      · skip
        have g18 := i_ne h13
        try have rpr := r_RG.2.2.2.1
        try have rsi := r_RG.1
        try have rrg := r_RG.2.1
        try have rml := RG_ml (r := l4) r_RG (by have := rs_94_18 hV; omega) (by have := rs_94_64 hV; omega)
        try have rml2 := RG_ml (r := l2) r_RG (by have := rs_94_18 hV; omega) (by have := rs_94_64 hV; omega)
        have hg19 : (0 ≤ l2 ∧ l2.toNatClampNeg < 3100) := i_ix (by omega) (by omega)
        refine ⟨hg19, ?_⟩
        have f20 : 0 ≤ (m 94 18).toInt ∧ (m 94 18).toInt ≤ 256 := rs_94_18 (m := m) hV
        have hg21 : (m 94 18) ≠ 0 := i_nz (by omega)
        refine ⟨hg21, ?_⟩
        first | have f22 : 0 ≤ (m 103 l2.toNatClampNeg).toInt ∧ (m 103 l2.toNatClampNeg).toInt ≤ 4599 := ra_103 (m := m) hV (k := l2.toNatClampNeg) (i_ix (n := 3100) (by omega) (by omega)).2 | have b23 := i_bd (m 103 l2.toNatClampNeg)
        first | have f24 := i_div (x := (m 103 l2.toNatClampNeg)) (y := (m 94 18)) (by omega) (by omega) | have b25 := i_bd ((m 103 l2.toNatClampNeg) / (m 94 18))
        try have au := RG_at r_RG (s := l2.toNatClampNeg) (by omega) (by assumption)
        try have rsi := r_RG.1
        try have dv : 0 ≤ (((m 103 l2.toNatClampNeg) / (m 94 18))).toInt ∧ (((m 103 l2.toNatClampNeg) / (m 94 18))).toInt ≤ 93 := i_div16 (by omega) (by omega) (by omega)
        have hg26 : (0 ≤ ((m 103 l2.toNatClampNeg) / (m 94 18)) ∧ ((m 103 l2.toNatClampNeg) / (m 94 18)).toNatClampNeg < 128) := i_ix (by omega) (by omega)
        refine ⟨hg26, ?_⟩
        try have ow5 := r_OW l5.toNatClampNeg (by omega) (by omega)
        try have ra5 := RG_at r_RG (s := (m 111 l5.toNatClampNeg).toNatClampNeg) (by omega) ow5.1
        have hg27 : (0 ≤ l2 ∧ l2.toNatClampNeg < 3100) := i_ix (by omega) (by omega)
        refine ⟨hg27, ?_⟩
        try have au := RG_at r_RG (s := l2.toNatClampNeg) (by omega) (by assumption)
        try have rsi := r_RG.1
        try have dv : 0 ≤ (((m 103 l2.toNatClampNeg) / (m 94 18))).toInt ∧ (((m 103 l2.toNatClampNeg) / (m 94 18))).toInt ≤ 93 := i_div16 (by omega) (by omega) (by omega)
        have hg28 : (0 ≤ ((m 103 l2.toNatClampNeg) / (m 94 18)) ∧ ((m 103 l2.toNatClampNeg) / (m 94 18)).toNatClampNeg < 128) := i_ix (by omega) (by omega)
        refine ⟨hg28, ?_⟩
        have hg29 : (0 ≤ l2 ∧ l2.toNatClampNeg < 3100) := i_ix (by omega) (by omega)
        refine ⟨hg29, ?_⟩
        have b30 := i_bd (m 107 l2.toNatClampNeg)
        refine zd (fun (h31 : (m 107 l2.toNatClampNeg) ≤ (0 : Int32)) => ?_) (fun (h31 : ¬ (m 107 l2.toNatClampNeg) ≤ (0 : Int32)) => ?_)
        · skip
          have g32 := i_le h31
          try have rpr := r_RG.2.2.2.1
          try have rsi := r_RG.1
          try have rrg := r_RG.2.1
          try have rml := RG_ml (r := l4) r_RG (by have := rs_94_18 hV; omega) (by have := rs_94_64 hV; omega)
          try have rml2 := RG_ml (r := l2) r_RG (by have := rs_94_18 hV; omega) (by have := rs_94_64 hV; omega)
          have hV33 : zV (ma_u m 122 ((m 103 l2.toNatClampNeg) / (m 94 18)).toNatClampNeg ((m 122 ((m 103 l2.toNatClampNeg) / (m 94 18)).toNatClampNeg) + ((m 102 l2.toNatClampNeg) + (1 : Int32)))) := ua_122 hV
          have b34 := i_bd l1
          first | have e35 : (l2 + (1 : Int32)).toInt = l2.toInt + (1) := i_addk rfl (by omega) (by omega) | have b36 := i_bd (l2 + (1 : Int32))
          exact IH (3100 - (l2 + (1 : Int32)).toInt).toNat (by omega) _ (l1) ((l2 + (1 : Int32))) rfl (zF_u hF rfl) hV33 (by omega) r_W r_GW r_GU r_OW r_DX r_RG (show (m 94 10).toInt = 6 from by omega) r_UQs
        · skip
          have g37 := i_nle h31
          try have rpr := r_RG.2.2.2.1
          try have rsi := r_RG.1
          try have rrg := r_RG.2.1
          try have rml := RG_ml (r := l4) r_RG (by have := rs_94_18 hV; omega) (by have := rs_94_64 hV; omega)
          try have rml2 := RG_ml (r := l2) r_RG (by have := rs_94_18 hV; omega) (by have := rs_94_64 hV; omega)
          have hg38 : (0 ≤ l2 ∧ l2.toNatClampNeg < 3100) := i_ix (by omega) (by omega)
          refine ⟨hg38, ?_⟩
          have hg39 : (m 94 18) ≠ 0 := i_nz (by omega)
          refine ⟨hg39, ?_⟩
          try have au := RG_at r_RG (s := l2.toNatClampNeg) (by omega) (by assumption)
          try have rsi := r_RG.1
          try have dv : 0 ≤ (((m 103 l2.toNatClampNeg) / (m 94 18))).toInt ∧ (((m 103 l2.toNatClampNeg) / (m 94 18))).toInt ≤ 93 := i_div16 (by omega) (by omega) (by omega)
          have hg40 : (0 ≤ ((m 103 l2.toNatClampNeg) / (m 94 18)) ∧ ((m 103 l2.toNatClampNeg) / (m 94 18)).toNatClampNeg < 128) := i_ix (by omega) (by omega)
          refine ⟨hg40, ?_⟩
          try have rpr := r_RG.2.2.2.1
          try have rsi := r_RG.1
          try have rrg := r_RG.2.1
          try have rml := RG_ml (r := l4) r_RG (by have := rs_94_18 hV; omega) (by have := rs_94_64 hV; omega)
          try have rml2 := RG_ml (r := l2) r_RG (by have := rs_94_18 hV; omega) (by have := rs_94_64 hV; omega)
          have hV41 : zV (ma_u m 122 ((m 103 l2.toNatClampNeg) / (m 94 18)).toNatClampNeg ((m 122 ((m 103 l2.toNatClampNeg) / (m 94 18)).toNatClampNeg) + ((m 102 l2.toNatClampNeg) + (1 : Int32)))) := ua_122 hV
          have li43 : (1 : Int32).toInt = 1 := rfl
          have hV42 : zV (ma_u (ma_u m 122 ((m 103 l2.toNatClampNeg) / (m 94 18)).toNatClampNeg ((m 122 ((m 103 l2.toNatClampNeg) / (m 94 18)).toNatClampNeg) + ((m 102 l2.toNatClampNeg) + (1 : Int32)))) 123 ((m 103 l2.toNatClampNeg) / (m 94 18)).toNatClampNeg (1 : Int32)) := ua_123 hV41 (by omega) (by omega)
          have b44 := i_bd l1
          first | have e45 : (l2 + (1 : Int32)).toInt = l2.toInt + (1) := i_addk rfl (by omega) (by omega) | have b46 := i_bd (l2 + (1 : Int32))
          exact IH (3100 - (l2 + (1 : Int32)).toInt).toNat (by omega) _ (l1) ((l2 + (1 : Int32))) rfl (zF_u (zF_u hF rfl) rfl) hV42 (by omega) r_W r_GW r_GU r_OW r_DX r_RG (show (m 94 10).toInt = 6 from by omega) r_UQs
theorem lp_235uw_7 {X : Nat × (Nat → Int32)} {P : Option ma_V → (Nat → Nat → Int32) → Prop} {T : Nat} {m0 : Nat → Nat → Int32} (h0 : zV m0) (K : ∀ v m₉, zF wr_235 m0 m₉ → zV m₉ → (zGW T (m₉ 94 55) (m₉ 109)) → (zGU T (m₉ 94 46) (m₉ 99)) → (zOw (m₉ 99) (m₉ 103) (m₉ 111)) → (zDX (m₉ 94 10) (m₉ 99) (m₉ 112) (m₉ 113) (m₉ 114) (m₉ 94 55) (m₉ 98) (m₉ 101) (m₉ 102) (m₉ 108)) → (zRG1 (m₉ 94 18) (m₉ 94 64) (m₉ 94 63) (m₉ 99) (m₉ 103) (m₉ 102) (m₉ 116)) → (zUs (m0 99) (m₉ 99)) → P (some (.inl v)) m₉) : ∀ (n : Nat) (m : Nat → Nat → Int32) (l1 : Int32) (l2 : Int32), (128 - l2.toInt).toNat = n → zF wr_235 m0 m → zV m → (0 ≤ l2.toInt) → (zW (m 94 7) (m 98) (m 101) (m 102) (m 108)) → (zGW T (m 94 55) (m 109)) → (zGU T (m 94 46) (m 99)) → (zOw (m 99) (m 103) (m 111)) → (zDX (m 94 10) (m 99) (m 112) (m 113) (m 114) (m 94 55) (m 98) (m 101) (m 102) (m 108)) → (zRG1 (m 94 18) (m 94 64) (m 94 63) (m 99) (m 103) (m 102) (m 116)) → ((m 94 10).toInt = 6) → (zUs (m0 99) (m 99)) → zm X 5 108 235 7 [(0, .inr (.inr (some 94))), (1, .inl l1), (2, .inl l2)] m P := by
  intro n
  induction n using Nat.strongRecOn with
  | _ n IH =>
    intro m l1 l2 hmu hF hV hi0 r_W r_GW r_GU r_OW r_DX r_RG hi7 r_UQs
    refine g_235_7 l1 l2 ?_
    have f1 : 0 ≤ (m 94 10).toInt ∧ (m 94 10).toInt ≤ 6 := rs_94_10 (m := m) hV
    have f2 : 0 ≤ (m 94 64).toInt ∧ (m 94 64).toInt ≤ 93 := rs_94_64 (m := m) hV
    have b3 := i_bd l2
    refine zd (fun (h4 : (m 94 64) ≤ l2) => ?_) (fun (h4 : ¬ (m 94 64) ≤ l2) => ?_)
    · skip
      have g5 := i_le h4
      try have rpr := r_RG.2.2.2.1
      try have rsi := r_RG.1
      try have rrg := r_RG.2.1
      try have rml := RG_ml (r := l4) r_RG (by have := rs_94_18 hV; omega) (by have := rs_94_64 hV; omega)
      try have rml2 := RG_ml (r := l2) r_RG (by have := rs_94_18 hV; omega) (by have := rs_94_64 hV; omega)
      have b6 := i_bd l1
      have li7 : (0 : Int32).toInt = 0 := rfl
      exact lp_235uw_44 h0 K _ _ (l1) ((0 : Int32)) rfl hF hV (by omega) r_W r_GW r_GU r_OW r_DX r_RG (show (m 94 10).toInt = 6 from by omega) r_UQs
    · skip
      have g8 := i_nle h4
      try have au := RG_at r_RG (s := l2.toNatClampNeg) (by omega) (by assumption)
      try have rsi := r_RG.1
      try have dv : 0 ≤ (l2).toInt ∧ (l2).toInt ≤ 93 := i_div16 (by omega) (by omega) (by omega)
      have hg9 : (0 ≤ l2 ∧ l2.toNatClampNeg < 128) := i_ix (by omega) (by omega)
      refine ⟨hg9, ?_⟩
      try have au := RG_at r_RG (s := l2.toNatClampNeg) (by omega) (by assumption)
      try have rsi := r_RG.1
      try have dv : 0 ≤ (l2).toInt ∧ (l2).toInt ≤ 93 := i_div16 (by omega) (by omega) (by omega)
      have hg10 : (0 ≤ l2 ∧ l2.toNatClampNeg < 128) := i_ix (by omega) (by omega)
      refine ⟨hg10, ?_⟩
      try have rpr := r_RG.2.2.2.1
      try have rsi := r_RG.1
      try have rrg := r_RG.2.1
      try have rml := RG_ml (r := l4) r_RG (by have := rs_94_18 hV; omega) (by have := rs_94_64 hV; omega)
      try have rml2 := RG_ml (r := l2) r_RG (by have := rs_94_18 hV; omega) (by have := rs_94_64 hV; omega)
      have hg11 : (0 ≤ l2 ∧ l2.toNatClampNeg < 128) := i_ix (by omega) (by omega)
      refine ⟨hg11, ?_⟩
      try have rpr := r_RG.2.2.2.1
      try have rsi := r_RG.1
      try have rrg := r_RG.2.1
      try have rml := RG_ml (r := l4) r_RG (by have := rs_94_18 hV; omega) (by have := rs_94_64 hV; omega)
      try have rml2 := RG_ml (r := l2) r_RG (by have := rs_94_18 hV; omega) (by have := rs_94_64 hV; omega)
      have hV12 : zV (ma_u m 122 l2.toNatClampNeg (0 : Int32)) := ua_122 hV
      have li14 : (0 : Int32).toInt = 0 := rfl
      have hV13 : zV (ma_u (ma_u m 122 l2.toNatClampNeg (0 : Int32)) 123 l2.toNatClampNeg (0 : Int32)) := ua_123 hV12 (by omega) (by omega)
      have hV15 : zV (ma_u (ma_u (ma_u m 122 l2.toNatClampNeg (0 : Int32)) 123 l2.toNatClampNeg (0 : Int32)) 124 l2.toNatClampNeg (0 : Int32)) := ua_124 hV13 (by omega) (by omega)
      have b16 := i_bd l1
      first | have e17 : (l2 + (1 : Int32)).toInt = l2.toInt + (1) := i_addk rfl (by omega) (by omega) | have b18 := i_bd (l2 + (1 : Int32))
      exact IH (128 - (l2 + (1 : Int32)).toInt).toNat (by omega) _ (l1) ((l2 + (1 : Int32))) rfl (zF_u (zF_u (zF_u hF rfl) rfl) rfl) hV15 (by omega) r_W r_GW r_GU r_OW r_DX r_RG (show (m 94 10).toInt = 6 from by omega) r_UQs
theorem sp_235uw {X : Nat × (Nat → Int32)} {P : Option ma_V → (Nat → Nat → Int32) → Prop} {T : Nat} {m : Nat → Nat → Int32}  (hV : zV m) (r_W : zW (m 94 7) (m 98) (m 101) (m 102) (m 108)) (r_GW : zGW T (m 94 55) (m 109)) (r_GU : zGU T (m 94 46) (m 99)) (r_OW : zOw (m 99) (m 103) (m 111)) (r_DX : zDX (m 94 10) (m 99) (m 112) (m 113) (m 114) (m 94 55) (m 98) (m 101) (m 102) (m 108)) (r_RG : zRG1 (m 94 18) (m 94 64) (m 94 63) (m 99) (m 103) (m 102) (m 116)) (hpre6 : (m 94 10).toInt = 6) (KZ : ∀ v m₉, zV (zov wr_235 m m₉) → (zGW T (m₉ 94 55) (m₉ 109)) → (zGU T (m 94 46) (m₉ 99)) → (zOw (m₉ 99) (m₉ 103) (m₉ 111)) → (zDX (m 94 10) (m₉ 99) (m 112) (m₉ 113) (m₉ 114) (m₉ 94 55) (m 98) (m 101) (m 102) (m 108)) → (zRG1 (m 94 18) (m 94 64) (m₉ 94 63) (m₉ 99) (m₉ 103) (m 102) (m₉ 116)) → (zUs (m 99) (m₉ 99)) → P (some (.inl v)) (zov wr_235 m m₉)) : zm X 5 108 235 0 [(0, .inr (.inr (some 94)))] m P := by
  have K : ∀ v m₉, zF wr_235 m m₉ → zV m₉ → (zGW T (m₉ 94 55) (m₉ 109)) → (zGU T (m₉ 94 46) (m₉ 99)) → (zOw (m₉ 99) (m₉ 103) (m₉ 111)) → (zDX (m₉ 94 10) (m₉ 99) (m₉ 112) (m₉ 113) (m₉ 114) (m₉ 94 55) (m₉ 98) (m₉ 101) (m₉ 102) (m₉ 108)) → (zRG1 (m₉ 94 18) (m₉ 94 64) (m₉ 94 63) (m₉ 99) (m₉ 103) (m₉ 102) (m₉ 116)) → (zUs (m 99) (m₉ 99)) → P (some (.inl v)) m₉ := by
    intro v m₉ hf z q0 q1 q2 q3 q4 q5
    have e := zov_eq hf
    rw [e] at z ⊢
    try rw [e] at q0
    try rw [e] at q1
    try rw [e] at q2
    try rw [e] at q3
    try rw [e] at q4
    try rw [e] at q5
    exact KZ v m₉ z q0 q1 q2 q3 q4 q5
  refine g_235_0  ?_
  have f1 : 0 ≤ (m 94 10).toInt ∧ (m 94 10).toInt ≤ 6 := rs_94_10 (m := m) hV
  refine sp_187uw  hV r_W r_GW r_GU r_OW r_DX (fun v2 m1 hV_m1 p0_m1 p1_m1 p2_m1 p3_m1 p4_m1 p5_m1 => zmi_n ?_)
  have p0_m1 : zGW T (m1 94 55) (m1 109) := p0_m1
  have p1_m1 : zGU T (m 94 46) (m1 99) := p1_m1
  have p2_m1 : zOw (m1 99) (m 103) (m1 111) := p2_m1
  have p3_m1 : zDX (m 94 10) (m1 99) (m 112) (m1 113) (m1 114) (m1 94 55) (m 98) (m 101) (m 102) (m 108) := p3_m1
  have p4_m1 : zsw (m 99) (m1 99) (m 111) (m1 111) (m 103) := p4_m1
  have p5_m1 : zUs (m 99) (m1 99) := p5_m1
  try have rpr := r_RG.2.2.2.1
  try have rsi := r_RG.1
  try have rrg := r_RG.2.1
  try have rml := RG_ml (r := l4) r_RG (by have := rs_94_18 hV; omega) (by have := rs_94_64 hV; omega)
  try have rml2 := RG_ml (r := l2) r_RG (by have := rs_94_18 hV; omega) (by have := rs_94_64 hV; omega)
  have b2 := i_bd v2
  have li3 : (0 : Int32).toInt = 0 := rfl
  exact lp_235uw_7 hV K _ _ (v2) ((0 : Int32)) rfl (zF_zov zF_rfl ws_187_235) hV_m1 (by omega) r_W p0_m1 p1_m1 p2_m1 p3_m1 (show zRG1 (m 94 18) (m 94 64) (m 94 63) (m1 99) (m 103) (m 102) (m 116) from by first | (exact RG_sub r_RG p4_m1.1) | (exfalso; omega; done) | (exfalso; contradiction; done)) (show (m 94 10).toInt = 6 from by omega) p5_m1

