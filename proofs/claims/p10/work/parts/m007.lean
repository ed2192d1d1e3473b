/-! from 95.zu06 -/
/-! the reference: who is used, words (written by wip/tools/gen15u.py) -/
theorem sp_217uw {X : Nat × (Nat → Int32)} {P : Option ma_V → (Nat → Nat → Int32) → Prop} {T : Nat} {m : Nat → Nat → Int32} (n : Int32) (hV : zV m) (r_W : zW (m 94 7) (m 98) (m 101) (m 102) (m 108)) (r_GW : zGW T (m 94 55) (m 109)) (r_GU : zGU T (m 94 46) (m 99)) (r_OW : zOw (m 99) (m 103) (m 111)) (r_DX : zDX (m 94 10) (m 99) (m 112) (m 113) (m 114) (m 94 55) (m 98) (m 101) (m 102) (m 108)) (r_GG : zGG (m 94 58) (m 94 56) (m 94 57) (m 106)) (hpre6 : (m 94 10).toInt = 5) (KZ : ∀ v m₉, zV (zov wr_217 m m₉) → (zGW T (m₉ 94 55) (m₉ 109)) → (zGU T (m 94 46) (m₉ 99)) → (zOw (m₉ 99) (m 103) (m₉ 111)) → (zDX (m 94 10) (m₉ 99) (m 112) (m₉ 113) (m₉ 114) (m₉ 94 55) (m 98) (m 101) (m 102) (m 108)) → (zGG (m₉ 94 58) (m₉ 94 56) (m₉ 94 57) (m₉ 106)) → (-1 ≤ v.toInt ∧ v.toInt ≤ 1500) → (zUs (m 99) (m₉ 99)) → P (some (.inl v)) (zov wr_217 m m₉)) : zm X 7 151 217 0 [(0, .inr (.inr (some 94))), (1, .inl n)] m P := by
  have K : ∀ v m₉, zF wr_217 m m₉ → zV m₉ → (zGW T (m₉ 94 55) (m₉ 109)) → (zGU T (m₉ 94 46) (m₉ 99)) → (zOw (m₉ 99) (m₉ 103) (m₉ 111)) → (zDX (m₉ 94 10) (m₉ 99) (m₉ 112) (m₉ 113) (m₉ 114) (m₉ 94 55) (m₉ 98) (m₉ 101) (m₉ 102) (m₉ 108)) → (zGG (m₉ 94 58) (m₉ 94 56) (m₉ 94 57) (m₉ 106)) → (-1 ≤ v.toInt ∧ v.toInt ≤ 1500) → (zUs (m 99) (m₉ 99)) → P (some (.inl v)) m₉ := by
    intro v m₉ hf z q0 q1 q2 q3 q4 q5 q6
    have e := zov_eq hf
    rw [e] at z ⊢
    try rw [e] at q0
    try rw [e] at q1
    try rw [e] at q2
    try rw [e] at q3
    try rw [e] at q4
    try rw [e] at q5
    try rw [e] at q6
    exact KZ v m₉ z q0 q1 q2 q3 q4 q5 q6
  refine g_217_0 n ?_
  have f1 : 0 ≤ (m 94 10).toInt ∧ (m 94 10).toInt ≤ 6 := rs_94_10 (m := m) hV
  have f2 : 0 ≤ (m 94 58).toInt ∧ (m 94 58).toInt ≤ 1 := rs_94_58 (m := m) hV
  have li3 : (0 : Int32).toInt = 0 := rfl
  refine zd (fun (h4 : (m 94 58) = (0 : Int32)) => ?_) (fun (h4 : ¬ (m 94 58) = (0 : Int32)) => ?_)
  · skip
    have g5 := i_eq h4
    have f6 : 0 ≤ (m 94 11).toInt ∧ (m 94 11).toInt ≤ 1500 := rs_94_11 (m := m) hV
    have b7 := i_bd (m 94 45)
    first | have e8 : ((m 94 11) - (m 94 45)).toInt = (m 94 11).toInt - (m 94 45).toInt := i_sub (by omega) (by omega) | have b9 := i_bd ((m 94 11) - (m 94 45))
    have li10 : (4 : Int32).toInt = 4 := rfl
    first | have e11 : (((m 94 11) - (m 94 45)) * (4 : Int32)).toInt = ((m 94 11) - (m 94 45)).toInt * 4 := i_mulk rfl (by omega) (by omega) | have b12 := i_bd (((m 94 11) - (m 94 45)) * (4 : Int32))
    refine zd (fun (h13 : (m 94 11) ≤ (((m 94 11) - (m 94 45)) * (4 : Int32))) => ?_) (fun (h13 : ¬ (m 94 11) ≤ (((m 94 11) - (m 94 45)) * (4 : Int32))) => ?_)
    · skip
      have g14 := i_le h13
      refine zd (fun (h15 : (m 94 58) = (0 : Int32)) => ?_) (fun (h15 : ¬ (m 94 58) = (0 : Int32)) => ?_)
      · skip
        have g16 := i_eq h15
        have b17 := i_bd n
        refine sp_224 (n) hV  (fun v34 m33 hV_m33 p0_m33 => zmi_n ?_)
        have p0_m33 : -1 ≤ v34.toInt ∧ v34.toInt ≤ 1500 := p0_m33
        have b18 := i_bd v34
        refine zd (fun (h19 : v34 < (0 : Int32)) => ?_) (fun (h19 : ¬ v34 < (0 : Int32)) => ?_)
        · skip
          have g20 := i_lt h19
          refine zd (fun (h21 : (m 94 58) = (0 : Int32)) => ?_) (fun (h21 : ¬ (m 94 58) = (0 : Int32)) => ?_)
          · skip
            have g22 := i_eq h21
            refine sp_229uw  hV_m33 r_W r_GW r_GU r_OW r_DX (show (m 94 10).toInt = 5 from by omega) (fun v44 m43 hV_m43 p0_m43 p1_m43 p2_m43 p3_m43 p4_m43 p5_m43 p6_m43 => zmi_n ?_)
            have p0_m43 : zGW T (m43 94 55) (m43 109) := p0_m43
            have p1_m43 : zGU T (m 94 46) (m43 99) := p1_m43
            have p2_m43 : zOw (m43 99) (m 103) (m43 111) := p2_m43
            have p3_m43 : zDX (m 94 10) (m43 99) (m 112) (m43 113) (m43 114) (m43 94 55) (m 98) (m 101) (m 102) (m 108) := p3_m43
            have p4_m43 : zGG (m43 94 58) (m43 94 56) (m43 94 57) (m43 106) := p4_m43
            have p5_m43 : (m43 94 58).toInt = 0 := p5_m43
            have p6_m43 : zUs (m 99) (m43 99) := p6_m43
            have f23 : 0 ≤ (m43 94 58).toInt ∧ (m43 94 58).toInt ≤ 1 := rs_94_58 (m := (zov wr_229 (zov wr_224 m m33) m43)) hV_m43
            refine sp_224 (n) hV_m43  (fun v46 m45 hV_m45 p0_m45 => zmi_n ?_)
            have p0_m45 : -1 ≤ v46.toInt ∧ v46.toInt ≤ 1500 := p0_m45
            have b24 := i_bd v46
            refine zd (fun (h25 : (0 : Int32) ≤ v46) => ?_) (fun (h25 : ¬ (0 : Int32) ≤ v46) => ?_)
            · skip
              have g26 := i_le h25
              exact K (v46) _ (zF_zov (zF_zov (zF_zov zF_rfl ws_224_217) ws_229_217) ws_224_217) hV_m45 p0_m43 p1_m43 p2_m43 p3_m43 p4_m43 (show -1 ≤ v46.toInt ∧ v46.toInt ≤ 1500 from by omega) p6_m43
            · skip
              have g27 := i_nle h25
              exact K (v46) _ (zF_zov (zF_zov (zF_zov zF_rfl ws_224_217) ws_229_217) ws_224_217) hV_m45 p0_m43 p1_m43 p2_m43 p3_m43 p4_m43 (show -1 ≤ v46.toInt ∧ v46.toInt ≤ 1500 from by omega) p6_m43
          · skip
            have g28 := i_ne h21
            refine sp_230uw  hV_m33 r_W r_GW r_GU r_OW r_DX r_GG (show (m 94 10).toInt = 5 from by omega) (fun v36 m35 hV_m35 p0_m35 p1_m35 p2_m35 p3_m35 p4_m35 p5_m35 p6_m35 => zmi_n ?_)
            have p0_m35 : zGW T (m35 94 55) (m35 109) := p0_m35
            have p1_m35 : zGU T (m 94 46) (m35 99) := p1_m35
            have p2_m35 : zOw (m35 99) (m 103) (m35 111) := p2_m35
            have p3_m35 : zDX (m 94 10) (m35 99) (m 112) (m35 113) (m35 114) (m35 94 55) (m 98) (m 101) (m 102) (m 108) := p3_m35
            have p4_m35 : zGG (m35 94 58) (m35 94 56) (m35 94 57) (m35 106) := p4_m35
            have p5_m35 : (m35 94 58).toInt = 0 := p5_m35
            have p6_m35 : zUs (m 99) (m35 99) := p6_m35
            have f29 : 0 ≤ (m35 94 58).toInt ∧ (m35 94 58).toInt ≤ 1 := rs_94_58 (m := (zov wr_230 (zov wr_224 m m33) m35)) hV_m35
            refine sp_224 (n) hV_m35  (fun v38 m37 hV_m37 p0_m37 => zmi_n ?_)
            have p0_m37 : -1 ≤ v38.toInt ∧ v38.toInt ≤ 1500 := p0_m37
            have b30 := i_bd v38
            refine zd (fun (h31 : (0 : Int32) ≤ v38) => ?_) (fun (h31 : ¬ (0 : Int32) ≤ v38) => ?_)
            · skip
              have g32 := i_le h31
              exact K (v38) _ (zF_zov (zF_zov (zF_zov zF_rfl ws_224_217) ws_230_217) ws_224_217) hV_m37 p0_m35 p1_m35 p2_m35 p3_m35 p4_m35 (show -1 ≤ v38.toInt ∧ v38.toInt ≤ 1500 from by omega) p6_m35
            · skip
              have g33 := i_nle h31
              refine sp_229uw  hV_m37 r_W p0_m35 p1_m35 p2_m35 p3_m35 (show (m 94 10).toInt = 5 from by omega) (fun v40 m39 hV_m39 p0_m39 p1_m39 p2_m39 p3_m39 p4_m39 p5_m39 p6_m39 => zmi_n ?_)
              have p0_m39 : zGW T (m39 94 55) (m39 109) := p0_m39
              have p1_m39 : zGU T (m 94 46) (m39 99) := p1_m39
              have p2_m39 : zOw (m39 99) (m 103) (m39 111) := p2_m39
              have p3_m39 : zDX (m 94 10) (m39 99) (m 112) (m39 113) (m39 114) (m39 94 55) (m 98) (m 101) (m 102) (m 108) := p3_m39
              have p4_m39 : zGG (m39 94 58) (m39 94 56) (m39 94 57) (m39 106) := p4_m39
              have p5_m39 : (m39 94 58).toInt = 0 := p5_m39
              have p6_m39 : zUs (m35 99) (m39 99) := p6_m39
              have f34 : 0 ≤ (m39 94 58).toInt ∧ (m39 94 58).toInt ≤ 1 := rs_94_58 (m := (zov wr_229 (zov wr_224 (zov wr_230 (zov wr_224 m m33) m35) m37) m39)) hV_m39
              refine sp_224 (n) hV_m39  (fun v42 m41 hV_m41 p0_m41 => zmi_n ?_)
              have p0_m41 : -1 ≤ v42.toInt ∧ v42.toInt ≤ 1500 := p0_m41
              have b35 := i_bd v42
              exact K (v42) _ (zF_zov (zF_zov (zF_zov (zF_zov (zF_zov zF_rfl ws_224_217) ws_230_217) ws_224_217) ws_229_217) ws_224_217) hV_m41 p0_m39 p1_m39 p2_m39 p3_m39 p4_m39 (show -1 ≤ v42.toInt ∧ v42.toInt ≤ 1500 from by omega) (show zUs (m 99) (m39 99) from by first | (exact (Us_tr (Us_tr Us_rfl p6_m35) p6_m39)) | (exact Us_w0 (Us_tr (Us_tr Us_rfl p6_m35) p6_m39)) | (exact Us_rfl) | (exfalso; omega; done) | (exfalso; contradiction; done))
        · skip
          have g36 := i_nlt h19
          exact K (v34) _ (zF_zov zF_rfl ws_224_217) hV_m33 r_GW r_GU r_OW r_DX r_GG (show -1 ≤ v34.toInt ∧ v34.toInt ≤ 1500 from by omega) (show zUs (m 99) (m 99) from by first | (exact Us_rfl) | (exact Us_w0 Us_rfl) | (exact Us_rfl) | (exfalso; omega; done) | (exfalso; contradiction; done))
      · skip
        have g37 := i_ne h15
        have b38 := i_bd (m 94 17)
        refine sp_222 ((m 94 17)) hV r_W (show zG1 (m 94 56) (m 94 57) (m 106) from by first | (exact G1_0 (by omega) (by omega)) | (exact r_GG (by omega)) | (exfalso; omega; done) | (exfalso; contradiction; done)) (fun v48 m47 hV_m47 p0_m47 p1_m47 p2_m47 => zmi_n ?_)
        have p0_m47 : zG1 (m47 94 56) (m47 94 57) (m47 106) := p0_m47
        have p1_m47 : (m 94 56).toInt ≤ (m47 94 56).toInt := p1_m47
        have p2_m47 : (m 94 57).toInt ≤ (m47 94 57).toInt ∧ ((m47 94 56).toInt ≤ (m47 94 57).toInt ∨ (m 94 57).toInt + (m 94 17).toInt ≤ (m47 94 57).toInt) := p2_m47
        have f39 : 0 ≤ (m 94 56).toInt ∧ (m 94 56).toInt ≤ 3100 := rs_94_56 (m := m) hV
        have f40 : 0 ≤ (m47 94 56).toInt ∧ (m47 94 56).toInt ≤ 3100 := rs_94_56 (m := (zov wr_222 m m47)) hV_m47
        have f41 : 0 ≤ (m 94 57).toInt ∧ (m 94 57).toInt ≤ 3100 := rs_94_57 (m := m) hV
        have f42 : 0 ≤ (m47 94 57).toInt ∧ (m47 94 57).toInt ≤ 3100 := rs_94_57 (m := (zov wr_222 m m47)) hV_m47
        refine sp_223uw  hV_m47 r_W r_GW r_GU r_OW r_DX p0_m47 (show (m 94 10).toInt = 5 from by omega) (show (m 94 58).toInt = 1 from by omega) (fun v50 m49 hV_m49 p0_m49 p1_m49 p2_m49 p3_m49 p4_m49 p5_m49 p6_m49 => zmi_n ?_)
        have p0_m49 : zGW T (m49 94 55) (m49 109) := p0_m49
        have p1_m49 : zGU T (m 94 46) (m49 99) := p1_m49
        have p2_m49 : zOw (m49 99) (m 103) (m49 111) := p2_m49
        have p3_m49 : zDX (m 94 10) (m49 99) (m 112) (m49 113) (m49 114) (m49 94 55) (m 98) (m 101) (m 102) (m 108) := p3_m49
        have p4_m49 : zGG (m49 94 58) (m49 94 56) (m47 94 57) (m49 106) := p4_m49
        have p5_m49 : (m49 94 58).toInt = 0 ∨ ((m49 94 58).toInt = 1 ∧ (m47 94 57).toInt < (m49 94 56).toInt ∧ (m47 94 57).toInt = (m47 94 57).toInt) := p5_m49
        have p6_m49 : zUs (m 99) (m49 99) := p6_m49
        have f43 : 0 ≤ (m49 94 58).toInt ∧ (m49 94 58).toInt ≤ 1 := rs_94_58 (m := (zov wr_223 (zov wr_222 m m47) m49)) hV_m49
        have f44 : 0 ≤ (m49 94 56).toInt ∧ (m49 94 56).toInt ≤ 3100 := rs_94_56 (m := (zov wr_223 (zov wr_222 m m47) m49)) hV_m49
        have b45 := i_bd n
        refine sp_224 (n) hV_m49  (fun v52 m51 hV_m51 p0_m51 => zmi_n ?_)
        have p0_m51 : -1 ≤ v52.toInt ∧ v52.toInt ≤ 1500 := p0_m51
        have b46 := i_bd v52
        refine zd (fun (h47 : v52 < (0 : Int32)) => ?_) (fun (h47 : ¬ v52 < (0 : Int32)) => ?_)
        · skip
          have g48 := i_lt h47
          refine zd (fun (h49 : (m49 94 58) = (0 : Int32)) => ?_) (fun (h49 : ¬ (m49 94 58) = (0 : Int32)) => ?_)
          · skip
            have g50 := i_eq h49
            refine sp_229uw  hV_m51 r_W p0_m49 p1_m49 p2_m49 p3_m49 (show (m 94 10).toInt = 5 from by omega) (fun v62 m61 hV_m61 p0_m61 p1_m61 p2_m61 p3_m61 p4_m61 p5_m61 p6_m61 => zmi_n ?_)
            have p0_m61 : zGW T (m61 94 55) (m61 109) := p0_m61
            have p1_m61 : zGU T (m 94 46) (m61 99) := p1_m61
            have p2_m61 : zOw (m61 99) (m 103) (m61 111) := p2_m61
            have p3_m61 : zDX (m 94 10) (m61 99) (m 112) (m61 113) (m61 114) (m61 94 55) (m 98) (m 101) (m 102) (m 108) := p3_m61
            have p4_m61 : zGG (m61 94 58) (m61 94 56) (m61 94 57) (m61 106) := p4_m61
            have p5_m61 : (m61 94 58).toInt = 0 := p5_m61
            have p6_m61 : zUs (m49 99) (m61 99) := p6_m61
            have f51 : 0 ≤ (m61 94 58).toInt ∧ (m61 94 58).toInt ≤ 1 := rs_94_58 (m := (zov wr_229 (zov wr_224 (zov wr_223 (zov wr_222 m m47) m49) m51) m61)) hV_m61
            refine sp_224 (n) hV_m61  (fun v64 m63 hV_m63 p0_m63 => zmi_n ?_)
            have p0_m63 : -1 ≤ v64.toInt ∧ v64.toInt ≤ 1500 := p0_m63
            have b52 := i_bd v64
            refine zd (fun (h53 : (0 : Int32) ≤ v64) => ?_) (fun (h53 : ¬ (0 : Int32) ≤ v64) => ?_)
            · skip
              have g54 := i_le h53
              exact K (v64) _ (zF_zov (zF_zov (zF_zov (zF_zov (zF_zov zF_rfl ws_222_217) ws_223_217) ws_224_217) ws_229_217) ws_224_217) hV_m63 p0_m61 p1_m61 p2_m61 p3_m61 p4_m61 (show -1 ≤ v64.toInt ∧ v64.toInt ≤ 1500 from by omega) (show zUs (m 99) (m61 99) from by first | (exact (Us_tr (Us_tr Us_rfl p6_m49) p6_m61)) | (exact Us_w0 (Us_tr (Us_tr Us_rfl p6_m49) p6_m61)) | (exact Us_rfl) | (exfalso; omega; done) | (exfalso; contradiction; done))
            · skip
              have g55 := i_nle h53
              exact K (v64) _ (zF_zov (zF_zov (zF_zov (zF_zov (zF_zov zF_rfl ws_222_217) ws_223_217) ws_224_217) ws_229_217) ws_224_217) hV_m63 p0_m61 p1_m61 p2_m61 p3_m61 p4_m61 (show -1 ≤ v64.toInt ∧ v64.toInt ≤ 1500 from by omega) (show zUs (m 99) (m61 99) from by first | (exact (Us_tr (Us_tr Us_rfl p6_m49) p6_m61)) | (exact Us_w0 (Us_tr (Us_tr Us_rfl p6_m49) p6_m61)) | (exact Us_rfl) | (exfalso; omega; done) | (exfalso; contradiction; done))
          · skip
            have g56 := i_ne h49
            refine sp_230uw  hV_m51 r_W p0_m49 p1_m49 p2_m49 p3_m49 p4_m49 (show (m 94 10).toInt = 5 from by omega) (fun v54 m53 hV_m53 p0_m53 p1_m53 p2_m53 p3_m53 p4_m53 p5_m53 p6_m53 => zmi_n ?_)
            have p0_m53 : zGW T (m53 94 55) (m53 109) := p0_m53
            have p1_m53 : zGU T (m 94 46) (m53 99) := p1_m53
            have p2_m53 : zOw (m53 99) (m 103) (m53 111) := p2_m53
            have p3_m53 : zDX (m 94 10) (m53 99) (m 112) (m53 113) (m53 114) (m53 94 55) (m 98) (m 101) (m 102) (m 108) := p3_m53
            have p4_m53 : zGG (m53 94 58) (m53 94 56) (m53 94 57) (m53 106) := p4_m53
            have p5_m53 : (m53 94 58).toInt = 0 := p5_m53
            have p6_m53 : zUs (m49 99) (m53 99) := p6_m53
            have f57 : 0 ≤ (m53 94 58).toInt ∧ (m53 94 58).toInt ≤ 1 := rs_94_58 (m := (zov wr_230 (zov wr_224 (zov wr_223 (zov wr_222 m m47) m49) m51) m53)) hV_m53
            refine sp_224 (n) hV_m53  (fun v56 m55 hV_m55 p0_m55 => zmi_n ?_)
            have p0_m55 : -1 ≤ v56.toInt ∧ v56.toInt ≤ 1500 := p0_m55
            have b58 := i_bd v56
            refine zd (fun (h59 : (0 : Int32) ≤ v56) => ?_) (fun (h59 : ¬ (0 : Int32) ≤ v56) => ?_)
            · skip
              have g60 := i_le h59
              exact K (v56) _ (zF_zov (zF_zov (zF_zov (zF_zov (zF_zov zF_rfl ws_222_217) ws_223_217) ws_224_217) ws_230_217) ws_224_217) hV_m55 p0_m53 p1_m53 p2_m53 p3_m53 p4_m53 (show -1 ≤ v56.toInt ∧ v56.toInt ≤ 1500 from by omega) (show zUs (m 99) (m53 99) from by first | (exact (Us_tr (Us_tr Us_rfl p6_m49) p6_m53)) | (exact Us_w0 (Us_tr (Us_tr Us_rfl p6_m49) p6_m53)) | (exact Us_rfl) | (exfalso; omega; done) | (exfalso; contradiction; done))
            · skip
              have g61 := i_nle h59
              refine sp_229uw  hV_m55 r_W p0_m53 p1_m53 p2_m53 p3_m53 (show (m 94 10).toInt = 5 from by omega) (fun v58 m57 hV_m57 p0_m57 p1_m57 p2_m57 p3_m57 p4_m57 p5_m57 p6_m57 => zmi_n ?_)
              have p0_m57 : zGW T (m57 94 55) (m57 109) := p0_m57
              have p1_m57 : zGU T (m 94 46) (m57 99) := p1_m57
              have p2_m57 : zOw (m57 99) (m 103) (m57 111) := p2_m57
              have p3_m57 : zDX (m 94 10) (m57 99) (m 112) (m57 113) (m57 114) (m57 94 55) (m 98) (m 101) (m 102) (m 108) := p3_m57
              have p4_m57 : zGG (m57 94 58) (m57 94 56) (m57 94 57) (m57 106) := p4_m57
              have p5_m57 : (m57 94 58).toInt = 0 := p5_m57
              have p6_m57 : zUs (m53 99) (m57 99) := p6_m57
              have f62 : 0 ≤ (m57 94 58).toInt ∧ (m57 94 58).toInt ≤ 1 := rs_94_58 (m := (zov wr_229 (zov wr_224 (zov wr_230 (zov wr_224 (zov wr_223 (zov wr_222 m m47) m49) m51) m53) m55) m57)) hV_m57
              refine sp_224 (n) hV_m57  (fun v60 m59 hV_m59 p0_m59 => zmi_n ?_)
              have p0_m59 : -1 ≤ v60.toInt ∧ v60.toInt ≤ 1500 := p0_m59
              have b63 := i_bd v60
              exact K (v60) _ (zF_zov (zF_zov (zF_zov (zF_zov (zF_zov (zF_zov (zF_zov zF_rfl ws_222_217) ws_223_217) ws_224_217) ws_230_217) ws_224_217) ws_229_217) ws_224_217) hV_m59 p0_m57 p1_m57 p2_m57 p3_m57 p4_m57 (show -1 ≤ v60.toInt ∧ v60.toInt ≤ 1500 from by omega) (show zUs (m 99) (m57 99) from by first | (exact (Us_tr (Us_tr (Us_tr Us_rfl p6_m49) p6_m53) p6_m57)) | (exact Us_w0 (Us_tr (Us_tr (Us_tr Us_rfl p6_m49) p6_m53) p6_m57)) | (exact Us_rfl) | (exfalso; omega; done) | (exfalso; contradiction; done))
        · skip
          have g64 := i_nlt h47
          exact K (v52) _ (zF_zov (zF_zov (zF_zov zF_rfl ws_222_217) ws_223_217) ws_224_217) hV_m51 p0_m49 p1_m49 p2_m49 p3_m49 p4_m49 (show -1 ≤ v52.toInt ∧ v52.toInt ≤ 1500 from by omega) p6_m49
    · skip
      have g65 := i_nle h13
      refine sp_219  hV  (fun m65 hV_m65 p0_m65 p1_m65 => zmv_n ?_)
      have p0_m65 : zG1 (m65 94 56) (m65 94 57) (m65 106) := p0_m65
      have p1_m65 : (m65 94 58).toInt = 1 := p1_m65
      have f66 : 0 ≤ (m65 94 58).toInt ∧ (m65 94 58).toInt ≤ 1 := rs_94_58 (m := (zov wr_219 m m65)) hV_m65
      refine zd (fun (h67 : (m65 94 58) = (0 : Int32)) => ?_) (fun (h67 : ¬ (m65 94 58) = (0 : Int32)) => ?_)
      · skip
        have g68 := i_eq h67
        have b69 := i_bd n
        refine sp_224 (n) hV_m65  (fun v68 m67 hV_m67 p0_m67 => zmi_n ?_)
        have p0_m67 : -1 ≤ v68.toInt ∧ v68.toInt ≤ 1500 := p0_m67
        have b70 := i_bd v68
        refine zd (fun (h71 : v68 < (0 : Int32)) => ?_) (fun (h71 : ¬ v68 < (0 : Int32)) => ?_)
        · skip
          have g72 := i_lt h71
          refine zd (fun (h73 : (m65 94 58) = (0 : Int32)) => ?_) (fun (h73 : ¬ (m65 94 58) = (0 : Int32)) => ?_)
          · skip
            have g74 := i_eq h73
            refine sp_229uw  hV_m67 r_W r_GW r_GU r_OW r_DX (show (m 94 10).toInt = 5 from by omega) (fun v78 m77 hV_m77 p0_m77 p1_m77 p2_m77 p3_m77 p4_m77 p5_m77 p6_m77 => zmi_n ?_)
            have p0_m77 : zGW T (m77 94 55) (m77 109) := p0_m77
            have p1_m77 : zGU T (m 94 46) (m77 99) := p1_m77
            have p2_m77 : zOw (m77 99) (m 103) (m77 111) := p2_m77
            have p3_m77 : zDX (m 94 10) (m77 99) (m 112) (m77 113) (m77 114) (m77 94 55) (m 98) (m 101) (m 102) (m 108) := p3_m77
            have p4_m77 : zGG (m77 94 58) (m77 94 56) (m77 94 57) (m77 106) := p4_m77
            have p5_m77 : (m77 94 58).toInt = 0 := p5_m77
            have p6_m77 : zUs (m 99) (m77 99) := p6_m77
            have f75 : 0 ≤ (m77 94 58).toInt ∧ (m77 94 58).toInt ≤ 1 := rs_94_58 (m := (zov wr_229 (zov wr_224 (zov wr_219 m m65) m67) m77)) hV_m77
            refine sp_224 (n) hV_m77  (fun v80 m79 hV_m79 p0_m79 => zmi_n ?_)
            have p0_m79 : -1 ≤ v80.toInt ∧ v80.toInt ≤ 1500 := p0_m79
            have b76 := i_bd v80
            refine zd (fun (h77 : (0 : Int32) ≤ v80) => ?_) (fun (h77 : ¬ (0 : Int32) ≤ v80) => ?_)
            · skip
              have g78 := i_le h77
              exact K (v80) _ (zF_zov (zF_zov (zF_zov (zF_zov zF_rfl ws_219_217) ws_224_217) ws_229_217) ws_224_217) hV_m79 p0_m77 p1_m77 p2_m77 p3_m77 p4_m77 (show -1 ≤ v80.toInt ∧ v80.toInt ≤ 1500 from by omega) p6_m77
            · skip
              have g79 := i_nle h77
              exact K (v80) _ (zF_zov (zF_zov (zF_zov (zF_zov zF_rfl ws_219_217) ws_224_217) ws_229_217) ws_224_217) hV_m79 p0_m77 p1_m77 p2_m77 p3_m77 p4_m77 (show -1 ≤ v80.toInt ∧ v80.toInt ≤ 1500 from by omega) p6_m77
          · skip
            have g80 := i_ne h73
            refine sp_230uw  hV_m67 r_W r_GW r_GU r_OW r_DX (show zGG (m65 94 58) (m65 94 56) (m65 94 57) (m65 106) from by first | (exact fun _ => p0_m65) | (exact fun z => absurd z (by decide)) | (exact fun z => absurd z (by omega)) | (exfalso; omega; done) | (exfalso; contradiction; done)) (show (m 94 10).toInt = 5 from by omega) (fun v70 m69 hV_m69 p0_m69 p1_m69 p2_m69 p3_m69 p4_m69 p5_m69 p6_m69 => zmi_n ?_)
            have p0_m69 : zGW T (m69 94 55) (m69 109) := p0_m69
            have p1_m69 : zGU T (m 94 46) (m69 99) := p1_m69
            have p2_m69 : zOw (m69 99) (m 103) (m69 111) := p2_m69
            have p3_m69 : zDX (m 94 10) (m69 99) (m 112) (m69 113) (m69 114) (m69 94 55) (m 98) (m 101) (m 102) (m 108) := p3_m69
            have p4_m69 : zGG (m69 94 58) (m69 94 56) (m69 94 57) (m69 106) := p4_m69
            have p5_m69 : (m69 94 58).toInt = 0 := p5_m69
            have p6_m69 : zUs (m 99) (m69 99) := p6_m69
            have f81 : 0 ≤ (m69 94 58).toInt ∧ (m69 94 58).toInt ≤ 1 := rs_94_58 (m := (zov wr_230 (zov wr_224 (zov wr_219 m m65) m67) m69)) hV_m69
            refine sp_224 (n) hV_m69  (fun v72 m71 hV_m71 p0_m71 => zmi_n ?_)
            have p0_m71 : -1 ≤ v72.toInt ∧ v72.toInt ≤ 1500 := p0_m71
            have b82 := i_bd v72
            refine zd (fun (h83 : (0 : Int32) ≤ v72) => ?_) (fun (h83 : ¬ (0 : Int32) ≤ v72) => ?_)
            · skip
              have g84 := i_le h83
              exact K (v72) _ (zF_zov (zF_zov (zF_zov (zF_zov zF_rfl ws_219_217) ws_224_217) ws_230_217) ws_224_217) hV_m71 p0_m69 p1_m69 p2_m69 p3_m69 p4_m69 (show -1 ≤ v72.toInt ∧ v72.toInt ≤ 1500 from by omega) p6_m69
            · skip
              have g85 := i_nle h83
              refine sp_229uw  hV_m71 r_W p0_m69 p1_m69 p2_m69 p3_m69 (show (m 94 10).toInt = 5 from by omega) (fun v74 m73 hV_m73 p0_m73 p1_m73 p2_m73 p3_m73 p4_m73 p5_m73 p6_m73 => zmi_n ?_)
              have p0_m73 : zGW T (m73 94 55) (m73 109) := p0_m73
              have p1_m73 : zGU T (m 94 46) (m73 99) := p1_m73
              have p2_m73 : zOw (m73 99) (m 103) (m73 111) := p2_m73
              have p3_m73 : zDX (m 94 10) (m73 99) (m 112) (m73 113) (m73 114) (m73 94 55) (m 98) (m 101) (m 102) (m 108) := p3_m73
              have p4_m73 : zGG (m73 94 58) (m73 94 56) (m73 94 57) (m73 106) := p4_m73
              have p5_m73 : (m73 94 58).toInt = 0 := p5_m73
              have p6_m73 : zUs (m69 99) (m73 99) := p6_m73
              have f86 : 0 ≤ (m73 94 58).toInt ∧ (m73 94 58).toInt ≤ 1 := rs_94_58 (m := (zov wr_229 (zov wr_224 (zov wr_230 (zov wr_224 (zov wr_219 m m65) m67) m69) m71) m73)) hV_m73
              refine sp_224 (n) hV_m73  (fun v76 m75 hV_m75 p0_m75 => zmi_n ?_)
              have p0_m75 : -1 ≤ v76.toInt ∧ v76.toInt ≤ 1500 := p0_m75
              have b87 := i_bd v76
              exact K (v76) _ (zF_zov (zF_zov (zF_zov (zF_zov (zF_zov (zF_zov zF_rfl ws_219_217) ws_224_217) ws_230_217) ws_224_217) ws_229_217) ws_224_217) hV_m75 p0_m73 p1_m73 p2_m73 p3_m73 p4_m73 (show -1 ≤ v76.toInt ∧ v76.toInt ≤ 1500 from by omega) (show zUs (m 99) (m73 99) from by first | (exact (Us_tr (Us_tr Us_rfl p6_m69) p6_m73)) | (exact Us_w0 (Us_tr (Us_tr Us_rfl p6_m69) p6_m73)) | (exact Us_rfl) | (exfalso; omega; done) | (exfalso; contradiction; done))
        · skip
          have g88 := i_nlt h71
          exact K (v68) _ (zF_zov (zF_zov zF_rfl ws_219_217) ws_224_217) hV_m67 r_GW r_GU r_OW r_DX (show zGG (m65 94 58) (m65 94 56) (m65 94 57) (m65 106) from by first | (exact fun _ => p0_m65) | (exact fun z => absurd z (by decide)) | (exact fun z => absurd z (by omega)) | (exfalso; omega; done) | (exfalso; contradiction; done)) (show -1 ≤ v68.toInt ∧ v68.toInt ≤ 1500 from by omega) (show zUs (m 99) (m 99) from by first | (exact Us_rfl) | (exact Us_w0 Us_rfl) | (exact Us_rfl) | (exfalso; omega; done) | (exfalso; contradiction; done))
      · skip
        have g89 := i_ne h67
        have b90 := i_bd (m 94 17)
        refine sp_222 ((m 94 17)) hV_m65 r_W p0_m65 (fun v82 m81 hV_m81 p0_m81 p1_m81 p2_m81 => zmi_n ?_)
        have p0_m81 : zG1 (m81 94 56) (m81 94 57) (m81 106) := p0_m81
        have p1_m81 : (m65 94 56).toInt ≤ (m81 94 56).toInt := p1_m81
        have p2_m81 : (m65 94 57).toInt ≤ (m81 94 57).toInt ∧ ((m81 94 56).toInt ≤ (m81 94 57).toInt ∨ (m65 94 57).toInt + (m 94 17).toInt ≤ (m81 94 57).toInt) := p2_m81
        have f91 : 0 ≤ (m65 94 56).toInt ∧ (m65 94 56).toInt ≤ 3100 := rs_94_56 (m := (zov wr_219 m m65)) hV_m65
        have f92 : 0 ≤ (m81 94 56).toInt ∧ (m81 94 56).toInt ≤ 3100 := rs_94_56 (m := (zov wr_222 (zov wr_219 m m65) m81)) hV_m81
        have f93 : 0 ≤ (m65 94 57).toInt ∧ (m65 94 57).toInt ≤ 3100 := rs_94_57 (m := (zov wr_219 m m65)) hV_m65
        have f94 : 0 ≤ (m81 94 57).toInt ∧ (m81 94 57).toInt ≤ 3100 := rs_94_57 (m := (zov wr_222 (zov wr_219 m m65) m81)) hV_m81
        refine sp_223uw  hV_m81 r_W r_GW r_GU r_OW r_DX p0_m81 (show (m 94 10).toInt = 5 from by omega) (show (m65 94 58).toInt = 1 from by omega) (fun v84 m83 hV_m83 p0_m83 p1_m83 p2_m83 p3_m83 p4_m83 p5_m83 p6_m83 => zmi_n ?_)
        have p0_m83 : zGW T (m83 94 55) (m83 109) := p0_m83
        have p1_m83 : zGU T (m 94 46) (m83 99) := p1_m83
        have p2_m83 : zOw (m83 99) (m 103) (m83 111) := p2_m83
        have p3_m83 : zDX (m 94 10) (m83 99) (m 112) (m83 113) (m83 114) (m83 94 55) (m 98) (m 101) (m 102) (m 108) := p3_m83
        have p4_m83 : zGG (m83 94 58) (m83 94 56) (m81 94 57) (m83 106) := p4_m83
        have p5_m83 : (m83 94 58).toInt = 0 ∨ ((m83 94 58).toInt = 1 ∧ (m81 94 57).toInt < (m83 94 56).toInt ∧ (m81 94 57).toInt = (m81 94 57).toInt) := p5_m83
        have p6_m83 : zUs (m 99) (m83 99) := p6_m83
        have f95 : 0 ≤ (m83 94 58).toInt ∧ (m83 94 58).toInt ≤ 1 := rs_94_58 (m := (zov wr_223 (zov wr_222 (zov wr_219 m m65) m81) m83)) hV_m83
        have f96 : 0 ≤ (m83 94 56).toInt ∧ (m83 94 56).toInt ≤ 3100 := rs_94_56 (m := (zov wr_223 (zov wr_222 (zov wr_219 m m65) m81) m83)) hV_m83
        have b97 := i_bd n
        refine sp_224 (n) hV_m83  (fun v86 m85 hV_m85 p0_m85 => zmi_n ?_)
        have p0_m85 : -1 ≤ v86.toInt ∧ v86.toInt ≤ 1500 := p0_m85
        have b98 := i_bd v86
        refine zd (fun (h99 : v86 < (0 : Int32)) => ?_) (fun (h99 : ¬ v86 < (0 : Int32)) => ?_)
        · skip
          have g100 := i_lt h99
          refine zd (fun (h101 : (m83 94 58) = (0 : Int32)) => ?_) (fun (h101 : ¬ (m83 94 58) = (0 : Int32)) => ?_)
          · skip
            have g102 := i_eq h101
            refine sp_229uw  hV_m85 r_W p0_m83 p1_m83 p2_m83 p3_m83 (show (m 94 10).toInt = 5 from by omega) (fun v96 m95 hV_m95 p0_m95 p1_m95 p2_m95 p3_m95 p4_m95 p5_m95 p6_m95 => zmi_n ?_)
            have p0_m95 : zGW T (m95 94 55) (m95 109) := p0_m95
            have p1_m95 : zGU T (m 94 46) (m95 99) := p1_m95
            have p2_m95 : zOw (m95 99) (m 103) (m95 111) := p2_m95
            have p3_m95 : zDX (m 94 10) (m95 99) (m 112) (m95 113) (m95 114) (m95 94 55) (m 98) (m 101) (m 102) (m 108) := p3_m95
            have p4_m95 : zGG (m95 94 58) (m95 94 56) (m95 94 57) (m95 106) := p4_m95
            have p5_m95 : (m95 94 58).toInt = 0 := p5_m95
            have p6_m95 : zUs (m83 99) (m95 99) := p6_m95
            have f103 : 0 ≤ (m95 94 58).toInt ∧ (m95 94 58).toInt ≤ 1 := rs_94_58 (m := (zov wr_229 (zov wr_224 (zov wr_223 (zov wr_222 (zov wr_219 m m65) m81) m83) m85) m95)) hV_m95
            refine sp_224 (n) hV_m95  (fun v98 m97 hV_m97 p0_m97 => zmi_n ?_)
            have p0_m97 : -1 ≤ v98.toInt ∧ v98.toInt ≤ 1500 := p0_m97
            have b104 := i_bd v98
            refine zd (fun (h105 : (0 : Int32) ≤ v98) => ?_) (fun (h105 : ¬ (0 : Int32) ≤ v98) => ?_)
            · skip
              have g106 := i_le h105
              exact K (v98) _ (zF_zov (zF_zov (zF_zov (zF_zov (zF_zov (zF_zov zF_rfl ws_219_217) ws_222_217) ws_223_217) ws_224_217) ws_229_217) ws_224_217) hV_m97 p0_m95 p1_m95 p2_m95 p3_m95 p4_m95 (show -1 ≤ v98.toInt ∧ v98.toInt ≤ 1500 from by omega) (show zUs (m 99) (m95 99) from by first | (exact (Us_tr (Us_tr Us_rfl p6_m83) p6_m95)) | (exact Us_w0 (Us_tr (Us_tr Us_rfl p6_m83) p6_m95)) | (exact Us_rfl) | (exfalso; omega; done) | (exfalso; contradiction; done))
            · skip
              have g107 := i_nle h105
              exact K (v98) _ (zF_zov (zF_zov (zF_zov (zF_zov (zF_zov (zF_zov zF_rfl ws_219_217) ws_222_217) ws_223_217) ws_224_217) ws_229_217) ws_224_217) hV_m97 p0_m95 p1_m95 p2_m95 p3_m95 p4_m95 (show -1 ≤ v98.toInt ∧ v98.toInt ≤ 1500 from by omega) (show zUs (m 99) (m95 99) from by first | (exact (Us_tr (Us_tr Us_rfl p6_m83) p6_m95)) | (exact Us_w0 (Us_tr (Us_tr Us_rfl p6_m83) p6_m95)) | (exact Us_rfl) | (exfalso; omega; done) | (exfalso; contradiction; done))
          · skip
            have g108 := i_ne h101
            refine sp_230uw  hV_m85 r_W p0_m83 p1_m83 p2_m83 p3_m83 p4_m83 (show (m 94 10).toInt = 5 from by omega) (fun v88 m87 hV_m87 p0_m87 p1_m87 p2_m87 p3_m87 p4_m87 p5_m87 p6_m87 => zmi_n ?_)
            have p0_m87 : zGW T (m87 94 55) (m87 109) := p0_m87
            have p1_m87 : zGU T (m 94 46) (m87 99) := p1_m87
            have p2_m87 : zOw (m87 99) (m 103) (m87 111) := p2_m87
            have p3_m87 : zDX (m 94 10) (m87 99) (m 112) (m87 113) (m87 114) (m87 94 55) (m 98) (m 101) (m 102) (m 108) := p3_m87
            have p4_m87 : zGG (m87 94 58) (m87 94 56) (m87 94 57) (m87 106) := p4_m87
            have p5_m87 : (m87 94 58).toInt = 0 := p5_m87
            have p6_m87 : zUs (m83 99) (m87 99) := p6_m87
            have f109 : 0 ≤ (m87 94 58).toInt ∧ (m87 94 58).toInt ≤ 1 := rs_94_58 (m := (zov wr_230 (zov wr_224 (zov wr_223 (zov wr_222 (zov wr_219 m m65) m81) m83) m85) m87)) hV_m87
            refine sp_224 (n) hV_m87  (fun v90 m89 hV_m89 p0_m89 => zmi_n ?_)
            have p0_m89 : -1 ≤ v90.toInt ∧ v90.toInt ≤ 1500 := p0_m89
            have b110 := i_bd v90
            refine zd (fun (h111 : (0 : Int32) ≤ v90) => ?_) (fun (h111 : ¬ (0 : Int32) ≤ v90) => ?_)
            · skip
              have g112 := i_le h111
              exact K (v90) _ (zF_zov (zF_zov (zF_zov (zF_zov (zF_zov (zF_zov zF_rfl ws_219_217) ws_222_217) ws_223_217) ws_224_217) ws_230_217) ws_224_217) hV_m89 p0_m87 p1_m87 p2_m87 p3_m87 p4_m87 (show -1 ≤ v90.toInt ∧ v90.toInt ≤ 1500 from by omega) (show zUs (m 99) (m87 99) from by first | (exact (Us_tr (Us_tr Us_rfl p6_m83) p6_m87)) | (exact Us_w0 (Us_tr (Us_tr Us_rfl p6_m83) p6_m87)) | (exact Us_rfl) | (exfalso; omega; done) | (exfalso; contradiction; done))
            · skip
              have g113 := i_nle h111
              refine sp_229uw  hV_m89 r_W p0_m87 p1_m87 p2_m87 p3_m87 (show (m 94 10).toInt = 5 from by omega) (fun v92 m91 hV_m91 p0_m91 p1_m91 p2_m91 p3_m91 p4_m91 p5_m91 p6_m91 => zmi_n ?_)
              have p0_m91 : zGW T (m91 94 55) (m91 109) := p0_m91
              have p1_m91 : zGU T (m 94 46) (m91 99) := p1_m91
              have p2_m91 : zOw (m91 99) (m 103) (m91 111) := p2_m91
              have p3_m91 : zDX (m 94 10) (m91 99) (m 112) (m91 113) (m91 114) (m91 94 55) (m 98) (m 101) (m 102) (m 108) := p3_m91
              have p4_m91 : zGG (m91 94 58) (m91 94 56) (m91 94 57) (m91 106) := p4_m91
              have p5_m91 : (m91 94 58).toInt = 0 := p5_m91
              have p6_m91 : zUs (m87 99) (m91 99) := p6_m91
              have f114 : 0 ≤ (m91 94 58).toInt ∧ (m91 94 58).toInt ≤ 1 := rs_94_58 (m := (zov wr_229 (zov wr_224 (zov wr_230 (zov wr_224 (zov wr_223 (zov wr_222 (zov wr_219 m m65) m81) m83) m85) m87) m89) m91)) hV_m91
              refine sp_224 (n) hV_m91  (fun v94 m93 hV_m93 p0_m93 => zmi_n ?_)
              have p0_m93 : -1 ≤ v94.toInt ∧ v94.toInt ≤ 1500 := p0_m93
              have b115 := i_bd v94
              exact K (v94) _ (zF_zov (zF_zov (zF_zov (zF_zov (zF_zov (zF_zov (zF_zov (zF_zov zF_rfl ws_219_217) ws_222_217) ws_223_217) ws_224_217) ws_230_217) ws_224_217) ws_229_217) ws_224_217) hV_m93 p0_m91 p1_m91 p2_m91 p3_m91 p4_m91 (show -1 ≤ v94.toInt ∧ v94.toInt ≤ 1500 from by omega) (show zUs (m 99) (m91 99) from by first | (exact (Us_tr (Us_tr (Us_tr Us_rfl p6_m83) p6_m87) p6_m91)) | (exact Us_w0 (Us_tr (Us_tr (Us_tr Us_rfl p6_m83) p6_m87) p6_m91)) | (exact Us_rfl) | (exfalso; omega; done) | (exfalso; contradiction; done))
        · skip
          have g116 := i_nlt h99
          exact K (v86) _ (zF_zov (zF_zov (zF_zov (zF_zov zF_rfl ws_219_217) ws_222_217) ws_223_217) ws_224_217) hV_m85 p0_m83 p1_m83 p2_m83 p3_m83 p4_m83 (show -1 ≤ v86.toInt ∧ v86.toInt ≤ 1500 from by omega) p6_m83
  · skip
    have g117 := i_ne h4
    refine zd (fun (h118 : (m 94 58) = (0 : Int32)) => ?_) (fun (h118 : ¬ (m 94 58) = (0 : Int32)) => ?_)
    · skip
      have g119 := i_eq h118
      have b120 := i_bd n
      refine sp_224 (n) hV  (fun v2 m1 hV_m1 p0_m1 => zmi_n ?_)
      have p0_m1 : -1 ≤ v2.toInt ∧ v2.toInt ≤ 1500 := p0_m1
      have b121 := i_bd v2
      refine zd (fun (h122 : v2 < (0 : Int32)) => ?_) (fun (h122 : ¬ v2 < (0 : Int32)) => ?_)
      · skip
        have g123 := i_lt h122
        refine zd (fun (h124 : (m 94 58) = (0 : Int32)) => ?_) (fun (h124 : ¬ (m 94 58) = (0 : Int32)) => ?_)
        · skip
          have g125 := i_eq h124
          refine sp_229uw  hV_m1 r_W r_GW r_GU r_OW r_DX (show (m 94 10).toInt = 5 from by omega) (fun v12 m11 hV_m11 p0_m11 p1_m11 p2_m11 p3_m11 p4_m11 p5_m11 p6_m11 => zmi_n ?_)
          have p0_m11 : zGW T (m11 94 55) (m11 109) := p0_m11
          have p1_m11 : zGU T (m 94 46) (m11 99) := p1_m11
          have p2_m11 : zOw (m11 99) (m 103) (m11 111) := p2_m11
          have p3_m11 : zDX (m 94 10) (m11 99) (m 112) (m11 113) (m11 114) (m11 94 55) (m 98) (m 101) (m 102) (m 108) := p3_m11
          have p4_m11 : zGG (m11 94 58) (m11 94 56) (m11 94 57) (m11 106) := p4_m11
          have p5_m11 : (m11 94 58).toInt = 0 := p5_m11
          have p6_m11 : zUs (m 99) (m11 99) := p6_m11
          have f126 : 0 ≤ (m11 94 58).toInt ∧ (m11 94 58).toInt ≤ 1 := rs_94_58 (m := (zov wr_229 (zov wr_224 m m1) m11)) hV_m11
          refine sp_224 (n) hV_m11  (fun v14 m13 hV_m13 p0_m13 => zmi_n ?_)
          have p0_m13 : -1 ≤ v14.toInt ∧ v14.toInt ≤ 1500 := p0_m13
          have b127 := i_bd v14
          refine zd (fun (h128 : (0 : Int32) ≤ v14) => ?_) (fun (h128 : ¬ (0 : Int32) ≤ v14) => ?_)
          · skip
            have g129 := i_le h128
            exact K (v14) _ (zF_zov (zF_zov (zF_zov zF_rfl ws_224_217) ws_229_217) ws_224_217) hV_m13 p0_m11 p1_m11 p2_m11 p3_m11 p4_m11 (show -1 ≤ v14.toInt ∧ v14.toInt ≤ 1500 from by omega) p6_m11
          · skip
            have g130 := i_nle h128
            exact K (v14) _ (zF_zov (zF_zov (zF_zov zF_rfl ws_224_217) ws_229_217) ws_224_217) hV_m13 p0_m11 p1_m11 p2_m11 p3_m11 p4_m11 (show -1 ≤ v14.toInt ∧ v14.toInt ≤ 1500 from by omega) p6_m11
        · skip
          have g131 := i_ne h124
          refine sp_230uw  hV_m1 r_W r_GW r_GU r_OW r_DX r_GG (show (m 94 10).toInt = 5 from by omega) (fun v4 m3 hV_m3 p0_m3 p1_m3 p2_m3 p3_m3 p4_m3 p5_m3 p6_m3 => zmi_n ?_)
          have p0_m3 : zGW T (m3 94 55) (m3 109) := p0_m3
          have p1_m3 : zGU T (m 94 46) (m3 99) := p1_m3
          have p2_m3 : zOw (m3 99) (m 103) (m3 111) := p2_m3
          have p3_m3 : zDX (m 94 10) (m3 99) (m 112) (m3 113) (m3 114) (m3 94 55) (m 98) (m 101) (m 102) (m 108) := p3_m3
          have p4_m3 : zGG (m3 94 58) (m3 94 56) (m3 94 57) (m3 106) := p4_m3
          have p5_m3 : (m3 94 58).toInt = 0 := p5_m3
          have p6_m3 : zUs (m 99) (m3 99) := p6_m3
          have f132 : 0 ≤ (m3 94 58).toInt ∧ (m3 94 58).toInt ≤ 1 := rs_94_58 (m := (zov wr_230 (zov wr_224 m m1) m3)) hV_m3
          refine sp_224 (n) hV_m3  (fun v6 m5 hV_m5 p0_m5 => zmi_n ?_)
          have p0_m5 : -1 ≤ v6.toInt ∧ v6.toInt ≤ 1500 := p0_m5
          have b133 := i_bd v6
          refine zd (fun (h134 : (0 : Int32) ≤ v6) => ?_) (fun (h134 : ¬ (0 : Int32) ≤ v6) => ?_)
          · skip
            have g135 := i_le h134
            exact K (v6) _ (zF_zov (zF_zov (zF_zov zF_rfl ws_224_217) ws_230_217) ws_224_217) hV_m5 p0_m3 p1_m3 p2_m3 p3_m3 p4_m3 (show -1 ≤ v6.toInt ∧ v6.toInt ≤ 1500 from by omega) p6_m3
          · skip
            have g136 := i_nle h134
            refine sp_229uw  hV_m5 r_W p0_m3 p1_m3 p2_m3 p3_m3 (show (m 94 10).toInt = 5 from by omega) (fun v8 m7 hV_m7 p0_m7 p1_m7 p2_m7 p3_m7 p4_m7 p5_m7 p6_m7 => zmi_n ?_)
            have p0_m7 : zGW T (m7 94 55) (m7 109) := p0_m7
            have p1_m7 : zGU T (m 94 46) (m7 99) := p1_m7
            have p2_m7 : zOw (m7 99) (m 103) (m7 111) := p2_m7
            have p3_m7 : zDX (m 94 10) (m7 99) (m 112) (m7 113) (m7 114) (m7 94 55) (m 98) (m 101) (m 102) (m 108) := p3_m7
            have p4_m7 : zGG (m7 94 58) (m7 94 56) (m7 94 57) (m7 106) := p4_m7
            have p5_m7 : (m7 94 58).toInt = 0 := p5_m7
            have p6_m7 : zUs (m3 99) (m7 99) := p6_m7
            have f137 : 0 ≤ (m7 94 58).toInt ∧ (m7 94 58).toInt ≤ 1 := rs_94_58 (m := (zov wr_229 (zov wr_224 (zov wr_230 (zov wr_224 m m1) m3) m5) m7)) hV_m7
            refine sp_224 (n) hV_m7  (fun v10 m9 hV_m9 p0_m9 => zmi_n ?_)
            have p0_m9 : -1 ≤ v10.toInt ∧ v10.toInt ≤ 1500 := p0_m9
            have b138 := i_bd v10
            exact K (v10) _ (zF_zov (zF_zov (zF_zov (zF_zov (zF_zov zF_rfl ws_224_217) ws_230_217) ws_224_217) ws_229_217) ws_224_217) hV_m9 p0_m7 p1_m7 p2_m7 p3_m7 p4_m7 (show -1 ≤ v10.toInt ∧ v10.toInt ≤ 1500 from by omega) (show zUs (m 99) (m7 99) from by first | (exact (Us_tr (Us_tr Us_rfl p6_m3) p6_m7)) | (exact Us_w0 (Us_tr (Us_tr Us_rfl p6_m3) p6_m7)) | (exact Us_rfl) | (exfalso; omega; done) | (exfalso; contradiction; done))
      · skip
        have g139 := i_nlt h122
        exact K (v2) _ (zF_zov zF_rfl ws_224_217) hV_m1 r_GW r_GU r_OW r_DX r_GG (show -1 ≤ v2.toInt ∧ v2.toInt ≤ 1500 from by omega) (show zUs (m 99) (m 99) from by first | (exact Us_rfl) | (exact Us_w0 Us_rfl) | (exact Us_rfl) | (exfalso; omega; done) | (exfalso; contradiction; done))
    · skip
      have g140 := i_ne h118
      have b141 := i_bd (m 94 17)
      refine sp_222 ((m 94 17)) hV r_W (show zG1 (m 94 56) (m 94 57) (m 106) from by first | (exact G1_0 (by omega) (by omega)) | (exact r_GG (by omega)) | (exfalso; omega; done) | (exfalso; contradiction; done)) (fun v16 m15 hV_m15 p0_m15 p1_m15 p2_m15 => zmi_n ?_)
      have p0_m15 : zG1 (m15 94 56) (m15 94 57) (m15 106) := p0_m15
      have p1_m15 : (m 94 56).toInt ≤ (m15 94 56).toInt := p1_m15
      have p2_m15 : (m 94 57).toInt ≤ (m15 94 57).toInt ∧ ((m15 94 56).toInt ≤ (m15 94 57).toInt ∨ (m 94 57).toInt + (m 94 17).toInt ≤ (m15 94 57).toInt) := p2_m15
      have f142 : 0 ≤ (m 94 56).toInt ∧ (m 94 56).toInt ≤ 3100 := rs_94_56 (m := m) hV
      have f143 : 0 ≤ (m15 94 56).toInt ∧ (m15 94 56).toInt ≤ 3100 := rs_94_56 (m := (zov wr_222 m m15)) hV_m15
      have f144 : 0 ≤ (m 94 57).toInt ∧ (m 94 57).toInt ≤ 3100 := rs_94_57 (m := m) hV
      have f145 : 0 ≤ (m15 94 57).toInt ∧ (m15 94 57).toInt ≤ 3100 := rs_94_57 (m := (zov wr_222 m m15)) hV_m15
      refine sp_223uw  hV_m15 r_W r_GW r_GU r_OW r_DX p0_m15 (show (m 94 10).toInt = 5 from by omega) (show (m 94 58).toInt = 1 from by omega) (fun v18 m17 hV_m17 p0_m17 p1_m17 p2_m17 p3_m17 p4_m17 p5_m17 p6_m17 => zmi_n ?_)
      have p0_m17 : zGW T (m17 94 55) (m17 109) := p0_m17
      have p1_m17 : zGU T (m 94 46) (m17 99) := p1_m17
      have p2_m17 : zOw (m17 99) (m 103) (m17 111) := p2_m17
      have p3_m17 : zDX (m 94 10) (m17 99) (m 112) (m17 113) (m17 114) (m17 94 55) (m 98) (m 101) (m 102) (m 108) := p3_m17
      have p4_m17 : zGG (m17 94 58) (m17 94 56) (m15 94 57) (m17 106) := p4_m17
      have p5_m17 : (m17 94 58).toInt = 0 ∨ ((m17 94 58).toInt = 1 ∧ (m15 94 57).toInt < (m17 94 56).toInt ∧ (m15 94 57).toInt = (m15 94 57).toInt) := p5_m17
      have p6_m17 : zUs (m 99) (m17 99) := p6_m17
      have f146 : 0 ≤ (m17 94 58).toInt ∧ (m17 94 58).toInt ≤ 1 := rs_94_58 (m := (zov wr_223 (zov wr_222 m m15) m17)) hV_m17
      have f147 : 0 ≤ (m17 94 56).toInt ∧ (m17 94 56).toInt ≤ 3100 := rs_94_56 (m := (zov wr_223 (zov wr_222 m m15) m17)) hV_m17
      have b148 := i_bd n
      refine sp_224 (n) hV_m17  (fun v20 m19 hV_m19 p0_m19 => zmi_n ?_)
      have p0_m19 : -1 ≤ v20.toInt ∧ v20.toInt ≤ 1500 := p0_m19
      have b149 := i_bd v20
      refine zd (fun (h150 : v20 < (0 : Int32)) => ?_) (fun (h150 : ¬ v20 < (0 : Int32)) => ?_)
      · skip
        have g151 := i_lt h150
        refine zd (fun (h152 : (m17 94 58) = (0 : Int32)) => ?_) (fun (h152 : ¬ (m17 94 58) = (0 : Int32)) => ?_)
        · skip
          have g153 := i_eq h152
          refine sp_229uw  hV_m19 r_W p0_m17 p1_m17 p2_m17 p3_m17 (show (m 94 10).toInt = 5 from by omega) (fun v30 m29 hV_m29 p0_m29 p1_m29 p2_m29 p3_m29 p4_m29 p5_m29 p6_m29 => zmi_n ?_)
          have p0_m29 : zGW T (m29 94 55) (m29 109) := p0_m29
          have p1_m29 : zGU T (m 94 46) (m29 99) := p1_m29
          have p2_m29 : zOw (m29 99) (m 103) (m29 111) := p2_m29
          have p3_m29 : zDX (m 94 10) (m29 99) (m 112) (m29 113) (m29 114) (m29 94 55) (m 98) (m 101) (m 102) (m 108) := p3_m29
          have p4_m29 : zGG (m29 94 58) (m29 94 56) (m29 94 57) (m29 106) := p4_m29
          have p5_m29 : (m29 94 58).toInt = 0 := p5_m29
          have p6_m29 : zUs (m17 99) (m29 99) := p6_m29
          have f154 : 0 ≤ (m29 94 58).toInt ∧ (m29 94 58).toInt ≤ 1 := rs_94_58 (m := (zov wr_229 (zov wr_224 (zov wr_223 (zov wr_222 m m15) m17) m19) m29)) hV_m29
          refine sp_224 (n) hV_m29  (fun v32 m31 hV_m31 p0_m31 => zmi_n ?_)
          have p0_m31 : -1 ≤ v32.toInt ∧ v32.toInt ≤ 1500 := p0_m31
          have b155 := i_bd v32
          refine zd (fun (h156 : (0 : Int32) ≤ v32) => ?_) (fun (h156 : ¬ (0 : Int32) ≤ v32) => ?_)
          · skip
            have g157 := i_le h156
            exact K (v32) _ (zF_zov (zF_zov (zF_zov (zF_zov (zF_zov zF_rfl ws_222_217) ws_223_217) ws_224_217) ws_229_217) ws_224_217) hV_m31 p0_m29 p1_m29 p2_m29 p3_m29 p4_m29 (show -1 ≤ v32.toInt ∧ v32.toInt ≤ 1500 from by omega) (show zUs (m 99) (m29 99) from by first | (exact (Us_tr (Us_tr Us_rfl p6_m17) p6_m29)) | (exact Us_w0 (Us_tr (Us_tr Us_rfl p6_m17) p6_m29)) | (exact Us_rfl) | (exfalso; omega; done) | (exfalso; contradiction; done))
          · skip
            have g158 := i_nle h156
            exact K (v32) _ (zF_zov (zF_zov (zF_zov (zF_zov (zF_zov zF_rfl ws_222_217) ws_223_217) ws_224_217) ws_229_217) ws_224_217) hV_m31 p0_m29 p1_m29 p2_m29 p3_m29 p4_m29 (show -1 ≤ v32.toInt ∧ v32.toInt ≤ 1500 from by omega) (show zUs (m 99) (m29 99) from by first | (exact (Us_tr (Us_tr Us_rfl p6_m17) p6_m29)) | (exact Us_w0 (Us_tr (Us_tr Us_rfl p6_m17) p6_m29)) | (exact Us_rfl) | (exfalso; omega; done) | (exfalso; contradiction; done))
        · skip
          have g159 := i_ne h152
          refine sp_230uw  hV_m19 r_W p0_m17 p1_m17 p2_m17 p3_m17 p4_m17 (show (m 94 10).toInt = 5 from by omega) (fun v22 m21 hV_m21 p0_m21 p1_m21 p2_m21 p3_m21 p4_m21 p5_m21 p6_m21 => zmi_n ?_)
          have p0_m21 : zGW T (m21 94 55) (m21 109) := p0_m21
          have p1_m21 : zGU T (m 94 46) (m21 99) := p1_m21
          have p2_m21 : zOw (m21 99) (m 103) (m21 111) := p2_m21
          have p3_m21 : zDX (m 94 10) (m21 99) (m 112) (m21 113) (m21 114) (m21 94 55) (m 98) (m 101) (m 102) (m 108) := p3_m21
          have p4_m21 : zGG (m21 94 58) (m21 94 56) (m21 94 57) (m21 106) := p4_m21
          have p5_m21 : (m21 94 58).toInt = 0 := p5_m21
          have p6_m21 : zUs (m17 99) (m21 99) := p6_m21
          have f160 : 0 ≤ (m21 94 58).toInt ∧ (m21 94 58).toInt ≤ 1 := rs_94_58 (m := (zov wr_230 (zov wr_224 (zov wr_223 (zov wr_222 m m15) m17) m19) m21)) hV_m21
          refine sp_224 (n) hV_m21  (fun v24 m23 hV_m23 p0_m23 => zmi_n ?_)
          have p0_m23 : -1 ≤ v24.toInt ∧ v24.toInt ≤ 1500 := p0_m23
          have b161 := i_bd v24
          refine zd (fun (h162 : (0 : Int32) ≤ v24) => ?_) (fun (h162 : ¬ (0 : Int32) ≤ v24) => ?_)
          · skip
            have g163 := i_le h162
            exact K (v24) _ (zF_zov (zF_zov (zF_zov (zF_zov (zF_zov zF_rfl ws_222_217) ws_223_217) ws_224_217) ws_230_217) ws_224_217) hV_m23 p0_m21 p1_m21 p2_m21 p3_m21 p4_m21 (show -1 ≤ v24.toInt ∧ v24.toInt ≤ 1500 from by omega) (show zUs (m 99) (m21 99) from by first | (exact (Us_tr (Us_tr Us_rfl p6_m17) p6_m21)) | (exact Us_w0 (Us_tr (Us_tr Us_rfl p6_m17) p6_m21)) | (exact Us_rfl) | (exfalso; omega; done) | (exfalso; contradiction; done))
          · skip
            have g164 := i_nle h162
            refine sp_229uw  hV_m23 r_W p0_m21 p1_m21 p2_m21 p3_m21 (show (m 94 10).toInt = 5 from by omega) (fun v26 m25 hV_m25 p0_m25 p1_m25 p2_m25 p3_m25 p4_m25 p5_m25 p6_m25 => zmi_n ?_)
            have p0_m25 : zGW T (m25 94 55) (m25 109) := p0_m25
            have p1_m25 : zGU T (m 94 46) (m25 99) := p1_m25
            have p2_m25 : zOw (m25 99) (m 103) (m25 111) := p2_m25
            have p3_m25 : zDX (m 94 10) (m25 99) (m 112) (m25 113) (m25 114) (m25 94 55) (m 98) (m 101) (m 102) (m 108) := p3_m25
            have p4_m25 : zGG (m25 94 58) (m25 94 56) (m25 94 57) (m25 106) := p4_m25
            have p5_m25 : (m25 94 58).toInt = 0 := p5_m25
            have p6_m25 : zUs (m21 99) (m25 99) := p6_m25
            have f165 : 0 ≤ (m25 94 58).toInt ∧ (m25 94 58).toInt ≤ 1 := rs_94_58 (m := (zov wr_229 (zov wr_224 (zov wr_230 (zov wr_224 (zov wr_223 (zov wr_222 m m15) m17) m19) m21) m23) m25)) hV_m25
            refine sp_224 (n) hV_m25  (fun v28 m27 hV_m27 p0_m27 => zmi_n ?_)
            have p0_m27 : -1 ≤ v28.toInt ∧ v28.toInt ≤ 1500 := p0_m27
            have b166 := i_bd v28
            exact K (v28) _ (zF_zov (zF_zov (zF_zov (zF_zov (zF_zov (zF_zov (zF_zov zF_rfl ws_222_217) ws_223_217) ws_224_217) ws_230_217) ws_224_217) ws_229_217) ws_224_217) hV_m27 p0_m25 p1_m25 p2_m25 p3_m25 p4_m25 (show -1 ≤ v28.toInt ∧ v28.toInt ≤ 1500 from by omega) (show zUs (m 99) (m25 99) from by first | (exact (Us_tr (Us_tr (Us_tr Us_rfl p6_m17) p6_m21) p6_m25)) | (exact Us_w0 (Us_tr (Us_tr (Us_tr Us_rfl p6_m17) p6_m21) p6_m25)) | (exact Us_rfl) | (exfalso; omega; done) | (exfalso; contradiction; done))
      · skip
        have g167 := i_nlt h150
        exact K (v20) _ (zF_zov (zF_zov (zF_zov zF_rfl ws_222_217) ws_223_217) ws_224_217) hV_m19 p0_m17 p1_m17 p2_m17 p3_m17 p4_m17 (show -1 ≤ v20.toInt ∧ v20.toInt ≤ 1500 from by omega) p6_m17

