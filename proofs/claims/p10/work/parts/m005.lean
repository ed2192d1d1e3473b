/-! from 95.zu04 -/
/-! the reference: who is used, words (written by wip/tools/gen15u.py) -/
theorem sp_211uw {X : Nat × (Nat → Int32)} {P : Option ma_V → (Nat → Nat → Int32) → Prop} {T : Nat} {m : Nat → Nat → Int32}  (hV : zV m) (r_W : zW (m 94 7) (m 98) (m 101) (m 102) (m 108)) (r_GW : zGW T (m 94 55) (m 109)) (r_GU : zGU T (m 94 46) (m 99)) (r_OW : zOw (m 99) (m 103) (m 111)) (r_DX : zDX (m 94 10) (m 99) (m 112) (m 113) (m 114) (m 94 55) (m 98) (m 101) (m 102) (m 108)) (r_HA : zHA (m 94 10) (m 94 11) (m 94 13) (m 94 14) (m 94 16) (m 94 61) (m 94 59) (m 94 60) (m 99) (m 102) (m 103) (m 111) (m 117) (m 98) (m 101) (m 108)) (hpre6 : (m 94 10).toInt = 3) (KZ : ∀ v m₉, zV (zov wr_211 m m₉) → (zGW T (m₉ 94 55) (m₉ 109)) → (zGU T (m 94 46) (m₉ 99)) → (zOw (m₉ 99) (m₉ 103) (m₉ 111)) → (zDX (m 94 10) (m₉ 99) (m 112) (m₉ 113) (m₉ 114) (m₉ 94 55) (m 98) (m 101) (m 102) (m 108)) → (zHA (m 94 10) (m 94 11) (m 94 13) (m 94 14) (m 94 16) (m 94 61) (m 94 59) (m₉ 94 60) (m₉ 99) (m 102) (m₉ 103) (m₉ 111) (m₉ 117) (m 98) (m 101) (m 108)) → (zUs (m 99) (m₉ 99)) → P (some (.inl v)) (zov wr_211 m m₉)) : zm X 5 108 211 0 [(0, .inr (.inr (some 94)))] m P := by
  have K : ∀ v m₉, zF wr_211 m m₉ → zV m₉ → (zGW T (m₉ 94 55) (m₉ 109)) → (zGU T (m₉ 94 46) (m₉ 99)) → (zOw (m₉ 99) (m₉ 103) (m₉ 111)) → (zDX (m₉ 94 10) (m₉ 99) (m₉ 112) (m₉ 113) (m₉ 114) (m₉ 94 55) (m₉ 98) (m₉ 101) (m₉ 102) (m₉ 108)) → (zHA (m₉ 94 10) (m₉ 94 11) (m₉ 94 13) (m₉ 94 14) (m₉ 94 16) (m₉ 94 61) (m₉ 94 59) (m₉ 94 60) (m₉ 99) (m₉ 102) (m₉ 103) (m₉ 111) (m₉ 117) (m₉ 98) (m₉ 101) (m₉ 108)) → (zUs (m 99) (m₉ 99)) → P (some (.inl v)) m₉ := by
    intro v m₉ hf z q0 q1 q2 q3 q4 q5
    have e := zov_eq hf
    rw [e] at z ⊢
    try rw [e] at q0
    try rw [e] at q1
    try rw [e] at q2
    try rw [e] at q3
    try rw [e] at q4
    try rw [e] at q5
    exact KZ v m₉ z q0 q1 q2 q3 q4 q5
  refine g_211_0  ?_
  have f1 : 0 ≤ (m 94 10).toInt ∧ (m 94 10).toInt ≤ 6 := rs_94_10 (m := m) hV
  try have hc4 := (r_HA.2 (by omega)).1
  refine sp_187uw  hV r_W r_GW r_GU r_OW r_DX (fun v2 m1 hV_m1 p0_m1 p1_m1 p2_m1 p3_m1 p4_m1 p5_m1 => zmi_n ?_)
  have p0_m1 : zGW T (m1 94 55) (m1 109) := p0_m1
  have p1_m1 : zGU T (m 94 46) (m1 99) := p1_m1
  have p2_m1 : zOw (m1 99) (m 103) (m1 111) := p2_m1
  have p3_m1 : zDX (m 94 10) (m1 99) (m 112) (m1 113) (m1 114) (m1 94 55) (m 98) (m 101) (m 102) (m 108) := p3_m1
  have p4_m1 : zsw (m 99) (m1 99) (m 111) (m1 111) (m 103) := p4_m1
  have p5_m1 : zUs (m 99) (m1 99) := p5_m1
  have f2 : 0 ≤ (m 94 14).toInt ∧ (m 94 14).toInt ≤ 1500 := rs_94_14 (m := m) hV
  try have hc4 := (r_HA.2 (by omega)).1
  refine sp_204 (G := True) (E := (m 94 60).toInt) ((m 94 14)) hV_m1 (by omega) (by omega) p2_m1 (show True → 0 ≤ (m 94 60).toInt ∧ zPK (m 94 14).toInt (m 94 60).toInt (m1 99) (m 102) (m 103) (m1 111) from by first | (exact fun _ => ⟨by have := rs_94_60 hV; omega, PK_sub (r_HA.2 (by omega)).2.2.2.1 p4_m1 (fun t ht => ⟨(ra_103 hV ht).1, by have := (ra_103 hV ht).2; omega⟩)⟩) | (exfalso; omega; done) | (exfalso; contradiction; done)) (fun v4 m3 hV_m3 p0_m3 p1_m3 p2_m3 p3_m3 => zmi_n ?_)
  have p0_m3 : zOw (m1 99) (m3 103) (m3 111) := p0_m3
  have p1_m3 : True → v4.toInt ≤ (m 94 60).toInt ∧ zPK (m 94 14).toInt v4.toInt (m1 99) (m 102) (m3 103) (m3 111) := p1_m3
  have p2_m3 : zLO (m 94 14).toInt (m 103) (m3 103) := p2_m3
  have p3_m3 : 0 ≤ v4.toInt ∧ v4.toInt ≤ 1600 := p3_m3
  have b4 := i_bd v4
  have hV3 : zV (ma_u (zov wr_204 (zov wr_187 m m1) m3) 94 60 v4) := us_94_60 hV_m3 (by omega) (by omega)
  try have hc4 := (r_HA.2 (by omega)).1
  have f5 : 0 ≤ (m 94 16).toInt ∧ (m 94 16).toInt ≤ 64 := rs_94_16 (m := m) hV
  refine sp_212  hV3 r_W (show 4 ≤ (m 94 16).toInt from by omega) (fun m5 hV_m5 p0_m5 => zmv_n ?_)
  have p0_m5 : zDC (m 94 14).toInt (m 94 16).toInt (m1 99) (m3 103) (m 102) (m 98) (m 101) (m 108) (m5 117) := p0_m5
  try have hc4 := (r_HA.2 (by omega)).1
  have b6 := i_bd v2
  exact K (v2) _ (zF_zov (zF_u (zF_zov (zF_zov zF_rfl ws_187_211) ws_204_211) rfl) ws_212_211) hV_m5 p0_m1 p1_m1 p0_m3 p3_m1 (show zHA (m 94 10) (m 94 11) (m 94 13) (m 94 14) (m 94 16) (m 94 61) (m 94 59) v4 (m1 99) (m 102) (m3 103) (m3 111) (m5 117) (m 98) (m 101) (m 108) from by first | (exact HA_major r_HA (by omega) p4_m1.1 p2_m3 (fun t ht => (ra_102 hV ht).1) (p1_m3 trivial) p0_m5) | (exfalso; omega; done) | (exfalso; contradiction; done)) p5_m1
set_option maxHeartbeats 8000000 in
theorem lp_214uw_145 {X : Nat × (Nat → Int32)} {P : Option ma_V → (Nat → Nat → Int32) → Prop} {T : Nat} {m0 : Nat → Nat → Int32} (h0 : zV m0) (K : ∀ v m₉, zF wr_214 m0 m₉ → zV m₉ → (zGW T (m₉ 94 55) (m₉ 109)) → (zGU T (m₉ 94 46) (m₉ 99)) → (zOw (m₉ 99) (m₉ 103) (m₉ 111)) → (zDX (m₉ 94 10) (m₉ 99) (m₉ 112) (m₉ 113) (m₉ 114) (m₉ 94 55) (m₉ 98) (m₉ 101) (m₉ 102) (m₉ 108)) → (zHA (m₉ 94 10) (m₉ 94 11) (m₉ 94 13) (m₉ 94 14) (m₉ 94 16) (m₉ 94 61) (m₉ 94 59) (m₉ 94 60) (m₉ 99) (m₉ 102) (m₉ 103) (m₉ 111) (m₉ 117) (m₉ 98) (m₉ 101) (m₉ 108)) → (zUs (m0 99) (m₉ 99)) → P (some (.inl v)) m₉) : ∀ (n : Nat) (m : Nat → Nat → Int32) (l1 : Int32) (l2 : Int32) (l3 : Int32), (3100 - l3.toInt).toNat = n → zF wr_214 m0 m → zV m → (0 ≤ l2.toInt) → (0 ≤ l3.toInt) → ((m 94 10).toInt = 3) → (zKS (m 110) (m 94 75)) → (zOw (m 99) (m 103) (m 111)) → (zH2 (m 94 10) (m 94 11) (m 94 61) (m 94 77) (m 99) (m 110) (m 102)) → (zH3 (m 94 10) (m 94 13) (m 94 14) (m 94 15) (m 94 61) (m 94 77) (m 94 60) (m 99) (m 110) (m 104) (m 102) (m 103) (m 111)) → ((m 94 76).toInt ≤ (m 94 75).toInt) → (zKU (m 94 10) (m 99) (m 110)) → (zW (m 94 7) (m 98) (m 101) (m 102) (m 108)) → (zDX (m 94 10) (m 99) (m 112) (m 113) (m 114) (m 94 55) (m 98) (m 101) (m 102) (m 108)) → (4 ≤ (m 94 16).toInt) → (l2.toInt ≤ (m 94 60).toInt) → (zDK l2.toInt (m 94 16).toInt (m 110) (m 99) (m 103) (m 102) (m 98) (m 101) (m 108) (m 117)) → (zCQ (m 110) (m 98) (m 101) (m 102) (m 108) (m 119) (m 94 76) (m 94 75) (zXX (m 99) (m 103) (0 : Int32).toInt l2.toInt) 3100 0) → (zGW T (m 94 55) (m 109)) → (zGU T (m 94 46) (m 99)) → (((m 94 10).toInt = 2 ∨ (m 94 10).toInt = 3) → zcov (m 110) (m 112) 16) → (((m 94 10).toInt = 2 ∨ (m 94 10).toInt = 3) → zcov (m 110) (m 114) l3.toInt) → (zUs (m0 99) (m 99)) → zm X 6 129 214 145 [(0, .inr (.inr (some 94))), (1, .inl l1), (2, .inl l2), (3, .inl l3)] m P := by
  intro n
  induction n using Nat.strongRecOn with
  | _ n IH =>
    intro m l1 l2 l3 hmu hF hV hi0 hi1 hi2 r_CMK r_OW r_H2 r_H3 hi7 r_KU r_W r_DX hi11 hi12 r_DK r_CQ r_GW r_GU r_COVR r_COVW r_UQs
    refine g_214_145 l1 l2 l3 ?_
    have f1 : 0 ≤ (m 94 10).toInt ∧ (m 94 10).toInt ≤ 6 := rs_94_10 (m := m) hV
    have f2 : 0 ≤ (m 94 76).toInt ∧ (m 94 76).toInt ≤ 3100 := rs_94_76 (m := m) hV
    have f3 : 0 ≤ (m 94 75).toInt ∧ (m 94 75).toInt ≤ 3100 := rs_94_75 (m := m) hV
    have f4 : 0 ≤ (m 94 16).toInt ∧ (m 94 16).toInt ≤ 64 := rs_94_16 (m := m) hV
    have f5 : 0 ≤ (m 94 60).toInt ∧ (m 94 60).toInt ≤ 1600 := rs_94_60 (m := m) hV
    have f6 : 0 ≤ (m 94 55).toInt ∧ (m 94 55).toInt ≤ 3100 := rs_94_55 (m := m) hV
    have b7 := i_bd l3
    refine zd (fun (h8 : (m 94 55) ≤ l3) => ?_) (fun (h8 : ¬ (m 94 55) ≤ l3) => ?_)
    · skip
      have g9 := i_le h8
      have b10 := i_bd l2
      try have gw := GW_room r_GW
      refine sp_216 (l2) hV (by omega) (show (m 94 10).toInt = 3 from by omega) r_CMK r_OW r_H2 r_H3 (show (m 94 76).toInt ≤ (m 94 75).toInt from by omega) r_KU r_W r_DX (show 4 ≤ (m 94 16).toInt from by omega) (show l2.toInt ≤ (m 94 60).toInt from by omega) r_DK r_CQ (fun m1 hV_m1 p0_m1 p1_m1 p2_m1 p3_m1 p4_m1 p5_m1 p6_m1 p7_m1 => zmv_n ?_)
      have p0_m1 : zKS (m1 110) (m1 94 75) := p0_m1
      have p1_m1 : zOw (m 99) (m1 103) (m1 111) := p1_m1
      have p2_m1 : zH2 (m 94 10) (m 94 11) (m 94 61) (m1 94 77) (m 99) (m1 110) (m 102) := p2_m1
      have p3_m1 : zH3 (m 94 10) (m 94 13) (m 94 14) (m 94 15) (m 94 61) (m1 94 77) (m1 94 60) (m 99) (m1 110) (m1 104) (m 102) (m1 103) (m1 111) := p3_m1
      have p4_m1 : (m 94 76).toInt ≤ (m1 94 75).toInt := p4_m1
      have p5_m1 : zKU (m 94 10) (m 99) (m1 110) := p5_m1
      have p6_m1 : zle (m 110) (m1 110) := p6_m1
      have p7_m1 : zCQ (m1 110) (m 98) (m 101) (m 102) (m 108) (m1 119) (m 94 76) (m1 94 75) (fun _ => False) 3100 0 := p7_m1
      have f11 : 0 ≤ (m1 94 75).toInt ∧ (m1 94 75).toInt ≤ 3100 := rs_94_75 (m := (zov wr_216 m m1)) hV_m1
      try have gw := GW_room r_GW
      refine sp_208 (XX := (fun _ => False))  hV_m1 (show (m 94 10).toInt = 2 ∨ (m 94 10).toInt = 3 from by omega) p0_m1 p1_m1 p2_m1 p3_m1 (show (m 94 76).toInt ≤ (m1 94 75).toInt from by omega) p5_m1 r_W r_DX p7_m1 (fun m3 hV_m3 p0_m3 p1_m3 p2_m3 p3_m3 p4_m3 p5_m3 p6_m3 p7_m3 p8_m3 => zmv_n ?_)
      have p0_m3 : zKS (m3 110) (m3 94 75) := p0_m3
      have p1_m3 : zOw (m 99) (m3 103) (m3 111) := p1_m3
      have p2_m3 : zH2 (m 94 10) (m 94 11) (m 94 61) (m3 94 77) (m 99) (m3 110) (m 102) := p2_m3
      have p3_m3 : zH3 (m 94 10) (m 94 13) (m 94 14) (m 94 15) (m 94 61) (m3 94 77) (m3 94 60) (m 99) (m3 110) (m3 104) (m 102) (m3 103) (m3 111) := p3_m3
      have p4_m3 : (m3 94 76).toInt ≤ (m3 94 75).toInt := p4_m3
      have p5_m3 : zKU (m 94 10) (m 99) (m3 110) := p5_m3
      have p6_m3 : zle (m1 110) (m3 110) := p6_m3
      have p7_m3 : zCQ (m3 110) (m 98) (m 101) (m 102) (m 108) (m3 119) (m3 94 76) (m3 94 75) (fun _ => False) 3100 0 := p7_m3
      have p8_m3 : (m3 94 75).toInt ≤ (m3 94 76).toInt := p8_m3
      have f12 : 0 ≤ (m3 94 76).toInt ∧ (m3 94 76).toInt ≤ 3100 := rs_94_76 (m := (zov wr_208 (zov wr_216 m m1) m3)) hV_m3
      have f13 : 0 ≤ (m3 94 75).toInt ∧ (m3 94 75).toInt ≤ 3100 := rs_94_75 (m := (zov wr_208 (zov wr_216 m m1) m3)) hV_m3
      have li14 : (1 : Int32).toInt = 1 := rfl
      try have gw := GW_room r_GW
      refine sp_209 (XX := (fun _ => False)) ((1 : Int32)) hV_m3 (show (m 94 10).toInt = 2 ∨ (m 94 10).toInt = 3 from by omega) p0_m3 p1_m3 p2_m3 p3_m3 (show (m3 94 76).toInt ≤ (m3 94 75).toInt from by omega) p5_m3 r_W r_DX (show (m3 94 75).toInt ≤ (m3 94 76).toInt from by omega) p7_m3 r_GW (show ((m 94 10).toInt = 2 ∨ (m 94 10).toInt = 3) → zcov (m3 110) (m 112) 16 from by first | (exact fun hp => cov_cut (r_COVR hp) (by omega)) | (exact fun hp => cov_le (cov_le (r_COVR hp) p6_m1 (fun k hk => (ra_112 hV (by omega)).2)) p6_m3 (fun k hk => (ra_112 hV (by omega)).2)) | (exact fun hp => cov_le (cov_le (cov_cut (r_COVR hp) (by omega)) p6_m1 (fun k hk => (ra_112 hV (by omega)).2)) p6_m3 (fun k hk => (ra_112 hV (by omega)).2)) | (exact fun hp => cov_le (r_COVR hp) p6_m3 (fun k hk => (ra_112 hV (by omega)).2)) | (exact fun hp => cov_le (cov_cut (r_COVR hp) (by omega)) p6_m3 (fun k hk => (ra_112 hV (by omega)).2)) | (exact fun hp => cov_0 (by decide)) | (exact fun hp => cov_one (r_COVR hp) rfl (by omega) (by omega) (Or.inl (by omega))) | (exact fun hp => cov_one (r_COVR hp) rfl (by omega) (by omega) (Or.inr (by assumption))) | (exact fun hp => cov_cut (r_COVR hp) (by omega)) | (exact fun hp => cov_le (r_COVR hp) p6_m3 (fun k hk => (ra_112 hV_m3 (by omega)).2)) | (exact fun hp => cov_le (r_COVR hp) p6_m3 (fun k hk => (ra_114 hV_m3 (by have := rs_94_55 hV; omega)).2)) | (exfalso; omega; done) | (exfalso; contradiction; done)) (show ((m 94 10).toInt = 2 ∨ (m 94 10).toInt = 3) → zcov (m3 110) (m 114) (m 94 55).toInt from by first | (exact fun hp => cov_cut (r_COVW hp) (by omega)) | (exact fun hp => cov_le (cov_le (r_COVW hp) p6_m1 (fun k hk => (ra_114 hV (by have := GW_room r_GW; omega)).2)) p6_m3 (fun k hk => (ra_114 hV (by have := GW_room r_GW; omega)).2)) | (exact fun hp => cov_le (cov_le (cov_cut (r_COVW hp) (by omega)) p6_m1 (fun k hk => (ra_114 hV (by have := GW_room r_GW; omega)).2)) p6_m3 (fun k hk => (ra_114 hV (by have := GW_room r_GW; omega)).2)) | (exact fun hp => cov_le (r_COVW hp) p6_m3 (fun k hk => (ra_114 hV (by have := GW_room r_GW; omega)).2)) | (exact fun hp => cov_le (cov_cut (r_COVW hp) (by omega)) p6_m3 (fun k hk => (ra_114 hV (by have := GW_room r_GW; omega)).2)) | (exact fun hp => cov_0 (by decide)) | (exact fun hp => cov_one (r_COVW hp) rfl (by omega) (by omega) (Or.inl (by omega))) | (exact fun hp => cov_one (r_COVW hp) rfl (by omega) (by omega) (Or.inr (by assumption))) | (exact fun hp => cov_cut (r_COVW hp) (by omega)) | (exact fun hp => cov_le (r_COVW hp) p6_m3 (fun k hk => (ra_112 hV_m3 (by omega)).2)) | (exact fun hp => cov_le (r_COVW hp) p6_m3 (fun k hk => (ra_114 hV_m3 (by have := rs_94_55 hV; omega)).2)) | (exfalso; omega; done) | (exfalso; contradiction; done)) (fun m5 hV_m5 p0_m5 p1_m5 p2_m5 p3_m5 p4_m5 p5_m5 p6_m5 p7_m5 p8_m5 p9_m5 p10_m5 p11_m5 p12_m5 => zmv_n ?_)
      have p0_m5 : zKS (m5 110) (m5 94 75) := p0_m5
      have p1_m5 : zOw (m 99) (m5 103) (m5 111) := p1_m5
      have p2_m5 : zH2 (m 94 10) (m 94 11) (m 94 61) (m5 94 77) (m 99) (m5 110) (m 102) := p2_m5
      have p3_m5 : zH3 (m 94 10) (m 94 13) (m 94 14) (m 94 15) (m 94 61) (m5 94 77) (m5 94 60) (m 99) (m5 110) (m5 104) (m 102) (m5 103) (m5 111) := p3_m5
      have p4_m5 : (m5 94 76).toInt ≤ (m5 94 75).toInt := p4_m5
      have p5_m5 : zKU (m 94 10) (m 99) (m5 110) := p5_m5
      have p6_m5 : zDX (m 94 10) (m 99) (m 112) (m5 113) (m5 114) (m5 94 55) (m 98) (m 101) (m 102) (m 108) := p6_m5
      have p7_m5 : (m5 94 75).toInt ≤ (m5 94 76).toInt := p7_m5
      have p8_m5 : zCQ (m5 110) (m 98) (m 101) (m 102) (m 108) (m5 119) (m5 94 76) (m5 94 75) (fun _ => False) 3100 0 := p8_m5
      have p9_m5 : zGW T (m5 94 55) (m5 109) := p9_m5
      have p10_m5 : ((m 94 10).toInt = 2 ∨ (m 94 10).toInt = 3) → zcov (m5 110) (m 112) 16 := p10_m5
      have p11_m5 : ((m 94 10).toInt = 2 ∨ (m 94 10).toInt = 3) → zcov (m5 110) (m5 114) (m5 94 55).toInt := p11_m5
      have p12_m5 : zuw (m 113) (m5 113) := p12_m5
      have f15 : 0 ≤ (m5 94 76).toInt ∧ (m5 94 76).toInt ≤ 3100 := rs_94_76 (m := (zov wr_209 (zov wr_208 (zov wr_216 m m1) m3) m5)) hV_m5
      have f16 : 0 ≤ (m5 94 75).toInt ∧ (m5 94 75).toInt ≤ 3100 := rs_94_75 (m := (zov wr_209 (zov wr_208 (zov wr_216 m m1) m3) m5)) hV_m5
      try have gw := GW_room p9_m5
      refine sp_199  hV_m5  (fun m7 hV_m7 p0_m7 p1_m7 => zmv_n ?_)
      have p0_m7 : zuw (m5 113) (m7 113) := p0_m7
      have p1_m7 : zcov (m5 110) (m7 113) 16 := p1_m7
      have f18 : 0 ≤ (m5 94 77).toInt ∧ (m5 94 77).toInt ≤ 4600 := rs_94_77 (m := (zov wr_209 (zov wr_208 (zov wr_216 m m1) m3) m5)) hV_m5
      have hV17 : zV (ma_u (zov wr_199 (zov wr_209 (zov wr_208 (zov wr_216 m m1) m3) m5) m7) 94 59 (m5 94 77)) := us_94_59 hV_m7 (by omega) (by omega)
      try have gw := GW_room p9_m5
      refine sp_200uw  hV17 r_W r_GU p1_m5 (fun v10 m9 hV_m9 p0_m9 p1_m9 p2_m9 p3_m9 p4_m9 => zmi_n ?_)
      have p0_m9 : zrm (m 99) (m9 99) (m5 110) 3100 := p0_m9
      have p1_m9 : zowr (m5 111) (m9 111) (m 99) (m5 110) (m5 103) := p1_m9
      have p2_m9 : zGU T (m 94 46) (m9 99) := p2_m9
      have p3_m9 : zOw (m9 99) (m5 103) (m9 111) := p3_m9
      have p4_m9 : zUs (m 99) (m9 99) := p4_m9
      try have gw := GW_room p9_m5
      refine sp_212  hV_m9 r_W (show 4 ≤ (m 94 16).toInt from by omega) (fun m11 hV_m11 p0_m11 => zmv_n ?_)
      have p0_m11 : zDC (m 94 14).toInt (m 94 16).toInt (m9 99) (m5 103) (m 102) (m 98) (m 101) (m 108) (m11 117) := p0_m11
      try have gw := GW_room p9_m5
      have b19 := i_bd l1
      have b20 := i_bd v10
      first | have e21 : (l1 + v10).toInt = l1.toInt + v10.toInt := i_add (by omega) (by omega) | have b22 := i_bd (l1 + v10)
      exact K ((l1 + v10)) _ (zF_zov (zF_zov (zF_u (zF_zov (zF_zov (zF_zov (zF_zov hF ws_216_214) ws_208_214) ws_209_214) ws_199_214) rfl) ws_200_214) ws_212_214) hV_m11 p9_m5 p2_m9 p3_m9 (show zDX (m 94 10) (m9 99) (m 112) (m7 113) (m5 114) (m5 94 55) (m 98) (m 101) (m 102) (m 108) from by first | (exact DX_come p8_m5 (by omega) (p10_m5 (by omega)) (p11_m5 (by omega)) p1_m7 p5_m5 p0_m9 (fun k hk => (ra_112 hV_m11 (by omega)).2) (fun k hk => (ra_114 hV_m11 (by have := GW_room p9_m5; omega)).2) (fun k hk => (ra_113 hV_m11 (by omega)).2) (W_hi r_W)) | (exfalso; omega; done) | (exfalso; contradiction; done)) (show zHA (m 94 10) (m 94 11) (m 94 13) (m 94 14) (m 94 16) (m 94 61) (m5 94 77) (m5 94 60) (m9 99) (m 102) (m5 103) (m9 111) (m11 117) (m 98) (m 101) (m 108) from by first | (exact HA_minor (by omega) (by omega) (p3_m5 (by omega)) p0_m9 p1_m9 p0_m11 (fun t ht => ⟨(ra_103 hV_m11 ht).1, Int.lt_of_le_of_lt (ra_103 hV_m11 ht).2 (by decide)⟩) (fun t ht => (ra_102 hV_m11 ht).1)) | (exfalso; omega; done) | (exfalso; contradiction; done)) (show zUs (m0 99) (m9 99) from by first | (exact (Us_tr r_UQs p4_m9)) | (exact Us_w0 (Us_tr r_UQs p4_m9)) | (exact Us_rfl) | (exact Us_rm p0_m9) | (exfalso; omega; done) | (exfalso; contradiction; done))
    · skip
      have g23 := i_nle h8
      have hg24 : (0 ≤ l3 ∧ l3.toNatClampNeg < 3100) := i_ix (by omega) (by omega)
      refine ⟨hg24, ?_⟩
      first | have f25 : 0 ≤ (m 114 l3.toNatClampNeg).toInt ∧ (m 114 l3.toNatClampNeg).toInt ≤ 3099 := ra_114 (m := m) hV (k := l3.toNatClampNeg) (i_ix (n := 3100) (by omega) (by omega)).2 | have b26 := i_bd (m 114 l3.toNatClampNeg)
      try have gw := GW_room r_GW
      refine sp_207 (XX := (zXX (m 99) (m 103) (0 : Int32).toInt l2.toInt)) (CU := 3100) (II := 0) ((m 114 l3.toNatClampNeg)) hV (by omega) (by omega) (show (m 94 10).toInt = 2 ∨ (m 94 10).toInt = 3 from by omega) (show (m 114 l3.toNatClampNeg).toInt < 0 ∨ (m 99) (m 114 l3.toNatClampNeg).toNatClampNeg ≠ 0 from by first | (exact ((r_DX (by omega)).2.2.1 l3.toNatClampNeg (by rw [tn_cast (by omega)]; omega))) | (exfalso; omega; done) | (exfalso; contradiction; done)) r_CMK r_OW r_H2 r_H3 (show (m 94 76).toInt ≤ (m 94 75).toInt from by omega) r_CQ r_KU (fun m13 hV_m13 p0_m13 p1_m13 p2_m13 p3_m13 p4_m13 p5_m13 p6_m13 p7_m13 p8_m13 p9_m13 p10_m13 => zmv_n ?_)
      have p0_m13 : zKS (m13 110) (m13 94 75) := p0_m13
      have p1_m13 : zOw (m 99) (m13 103) (m13 111) := p1_m13
      have p2_m13 : zH2 (m 94 10) (m 94 11) (m 94 61) (m13 94 77) (m 99) (m13 110) (m 102) := p2_m13
      have p3_m13 : zH3 (m 94 10) (m 94 13) (m 94 14) (m 94 15) (m 94 61) (m13 94 77) (m13 94 60) (m 99) (m13 110) (m13 104) (m 102) (m13 103) (m13 111) := p3_m13
      have p4_m13 : (m 114 l3.toNatClampNeg).toInt < 0 ∨ (m13 110) (m 114 l3.toNatClampNeg).toNatClampNeg ≠ 0 := p4_m13
      have p5_m13 : zle (m 110) (m13 110) := p5_m13
      have p6_m13 : (m 94 76).toInt ≤ (m13 94 75).toInt := p6_m13
      have p7_m13 : zCQ (m13 110) (m 98) (m 101) (m 102) (m 108) (m13 119) (m 94 76) (m13 94 75) (zXX (m 99) (m 103) (0 : Int32).toInt l2.toInt) 3100 0 := p7_m13
      have p8_m13 : zKU (m 94 10) (m 99) (m13 110) := p8_m13
      have p9_m13 : (m 94 10).toInt = 3 → zax (m 103) (m13 103) (m 94 60).toInt := p9_m13
      have p10_m13 : (m 94 60).toInt ≤ (m13 94 60).toInt := p10_m13
      have f27 : 0 ≤ (m13 94 75).toInt ∧ (m13 94 75).toInt ≤ 3100 := rs_94_75 (m := (zov wr_207 m m13)) hV_m13
      have f28 : 0 ≤ (m13 94 60).toInt ∧ (m13 94 60).toInt ≤ 1600 := rs_94_60 (m := (zov wr_207 m m13)) hV_m13
      try have axs := ax_at (p9_m13 (by omega)) (s := l3.toNatClampNeg) (p := l2.toInt) (by omega) (by omega) (by omega)
      try have gw := GW_room r_GW
      have b29 := i_bd l1
      have b30 := i_bd l2
      first | have e31 : (l3 + (1 : Int32)).toInt = l3.toInt + (1) := i_addk rfl (by omega) (by omega) | have b32 := i_bd (l3 + (1 : Int32))
      exact IH (3100 - (l3 + (1 : Int32)).toInt).toNat (by omega) _ (l1) (l2) ((l3 + (1 : Int32))) rfl (zF_zov hF ws_207_214) hV_m13 (by omega) (by omega) (show (m 94 10).toInt = 3 from by omega) p0_m13 p1_m13 p2_m13 p3_m13 (show (m 94 76).toInt ≤ (m13 94 75).toInt from by omega) p8_m13 r_W r_DX (show 4 ≤ (m 94 16).toInt from by omega) (show l2.toInt ≤ (m13 94 60).toInt from by omega) (show zDK l2.toInt (m 94 16).toInt (m13 110) (m 99) (m13 103) (m 102) (m 98) (m 101) (m 108) (m 117) from by first | (exact DK_ax r_DK p5_m13 (p9_m13 (by omega)) (by omega) (W_hi r_W)) | (exfalso; omega; done) | (exfalso; contradiction; done)) (show zCQ (m13 110) (m 98) (m 101) (m 102) (m 108) (m13 119) (m 94 76) (m13 94 75) (zXX (m 99) (m13 103) (0 : Int32).toInt l2.toInt) 3100 0 from by first | (exact CQ_ax p7_m13 (p9_m13 (by omega)) (by omega)) | (exfalso; omega; done) | (exfalso; contradiction; done)) r_GW r_GU (show ((m 94 10).toInt = 2 ∨ (m 94 10).toInt = 3) → zcov (m13 110) (m 112) 16 from by first | (exact fun hp => cov_one (cov_le (r_COVR hp) p5_m13 (fun k hk => (ra_112 hV (by omega)).2)) rfl (by omega) (by omega) p4_m13) | (exact fun hp => cov_le (r_COVR hp) p5_m13 (fun k hk => (ra_112 hV (by omega)).2)) | (exact fun hp => cov_cut (r_COVR hp) (by omega)) | (exact fun hp => cov_0 (by decide)) | (exact fun hp => cov_one (r_COVR hp) rfl (by omega) (by omega) (Or.inl (by omega))) | (exact fun hp => cov_one (r_COVR hp) rfl (by omega) (by omega) (Or.inr (by assumption))) | (exact fun hp => cov_cut (r_COVR hp) (by omega)) | (exfalso; omega; done) | (exfalso; contradiction; done)) (show ((m 94 10).toInt = 2 ∨ (m 94 10).toInt = 3) → zcov (m13 110) (m 114) (l3 + (1 : Int32)).toInt from by first | (exact fun hp => cov_one (cov_le (r_COVW hp) p5_m13 (fun k hk => (ra_114 hV (by have := GW_room r_GW; omega)).2)) rfl (by omega) (by omega) p4_m13) | (exact fun hp => cov_le (r_COVW hp) p5_m13 (fun k hk => (ra_114 hV (by have := GW_room r_GW; omega)).2)) | (exact fun hp => cov_cut (r_COVW hp) (by omega)) | (exact fun hp => cov_0 (by decide)) | (exact fun hp => cov_one (r_COVW hp) rfl (by omega) (by omega) (Or.inl (by omega))) | (exact fun hp => cov_one (r_COVW hp) rfl (by omega) (by omega) (Or.inr (by assumption))) | (exact fun hp => cov_cut (r_COVW hp) (by omega)) | (exfalso; omega; done) | (exfalso; contradiction; done)) r_UQs
set_option maxHeartbeats 8000000 in
theorem lp_214uw_121 {X : Nat × (Nat → Int32)} {P : Option ma_V → (Nat → Nat → Int32) → Prop} {T : Nat} {m0 : Nat → Nat → Int32} (h0 : zV m0) (K : ∀ v m₉, zF wr_214 m0 m₉ → zV m₉ → (zGW T (m₉ 94 55) (m₉ 109)) → (zGU T (m₉ 94 46) (m₉ 99)) → (zOw (m₉ 99) (m₉ 103) (m₉ 111)) → (zDX (m₉ 94 10) (m₉ 99) (m₉ 112) (m₉ 113) (m₉ 114) (m₉ 94 55) (m₉ 98) (m₉ 101) (m₉ 102) (m₉ 108)) → (zHA (m₉ 94 10) (m₉ 94 11) (m₉ 94 13) (m₉ 94 14) (m₉ 94 16) (m₉ 94 61) (m₉ 94 59) (m₉ 94 60) (m₉ 99) (m₉ 102) (m₉ 103) (m₉ 111) (m₉ 117) (m₉ 98) (m₉ 101) (m₉ 108)) → (zUs (m0 99) (m₉ 99)) → P (some (.inl v)) m₉) : ∀ (n : Nat) (m : Nat → Nat → Int32) (l1 : Int32) (l2 : Int32) (l3 : Int32), (16 - l3.toInt).toNat = n → zF wr_214 m0 m → zV m → (0 ≤ l2.toInt) → (0 ≤ l3.toInt) → ((m 94 10).toInt = 3) → (zKS (m 110) (m 94 75)) → (zOw (m 99) (m 103) (m 111)) → (zH2 (m 94 10) (m 94 11) (m 94 61) (m 94 77) (m 99) (m 110) (m 102)) → (zH3 (m 94 10) (m 94 13) (m 94 14) (m 94 15) (m 94 61) (m 94 77) (m 94 60) (m 99) (m 110) (m 104) (m 102) (m 103) (m 111)) → ((m 94 76).toInt ≤ (m 94 75).toInt) → (zKU (m 94 10) (m 99) (m 110)) → (zW (m 94 7) (m 98) (m 101) (m 102) (m 108)) → (zDX (m 94 10) (m 99) (m 112) (m 113) (m 114) (m 94 55) (m 98) (m 101) (m 102) (m 108)) → (4 ≤ (m 94 16).toInt) → (l2.toInt ≤ (m 94 60).toInt) → (zDK l2.toInt (m 94 16).toInt (m 110) (m 99) (m 103) (m 102) (m 98) (m 101) (m 108) (m 117)) → (zCQ (m 110) (m 98) (m 101) (m 102) (m 108) (m 119) (m 94 76) (m 94 75) (zXX (m 99) (m 103) (0 : Int32).toInt l2.toInt) 3100 0) → (zGW T (m 94 55) (m 109)) → (zGU T (m 94 46) (m 99)) → (((m 94 10).toInt = 2 ∨ (m 94 10).toInt = 3) → zcov (m 110) (m 112) l3.toInt) → (zUs (m0 99) (m 99)) → zm X 6 129 214 121 [(0, .inr (.inr (some 94))), (1, .inl l1), (2, .inl l2), (3, .inl l3)] m P := by
  intro n
  induction n using Nat.strongRecOn with
  | _ n IH =>
    intro m l1 l2 l3 hmu hF hV hi0 hi1 hi2 r_CMK r_OW r_H2 r_H3 hi7 r_KU r_W r_DX hi11 hi12 r_DK r_CQ r_GW r_GU r_COVR r_UQs
    refine g_214_121 l1 l2 l3 ?_
    have f1 : 0 ≤ (m 94 10).toInt ∧ (m 94 10).toInt ≤ 6 := rs_94_10 (m := m) hV
    have f2 : 0 ≤ (m 94 76).toInt ∧ (m 94 76).toInt ≤ 3100 := rs_94_76 (m := m) hV
    have f3 : 0 ≤ (m 94 75).toInt ∧ (m 94 75).toInt ≤ 3100 := rs_94_75 (m := m) hV
    have f4 : 0 ≤ (m 94 16).toInt ∧ (m 94 16).toInt ≤ 64 := rs_94_16 (m := m) hV
    have f5 : 0 ≤ (m 94 60).toInt ∧ (m 94 60).toInt ≤ 1600 := rs_94_60 (m := m) hV
    have li6 : (16 : Int32).toInt = 16 := rfl
    have b7 := i_bd l3
    refine zd (fun (h8 : (16 : Int32) ≤ l3) => ?_) (fun (h8 : ¬ (16 : Int32) ≤ l3) => ?_)
    · skip
      have g9 := i_le h8
      try have gw := GW_room r_GW
      have b10 := i_bd l1
      have b11 := i_bd l2
      have li12 : (0 : Int32).toInt = 0 := rfl
      exact lp_214uw_145 h0 K _ _ (l1) (l2) ((0 : Int32)) rfl hF hV (by omega) (by omega) (show (m 94 10).toInt = 3 from by omega) r_CMK r_OW r_H2 r_H3 (show (m 94 76).toInt ≤ (m 94 75).toInt from by omega) r_KU r_W r_DX (show 4 ≤ (m 94 16).toInt from by omega) (show l2.toInt ≤ (m 94 60).toInt from by omega) r_DK r_CQ r_GW r_GU (show ((m 94 10).toInt = 2 ∨ (m 94 10).toInt = 3) → zcov (m 110) (m 112) 16 from by first | (exact fun hp => cov_cut (r_COVR hp) (by omega)) | (exact fun hp => cov_0 (by decide)) | (exact fun hp => cov_one (r_COVR hp) rfl (by omega) (by omega) (Or.inl (by omega))) | (exact fun hp => cov_one (r_COVR hp) rfl (by omega) (by omega) (Or.inr (by assumption))) | (exact fun hp => cov_cut (r_COVR hp) (by omega)) | (exfalso; omega; done) | (exfalso; contradiction; done)) (show ((m 94 10).toInt = 2 ∨ (m 94 10).toInt = 3) → zcov (m 110) (m 114) (0 : Int32).toInt from by first | (exact fun hp => cov_0 (by decide)) | (exact fun hp => cov_0 (by decide)) | (exfalso; omega; done) | (exfalso; contradiction; done)) r_UQs
    · skip
      have g13 := i_nle h8
      have hg14 : (0 ≤ l3 ∧ l3.toNatClampNeg < 16) := i_ix (by omega) (by omega)
      refine ⟨hg14, ?_⟩
      first | have f15 : -1 ≤ (m 112 l3.toNatClampNeg).toInt ∧ (m 112 l3.toNatClampNeg).toInt ≤ 3099 := ra_112 (m := m) hV (k := l3.toNatClampNeg) (i_ix (n := 16) (by omega) (by omega)).2 | have b16 := i_bd (m 112 l3.toNatClampNeg)
      try have gw := GW_room r_GW
      refine sp_207 (XX := (zXX (m 99) (m 103) (0 : Int32).toInt l2.toInt)) (CU := 3100) (II := 0) ((m 112 l3.toNatClampNeg)) hV (by omega) (by omega) (show (m 94 10).toInt = 2 ∨ (m 94 10).toInt = 3 from by omega) (show (m 112 l3.toNatClampNeg).toInt < 0 ∨ (m 99) (m 112 l3.toNatClampNeg).toNatClampNeg ≠ 0 from by first | (exact ((r_DX (by omega)).1 l3.toNatClampNeg (by rw [tn_cast (by omega)]; omega))) | (exfalso; omega; done) | (exfalso; contradiction; done)) r_CMK r_OW r_H2 r_H3 (show (m 94 76).toInt ≤ (m 94 75).toInt from by omega) r_CQ r_KU (fun m1 hV_m1 p0_m1 p1_m1 p2_m1 p3_m1 p4_m1 p5_m1 p6_m1 p7_m1 p8_m1 p9_m1 p10_m1 => zmv_n ?_)
      have p0_m1 : zKS (m1 110) (m1 94 75) := p0_m1
      have p1_m1 : zOw (m 99) (m1 103) (m1 111) := p1_m1
      have p2_m1 : zH2 (m 94 10) (m 94 11) (m 94 61) (m1 94 77) (m 99) (m1 110) (m 102) := p2_m1
      have p3_m1 : zH3 (m 94 10) (m 94 13) (m 94 14) (m 94 15) (m 94 61) (m1 94 77) (m1 94 60) (m 99) (m1 110) (m1 104) (m 102) (m1 103) (m1 111) := p3_m1
      have p4_m1 : (m 112 l3.toNatClampNeg).toInt < 0 ∨ (m1 110) (m 112 l3.toNatClampNeg).toNatClampNeg ≠ 0 := p4_m1
      have p5_m1 : zle (m 110) (m1 110) := p5_m1
      have p6_m1 : (m 94 76).toInt ≤ (m1 94 75).toInt := p6_m1
      have p7_m1 : zCQ (m1 110) (m 98) (m 101) (m 102) (m 108) (m1 119) (m 94 76) (m1 94 75) (zXX (m 99) (m 103) (0 : Int32).toInt l2.toInt) 3100 0 := p7_m1
      have p8_m1 : zKU (m 94 10) (m 99) (m1 110) := p8_m1
      have p9_m1 : (m 94 10).toInt = 3 → zax (m 103) (m1 103) (m 94 60).toInt := p9_m1
      have p10_m1 : (m 94 60).toInt ≤ (m1 94 60).toInt := p10_m1
      have f17 : 0 ≤ (m1 94 75).toInt ∧ (m1 94 75).toInt ≤ 3100 := rs_94_75 (m := (zov wr_207 m m1)) hV_m1
      have f18 : 0 ≤ (m1 94 60).toInt ∧ (m1 94 60).toInt ≤ 1600 := rs_94_60 (m := (zov wr_207 m m1)) hV_m1
      try have axs := ax_at (p9_m1 (by omega)) (s := l3.toNatClampNeg) (p := l2.toInt) (by omega) (by omega) (by omega)
      try have gw := GW_room r_GW
      have b19 := i_bd l1
      have b20 := i_bd l2
      first | have e21 : (l3 + (1 : Int32)).toInt = l3.toInt + (1) := i_addk rfl (by omega) (by omega) | have b22 := i_bd (l3 + (1 : Int32))
      exact IH (16 - (l3 + (1 : Int32)).toInt).toNat (by omega) _ (l1) (l2) ((l3 + (1 : Int32))) rfl (zF_zov hF ws_207_214) hV_m1 (by omega) (by omega) (show (m 94 10).toInt = 3 from by omega) p0_m1 p1_m1 p2_m1 p3_m1 (show (m 94 76).toInt ≤ (m1 94 75).toInt from by omega) p8_m1 r_W r_DX (show 4 ≤ (m 94 16).toInt from by omega) (show l2.toInt ≤ (m1 94 60).toInt from by omega) (show zDK l2.toInt (m 94 16).toInt (m1 110) (m 99) (m1 103) (m 102) (m 98) (m 101) (m 108) (m 117) from by first | (exact DK_ax r_DK p5_m1 (p9_m1 (by omega)) (by omega) (W_hi r_W)) | (exfalso; omega; done) | (exfalso; contradiction; done)) (show zCQ (m1 110) (m 98) (m 101) (m 102) (m 108) (m1 119) (m 94 76) (m1 94 75) (zXX (m 99) (m1 103) (0 : Int32).toInt l2.toInt) 3100 0 from by first | (exact CQ_ax p7_m1 (p9_m1 (by omega)) (by omega)) | (exfalso; omega; done) | (exfalso; contradiction; done)) r_GW r_GU (show ((m 94 10).toInt = 2 ∨ (m 94 10).toInt = 3) → zcov (m1 110) (m 112) (l3 + (1 : Int32)).toInt from by first | (exact fun hp => cov_one (cov_le (r_COVR hp) p5_m1 (fun k hk => (ra_112 hV (by omega)).2)) rfl (by omega) (by omega) p4_m1) | (exact fun hp => cov_le (r_COVR hp) p5_m1 (fun k hk => (ra_112 hV (by omega)).2)) | (exact fun hp => cov_cut (r_COVR hp) (by omega)) | (exact fun hp => cov_0 (by decide)) | (exact fun hp => cov_one (r_COVR hp) rfl (by omega) (by omega) (Or.inl (by omega))) | (exact fun hp => cov_one (r_COVR hp) rfl (by omega) (by omega) (Or.inr (by assumption))) | (exact fun hp => cov_cut (r_COVR hp) (by omega)) | (exfalso; omega; done) | (exfalso; contradiction; done)) r_UQs
set_option maxHeartbeats 8000000 in
theorem lp_214uw_35 {X : Nat × (Nat → Int32)} {P : Option ma_V → (Nat → Nat → Int32) → Prop} {T : Nat} {m0 : Nat → Nat → Int32} (h0 : zV m0) (K : ∀ v m₉, zF wr_214 m0 m₉ → zV m₉ → (zGW T (m₉ 94 55) (m₉ 109)) → (zGU T (m₉ 94 46) (m₉ 99)) → (zOw (m₉ 99) (m₉ 103) (m₉ 111)) → (zDX (m₉ 94 10) (m₉ 99) (m₉ 112) (m₉ 113) (m₉ 114) (m₉ 94 55) (m₉ 98) (m₉ 101) (m₉ 102) (m₉ 108)) → (zHA (m₉ 94 10) (m₉ 94 11) (m₉ 94 13) (m₉ 94 14) (m₉ 94 16) (m₉ 94 61) (m₉ 94 59) (m₉ 94 60) (m₉ 99) (m₉ 102) (m₉ 103) (m₉ 111) (m₉ 117) (m₉ 98) (m₉ 101) (m₉ 108)) → (zUs (m0 99) (m₉ 99)) → P (some (.inl v)) m₉) : ∀ (n : Nat) (m : Nat → Nat → Int32) (l1 : Int32) (l2 : Int32), (3100 - l2.toInt).toNat = n → zF wr_214 m0 m → zV m → (0 ≤ l2.toInt) → (zW (m 94 7) (m 98) (m 101) (m 102) (m 108)) → (zGW T (m 94 55) (m 109)) → (zGU T (m 94 46) (m 99)) → (zOw (m 99) (m 103) (m 111)) → (zDX (m 94 10) (m 99) (m 112) (m 113) (m 114) (m 94 55) (m 98) (m 101) (m 102) (m 108)) → (zHA (m 94 10) (m 94 11) (m 94 13) (m 94 14) (m 94 16) (m 94 61) (m 94 59) (m 94 60) (m 99) (m 102) (m 103) (m 111) (m 117) (m 98) (m 101) (m 108)) → ((m 94 10).toInt = 3) → ((m 94 60).toInt + sm (zbG (m 99) (m 103) (m 94 14) (m 104) (m 94 15)) (m 102) 3100 ≤ (m 94 14).toInt) → (∀ s : Nat, (s : Int) < l2.toInt → ((m 110) s ≠ 0 ↔ (m 99) s ≠ 0 ∧ ((m 103) s).toInt < (m 94 14).toInt)) → (zUs (m0 99) (m 99)) → zm X 6 129 214 35 [(0, .inr (.inr (some 94))), (1, .inl l1), (2, .inl l2)] m P := by
  intro n
  induction n using Nat.strongRecOn with
  | _ n IH =>
    intro m l1 l2 hmu hF hV hi0 r_W r_GW r_GU r_OW r_DX r_HA hi7 r_OF3 r_KOl r_UQs
    refine g_214_35 l1 l2 ?_
    have f1 : 0 ≤ (m 94 10).toInt ∧ (m 94 10).toInt ≤ 6 := rs_94_10 (m := m) hV
    have li2 : (3100 : Int32).toInt = 3100 := rfl
    have b3 := i_bd l2
    refine zd (fun (h4 : (3100 : Int32) ≤ l2) => ?_) (fun (h4 : ¬ (3100 : Int32) ≤ l2) => ?_)
    · skip
      have g5 := i_le h4
      try have gw := GW_room r_GW
      try have hc4 := (r_HA.2 (by omega)).1
      have li7 : (0 : Int32).toInt = 0 := rfl
      have hV6 : zV (ma_u m 94 75 (0 : Int32)) := us_94_75 hV (by omega) (by omega)
      have hV8 : zV (ma_u (ma_u m 94 75 (0 : Int32)) 94 76 (0 : Int32)) := us_94_76 hV6 (by omega) (by omega)
      have li10 : (1 : Int32).toInt = 1 := rfl
      have f11 : 0 ≤ (m 94 61).toInt ∧ (m 94 61).toInt ≤ 1 := rs_94_61 (m := m) hV
      first | have e12 : ((1 : Int32) - (m 94 61)).toInt = (1 : Int32).toInt - (m 94 61).toInt := i_sub (by omega) (by omega) | have b13 := i_bd ((1 : Int32) - (m 94 61))
      have hV9 : zV (ma_u (ma_u (ma_u m 94 75 (0 : Int32)) 94 76 (0 : Int32)) 94 61 ((1 : Int32) - (m 94 61))) := us_94_61 hV8 (by omega) (by omega)
      have f15 : 0 ≤ (m 94 14).toInt ∧ (m 94 14).toInt ≤ 1500 := rs_94_14 (m := m) hV
      have f16 : 0 ≤ (m 94 13).toInt ∧ (m 94 13).toInt ≤ 1500 := rs_94_13 (m := m) hV
      first | have f17 := i_mul01 (x := ((1 : Int32) - (m 94 61))) (y := (m 94 13)) (by omega) (by omega) (by omega) (by omega) | have b18 := i_bd (((1 : Int32) - (m 94 61)) * (m 94 13))
      first | have e19 : ((m 94 14) + (((1 : Int32) - (m 94 61)) * (m 94 13))).toInt = (m 94 14).toInt + (((1 : Int32) - (m 94 61)) * (m 94 13)).toInt := i_add (by omega) (by omega) | have b20 := i_bd ((m 94 14) + (((1 : Int32) - (m 94 61)) * (m 94 13)))
      have hV14 : zV (ma_u (ma_u (ma_u (ma_u m 94 75 (0 : Int32)) 94 76 (0 : Int32)) 94 61 ((1 : Int32) - (m 94 61))) 94 77 ((m 94 14) + (((1 : Int32) - (m 94 61)) * (m 94 13)))) := us_94_77 hV9 (by omega) (by omega)
      have b21 := i_bd l1
      have f22 : 0 ≤ (m 94 60).toInt ∧ (m 94 60).toInt ≤ 1600 := rs_94_60 (m := m) hV
      have f23 : 0 ≤ (m 94 16).toInt ∧ (m 94 16).toInt ≤ 64 := rs_94_16 (m := m) hV
      exact lp_214uw_121 h0 K _ _ (l1) ((m 94 60)) ((0 : Int32)) rfl (zF_u (zF_u (zF_u (zF_u hF rfl) rfl) rfl) rfl) hV14 (by omega) (by omega) (show (m 94 10).toInt = 3 from by omega) (show zKS (m 110) (0 : Int32) from by first | (exact KS_0 (by omega)) | (exfalso; omega; done) | (exfalso; contradiction; done)) r_OW (show zH2 (m 94 10) (m 94 11) ((1 : Int32) - (m 94 61)) ((m 94 14) + (((1 : Int32) - (m 94 61)) * (m 94 13))) (m 99) (m 110) (m 102) from by first | (exact fun hp => absurd hp (by omega)) | (exfalso; omega; done) | (exfalso; contradiction; done)) (show zH3 (m 94 10) (m 94 13) (m 94 14) (m 94 15) ((1 : Int32) - (m 94 61)) ((m 94 14) + (((1 : Int32) - (m 94 61)) * (m 94 13))) (m 94 60) (m 99) (m 110) (m 104) (m 102) (m 103) (m 111) from by first | (exact fun _ => H3_0 r_HA (by omega) (fun s hs => r_KOl s (by omega)) r_OF3 ((i_add (by omega) (by omega)).trans (mul_B3 (by omega) (by omega) (by omega) (by omega))) (fun t ht => (ra_102 hV14 ht).1)) | (exfalso; omega; done) | (exfalso; contradiction; done)) (show (0 : Int32).toInt ≤ (0 : Int32).toInt from by omega) (show zKU (m 94 10) (m 99) (m 110) from by first | (exact KU_ko (fun s hs => r_KOl s (by omega))) | (exfalso; omega; done) | (exfalso; contradiction; done)) r_W r_DX (show 4 ≤ (m 94 16).toInt from by omega) (show (m 94 60).toInt ≤ (m 94 60).toInt from by omega) (show zDK (m 94 60).toInt (m 94 16).toInt (m 110) (m 99) (m 103) (m 102) (m 98) (m 101) (m 108) (m 117) from by first | (exact DK_ko r_HA (by omega) r_DX (fun s hs => r_KOl s (by omega)) (W_hi r_W)) | (exfalso; omega; done) | (exfalso; contradiction; done)) (show zCQ (m 110) (m 98) (m 101) (m 102) (m 108) (m 119) (0 : Int32) (0 : Int32) (zXX (m 99) (m 103) (0 : Int32).toInt (m 94 60).toInt) 3100 0 from by first | (exact CQ_ko r_HA (by omega) (fun s hs => r_KOl s (by omega)) (by omega) (fun t ht => (ra_103 hV14 ht).1) (fun t ht => (ra_102 hV14 ht).1)) | (exfalso; omega; done) | (exfalso; contradiction; done)) r_GW r_GU (show ((m 94 10).toInt = 2 ∨ (m 94 10).toInt = 3) → zcov (m 110) (m 112) (0 : Int32).toInt from by first | (exact fun hp => cov_0 (by decide)) | (exact fun hp => cov_0 (by decide)) | (exfalso; omega; done) | (exfalso; contradiction; done)) r_UQs
    · skip
      have g24 := i_nle h4
      have hg25 : (0 ≤ l2 ∧ l2.toNatClampNeg < 3100) := i_ix (by omega) (by omega)
      refine ⟨hg25, ?_⟩
      first | have f26 : 0 ≤ (m 99 l2.toNatClampNeg).toInt ∧ (m 99 l2.toNatClampNeg).toInt ≤ 1 := ra_99 (m := m) hV (k := l2.toNatClampNeg) (i_ix (n := 3100) (by omega) (by omega)).2 | have b27 := i_bd (m 99 l2.toNatClampNeg)
      have li28 : (0 : Int32).toInt = 0 := rfl
      refine zd (fun (h29 : (m 99 l2.toNatClampNeg) = (0 : Int32)) => ?_) (fun (h29 : ¬ (m 99 l2.toNatClampNeg) = (0 : Int32)) => ?_)
      · skip
        have g30 := i_eq h29
        have hg31 : (0 ≤ l2 ∧ l2.toNatClampNeg < 3100) := i_ix (by omega) (by omega)
        refine ⟨hg31, ?_⟩
        try have gw := GW_room r_GW
        try have hc4 := (r_HA.2 (by omega)).1
        have hV32 : zV (ma_u m 110 l2.toNatClampNeg (0 : Int32)) := ua_110 hV (by omega) (by omega)
        have b33 := i_bd l1
        first | have e34 : (l2 + (1 : Int32)).toInt = l2.toInt + (1) := i_addk rfl (by omega) (by omega) | have b35 := i_bd (l2 + (1 : Int32))
        exact IH (3100 - (l2 + (1 : Int32)).toInt).toNat (by omega) _ (l1) ((l2 + (1 : Int32))) rfl (zF_u hF rfl) hV32 (by omega) r_W r_GW r_GU r_OW r_DX r_HA (show (m 94 10).toInt = 3 from by omega) r_OF3 (show ∀ s : Nat, (s : Int) < (l2 + (1 : Int32)).toInt → (((ma_u m 110 l2.toNatClampNeg (0 : Int32)) 110) s ≠ 0 ↔ (m 99) s ≠ 0 ∧ ((m 103) s).toInt < (m 94 14).toInt) from by first | (exact KO_step r_KOl (by omega) (by omega) ⟨fun _ => ⟨by assumption, by omega⟩, fun _ => by decide⟩) | (exact KO_step r_KOl (by omega) (by omega) ⟨fun z => absurd rfl z, fun z => absurd (by assumption) z.1⟩) | (exact KO_step r_KOl (by omega) (by omega) ⟨fun z => absurd rfl z, fun z => absurd z.2 (by omega)⟩) | (exfalso; omega; done) | (exfalso; contradiction; done)) r_UQs
      · skip
        have g36 := i_ne h29
        have hg37 : (0 ≤ l2 ∧ l2.toNatClampNeg < 3100) := i_ix (by omega) (by omega)
        refine ⟨hg37, ?_⟩
        have f38 : 0 ≤ (m 94 14).toInt ∧ (m 94 14).toInt ≤ 1500 := rs_94_14 (m := m) hV
        first | have f39 : 0 ≤ (m 103 l2.toNatClampNeg).toInt ∧ (m 103 l2.toNatClampNeg).toInt ≤ 4599 := ra_103 (m := m) hV (k := l2.toNatClampNeg) (i_ix (n := 3100) (by omega) (by omega)).2 | have b40 := i_bd (m 103 l2.toNatClampNeg)
        refine zd (fun (h41 : (m 94 14) ≤ (m 103 l2.toNatClampNeg)) => ?_) (fun (h41 : ¬ (m 94 14) ≤ (m 103 l2.toNatClampNeg)) => ?_)
        · skip
          have g42 := i_le h41
          have hg43 : (0 ≤ l2 ∧ l2.toNatClampNeg < 3100) := i_ix (by omega) (by omega)
          refine ⟨hg43, ?_⟩
          try have gw := GW_room r_GW
          try have hc4 := (r_HA.2 (by omega)).1
          have hV44 : zV (ma_u m 110 l2.toNatClampNeg (0 : Int32)) := ua_110 hV (by omega) (by omega)
          have b45 := i_bd l1
          first | have e46 : (l2 + (1 : Int32)).toInt = l2.toInt + (1) := i_addk rfl (by omega) (by omega) | have b47 := i_bd (l2 + (1 : Int32))
          exact IH (3100 - (l2 + (1 : Int32)).toInt).toNat (by omega) _ (l1) ((l2 + (1 : Int32))) rfl (zF_u hF rfl) hV44 (by omega) r_W r_GW r_GU r_OW r_DX r_HA (show (m 94 10).toInt = 3 from by omega) r_OF3 (show ∀ s : Nat, (s : Int) < (l2 + (1 : Int32)).toInt → (((ma_u m 110 l2.toNatClampNeg (0 : Int32)) 110) s ≠ 0 ↔ (m 99) s ≠ 0 ∧ ((m 103) s).toInt < (m 94 14).toInt) from by first | (exact KO_step r_KOl (by omega) (by omega) ⟨fun _ => ⟨by assumption, by omega⟩, fun _ => by decide⟩) | (exact KO_step r_KOl (by omega) (by omega) ⟨fun z => absurd rfl z, fun z => absurd (by assumption) z.1⟩) | (exact KO_step r_KOl (by omega) (by omega) ⟨fun z => absurd rfl z, fun z => absurd z.2 (by omega)⟩) | (exfalso; omega; done) | (exfalso; contradiction; done)) r_UQs
        · skip
          have g48 := i_nle h41
          have hg49 : (0 ≤ l2 ∧ l2.toNatClampNeg < 3100) := i_ix (by omega) (by omega)
          refine ⟨hg49, ?_⟩
          try have gw := GW_room r_GW
          try have hc4 := (r_HA.2 (by omega)).1
          have li51 : (1 : Int32).toInt = 1 := rfl
          have hV50 : zV (ma_u m 110 l2.toNatClampNeg (1 : Int32)) := ua_110 hV (by omega) (by omega)
          have b52 := i_bd l1
          first | have e53 : (l2 + (1 : Int32)).toInt = l2.toInt + (1) := i_addk rfl (by omega) (by omega) | have b54 := i_bd (l2 + (1 : Int32))
          exact IH (3100 - (l2 + (1 : Int32)).toInt).toNat (by omega) _ (l1) ((l2 + (1 : Int32))) rfl (zF_u hF rfl) hV50 (by omega) r_W r_GW r_GU r_OW r_DX r_HA (show (m 94 10).toInt = 3 from by omega) r_OF3 (show ∀ s : Nat, (s : Int) < (l2 + (1 : Int32)).toInt → (((ma_u m 110 l2.toNatClampNeg (1 : Int32)) 110) s ≠ 0 ↔ (m 99) s ≠ 0 ∧ ((m 103) s).toInt < (m 94 14).toInt) from by first | (exact KO_step r_KOl (by omega) (by omega) ⟨fun _ => ⟨by assumption, by omega⟩, fun _ => by decide⟩) | (exact KO_step r_KOl (by omega) (by omega) ⟨fun z => absurd rfl z, fun z => absurd (by assumption) z.1⟩) | (exact KO_step r_KOl (by omega) (by omega) ⟨fun z => absurd rfl z, fun z => absurd z.2 (by omega)⟩) | (exfalso; omega; done) | (exfalso; contradiction; done)) r_UQs
set_option maxHeartbeats 8000000 in
theorem sp_214uw {X : Nat × (Nat → Int32)} {P : Option ma_V → (Nat → Nat → Int32) → Prop} {T : Nat} {m : Nat → Nat → Int32}  (hV : zV m) (r_W : zW (m 94 7) (m 98) (m 101) (m 102) (m 108)) (r_GW : zGW T (m 94 55) (m 109)) (r_GU : zGU T (m 94 46) (m 99)) (r_OW : zOw (m 99) (m 103) (m 111)) (r_DX : zDX (m 94 10) (m 99) (m 112) (m 113) (m 114) (m 94 55) (m 98) (m 101) (m 102) (m 108)) (r_HA : zHA (m 94 10) (m 94 11) (m 94 13) (m 94 14) (m 94 16) (m 94 61) (m 94 59) (m 94 60) (m 99) (m 102) (m 103) (m 111) (m 117) (m 98) (m 101) (m 108)) (hpre6 : (m 94 10).toInt = 3) (KZ : ∀ v m₉, zV (zov wr_214 m m₉) → (zGW T (m₉ 94 55) (m₉ 109)) → (zGU T (m 94 46) (m₉ 99)) → (zOw (m₉ 99) (m₉ 103) (m₉ 111)) → (zDX (m 94 10) (m₉ 99) (m 112) (m₉ 113) (m₉ 114) (m₉ 94 55) (m 98) (m 101) (m 102) (m 108)) → (zHA (m 94 10) (m 94 11) (m 94 13) (m 94 14) (m 94 16) (m₉ 94 61) (m₉ 94 59) (m₉ 94 60) (m₉ 99) (m 102) (m₉ 103) (m₉ 111) (m₉ 117) (m 98) (m 101) (m 108)) → (zUs (m 99) (m₉ 99)) → P (some (.inl v)) (zov wr_214 m m₉)) : zm X 6 129 214 0 [(0, .inr (.inr (some 94)))] m P := by
  have K : ∀ v m₉, zF wr_214 m m₉ → zV m₉ → (zGW T (m₉ 94 55) (m₉ 109)) → (zGU T (m₉ 94 46) (m₉ 99)) → (zOw (m₉ 99) (m₉ 103) (m₉ 111)) → (zDX (m₉ 94 10) (m₉ 99) (m₉ 112) (m₉ 113) (m₉ 114) (m₉ 94 55) (m₉ 98) (m₉ 101) (m₉ 102) (m₉ 108)) → (zHA (m₉ 94 10) (m₉ 94 11) (m₉ 94 13) (m₉ 94 14) (m₉ 94 16) (m₉ 94 61) (m₉ 94 59) (m₉ 94 60) (m₉ 99) (m₉ 102) (m₉ 103) (m₉ 111) (m₉ 117) (m₉ 98) (m₉ 101) (m₉ 108)) → (zUs (m 99) (m₉ 99)) → P (some (.inl v)) m₉ := by
    intro v m₉ hf z q0 q1 q2 q3 q4 q5
    have e := zov_eq hf
    rw [e] at z ⊢
    try rw [e] at q0
    try rw [e] at q1
    try rw [e] at q2
    try rw [e] at q3
    try rw [e] at q4
    try rw [e] at q5
    exact KZ v m₉ z q0 q1 q2 q3 q4 q5
  refine g_214_0  ?_
  have f1 : 0 ≤ (m 94 10).toInt ∧ (m 94 10).toInt ≤ 6 := rs_94_10 (m := m) hV
  try have hc4 := (r_HA.2 (by omega)).1
  try have gw := GW_room r_GW
  refine sp_215  hV  (fun v2 m1 hV_m1 hb_m1 p0_m1 => zmi_n ?_)
  have p0_m1 : v2.toInt = 1 ∨ (m 94 60).toInt + sm (zbG (m 99) (m 103) (m 94 14) (m 104) (m 94 15)) (m 102) 3100 ≤ (m 94 14).toInt := p0_m1
  have f2 := i_01 hb_m1
  have li3 : (0 : Int32).toInt = 0 := rfl
  refine zd (fun (h4 : v2 = (0 : Int32)) => ?_) (fun (h4 : ¬ v2 = (0 : Int32)) => ?_)
  · skip
    have g5 := i_eq h4
    try have hc4 := (r_HA.2 (by omega)).1
    try have gw := GW_room r_GW
    refine sp_215  hV_m1  (fun v4 m3 hV_m3 hb_m3 p0_m3 => zmi_n ?_)
    have p0_m3 : v4.toInt = 1 ∨ (m 94 60).toInt + sm (zbG (m 99) (m 103) (m 94 14) (m 104) (m 94 15)) (m 102) 3100 ≤ (m 94 14).toInt := p0_m3
    have f6 := i_01 hb_m3
    refine zd (fun (h7 : v4 = (0 : Int32)) => ?_) (fun (h7 : ¬ v4 = (0 : Int32)) => ?_)
    · skip
      have g8 := i_eq h7
      try have gw := GW_room r_GW
      try have hc4 := (r_HA.2 (by omega)).1
      have hV9 : zV (ma_u (zov wr_215 (zov wr_215 m m1) m3) 94 47 ((m 94 47) + (1 : Int32))) := uf_94_47 hV_m3
      exact lp_214uw_35 hV K _ _ ((0 : Int32)) ((0 : Int32)) rfl (zF_u (zF_zov (zF_zov zF_rfl ws_215_214) ws_215_214) rfl) hV9 (by omega) r_W r_GW r_GU r_OW r_DX r_HA (show (m 94 10).toInt = 3 from by omega) (show (m 94 60).toInt + sm (zbG (m 99) (m 103) (m 94 14) (m 104) (m 94 15)) (m 102) 3100 ≤ (m 94 14).toInt from by first | (exact p0_m3.elim (fun z => absurd z (by omega)) id) | (exfalso; omega; done) | (exfalso; contradiction; done)) (show ∀ s : Nat, (s : Int) < (0 : Int32).toInt → ((m 110) s ≠ 0 ↔ (m 99) s ≠ 0 ∧ ((m 103) s).toInt < (m 94 14).toInt) from by first | (intro s hs; omega; done) | (exfalso; omega; done) | (exfalso; contradiction; done)) (show zUs (m 99) (m 99) from by first | (exact Us_rfl) | (exact Us_w0 Us_rfl) | (exact Us_rfl) | (exfalso; omega; done) | (exfalso; contradiction; done))
    · skip
      have g10 := i_ne h7
      try have gw := GW_room r_GW
      try have hc4 := (r_HA.2 (by omega)).1
      exact K ((0 : Int32)) _ (zF_zov (zF_zov zF_rfl ws_215_214) ws_215_214) hV_m3 r_GW r_GU r_OW r_DX r_HA (show zUs (m 99) (m 99) from by first | (exact Us_rfl) | (exact Us_w0 Us_rfl) | (exact Us_rfl) | (exfalso; omega; done) | (exfalso; contradiction; done))
  · skip
    have g11 := i_ne h4
    try have hc4 := (r_HA.2 (by omega)).1
    try have gw := GW_room r_GW
    refine sp_211uw  hV_m1 r_W r_GW r_GU r_OW r_DX r_HA (show (m 94 10).toInt = 3 from by omega) (fun v6 m5 hV_m5 p0_m5 p1_m5 p2_m5 p3_m5 p4_m5 p5_m5 => zmi_n ?_)
    have p0_m5 : zGW T (m5 94 55) (m5 109) := p0_m5
    have p1_m5 : zGU T (m 94 46) (m5 99) := p1_m5
    have p2_m5 : zOw (m5 99) (m5 103) (m5 111) := p2_m5
    have p3_m5 : zDX (m 94 10) (m5 99) (m 112) (m5 113) (m5 114) (m5 94 55) (m 98) (m 101) (m 102) (m 108) := p3_m5
    have p4_m5 : zHA (m 94 10) (m 94 11) (m 94 13) (m 94 14) (m 94 16) (m 94 61) (m 94 59) (m5 94 60) (m5 99) (m 102) (m5 103) (m5 111) (m5 117) (m 98) (m 101) (m 108) := p4_m5
    have p5_m5 : zUs (m 99) (m5 99) := p5_m5
    try have hc4 := (p4_m5.2 (by omega)).1
    try have gw := GW_room p0_m5
    refine sp_215  hV_m5  (fun v8 m7 hV_m7 hb_m7 p0_m7 => zmi_n ?_)
    have p0_m7 : v8.toInt = 1 ∨ (m5 94 60).toInt + sm (zbG (m5 99) (m5 103) (m 94 14) (m 104) (m 94 15)) (m 102) 3100 ≤ (m 94 14).toInt := p0_m7
    have f12 := i_01 hb_m7
    refine zd (fun (h13 : v8 = (0 : Int32)) => ?_) (fun (h13 : ¬ v8 = (0 : Int32)) => ?_)
    · skip
      have g14 := i_eq h13
      try have gw := GW_room p0_m5
      try have hc4 := (p4_m5.2 (by omega)).1
      have hV15 : zV (ma_u (zov wr_215 (zov wr_211 (zov wr_215 m m1) m5) m7) 94 47 ((m5 94 47) + (1 : Int32))) := uf_94_47 hV_m7
      have b16 := i_bd v6
      exact lp_214uw_35 hV K _ _ (v6) ((0 : Int32)) rfl (zF_u (zF_zov (zF_zov (zF_zov zF_rfl ws_215_214) ws_211_214) ws_215_214) rfl) hV15 (by omega) r_W p0_m5 p1_m5 p2_m5 p3_m5 p4_m5 (show (m 94 10).toInt = 3 from by omega) (show (m5 94 60).toInt + sm (zbG (m5 99) (m5 103) (m 94 14) (m 104) (m 94 15)) (m 102) 3100 ≤ (m 94 14).toInt from by first | (exact p0_m7.elim (fun z => absurd z (by omega)) id) | (exfalso; omega; done) | (exfalso; contradiction; done)) (show ∀ s : Nat, (s : Int) < (0 : Int32).toInt → ((m5 110) s ≠ 0 ↔ (m5 99) s ≠ 0 ∧ ((m5 103) s).toInt < (m 94 14).toInt) from by first | (intro s hs; omega; done) | (exfalso; omega; done) | (exfalso; contradiction; done)) p5_m5
    · skip
      have g17 := i_ne h13
      try have gw := GW_room p0_m5
      try have hc4 := (p4_m5.2 (by omega)).1
      have b18 := i_bd v6
      exact K (v6) _ (zF_zov (zF_zov (zF_zov zF_rfl ws_215_214) ws_211_214) ws_215_214) hV_m7 p0_m5 p1_m5 p2_m5 p3_m5 p4_m5 p5_m5

