/-! the reference before the first heap (written by wip/tools/gen96z.py) -/
theorem sp_170x {X : Nat × (Nat → Int32)} {P : Option ma_V → (Nat → Nat → Int32) → Prop} {T : Nat} {m : Nat → Nat → Int32} (nw : Int32) (rf : Int32) (hV : zV m) (r_W : zW (m 94 7) (m 98) (m 101) (m 102) (m 108)) (r_GW : zGW T (m 94 55) (m 109)) (r_GU : zGU T (m 94 46) (m 99)) (r_OW : zOw (m 99) (m 103) (m 111)) (r_DX : zDX (m 94 10) (m 99) (m 112) (m 113) (m 114) (m 94 55) (m 98) (m 101) (m 102) (m 108)) (r_GG : zGG (m 94 58) (m 94 56) (m 94 57) (m 106)) (r_HA : zHA (m 94 10) (m 94 11) (m 94 13) (m 94 14) (m 94 16) (m 94 61) (m 94 59) (m 94 60) (m 99) (m 102) (m 103) (m 111) (m 117) (m 98) (m 101) (m 108)) (r_RGc : zRG (m 94 10) (m 94 18) (m 94 64) (m 94 63) (m 99) (m 103) (m 102) (m 116)) (hpre8 : (m 94 58).toInt = 0 ∨ (m 94 10).toInt = 5) (KZ : ∀ v m', zV (zov wr_170 m m') → (zW (m' 94 7) (m' 98) (m 101) (m 102) (m 108)) → (zGW T (m 94 55) (m 109)) → (zGU T (m 94 46) (m 99)) → (zOw (m 99) (m 103) (m 111)) → (zDX (m 94 10) (m 99) (m 112) (m 113) (m 114) (m 94 55) (m' 98) (m 101) (m 102) (m 108)) → (zGG (m 94 58) (m 94 56) (m 94 57) (m 106)) → (zHA (m 94 10) (m 94 11) (m 94 13) (m 94 14) (m 94 16) (m 94 61) (m 94 59) (m 94 60) (m 99) (m 102) (m 103) (m 111) (m 117) (m' 98) (m 101) (m 108)) → (zRG (m 94 10) (m 94 18) (m 94 64) (m 94 63) (m 99) (m 103) (m 102) (m 116)) → ((m 94 58).toInt = 0 ∨ (m 94 10).toInt = 5) → (((nw.toInt < 0 ∨ 8 < nw.toInt ∨ rf.toInt < 0 ∨ ((1 : Int32) <<< (nw &&& 31)).toInt ≤ rf.toInt) ∧ (m' 94 0).toInt = 1 ∧ (m' 94 7).toInt = (m 94 7).toInt) ∨ (¬ (nw.toInt < 0 ∨ 8 < nw.toInt ∨ rf.toInt < 0 ∨ ((1 : Int32) <<< (nw &&& 31)).toInt ≤ rf.toInt) ∧ (m 94 7).toInt = 16 ∧ (m' 94 0).toInt = 2 ∧ (m' 94 7).toInt = (m 94 7).toInt) ∨ (¬ (nw.toInt < 0 ∨ 8 < nw.toInt ∨ rf.toInt < 0 ∨ ((1 : Int32) <<< (nw &&& 31)).toInt ≤ rf.toInt) ∧ (m 94 7).toInt < 16 ∧ (m' 94 0).toInt = 0 ∧ (m' 94 7).toInt = (m 94 7).toInt + 1 ∧ v.toInt = (m 94 7).toInt)) → P (some (.inl v)) (zov wr_170 m m')) : zm X 1 21 170 0 [(0, .inr (.inr (some 94))), (1, .inl nw), (2, .inl rf)] m P := by
  have K : ∀ v m', zF wr_170 m m' → zV m' → (zW (m' 94 7) (m' 98) (m' 101) (m' 102) (m' 108)) → (zGW T (m' 94 55) (m' 109)) → (zGU T (m' 94 46) (m' 99)) → (zOw (m' 99) (m' 103) (m' 111)) → (zDX (m' 94 10) (m' 99) (m' 112) (m' 113) (m' 114) (m' 94 55) (m' 98) (m' 101) (m' 102) (m' 108)) → (zGG (m' 94 58) (m' 94 56) (m' 94 57) (m' 106)) → (zHA (m' 94 10) (m' 94 11) (m' 94 13) (m' 94 14) (m' 94 16) (m' 94 61) (m' 94 59) (m' 94 60) (m' 99) (m' 102) (m' 103) (m' 111) (m' 117) (m' 98) (m' 101) (m' 108)) → (zRG (m' 94 10) (m' 94 18) (m' 94 64) (m' 94 63) (m' 99) (m' 103) (m' 102) (m' 116)) → ((m' 94 58).toInt = 0 ∨ (m' 94 10).toInt = 5) → (((nw.toInt < 0 ∨ 8 < nw.toInt ∨ rf.toInt < 0 ∨ ((1 : Int32) <<< (nw &&& 31)).toInt ≤ rf.toInt) ∧ (m' 94 0).toInt = 1 ∧ (m' 94 7).toInt = (m 94 7).toInt) ∨ (¬ (nw.toInt < 0 ∨ 8 < nw.toInt ∨ rf.toInt < 0 ∨ ((1 : Int32) <<< (nw &&& 31)).toInt ≤ rf.toInt) ∧ (m 94 7).toInt = 16 ∧ (m' 94 0).toInt = 2 ∧ (m' 94 7).toInt = (m 94 7).toInt) ∨ (¬ (nw.toInt < 0 ∨ 8 < nw.toInt ∨ rf.toInt < 0 ∨ ((1 : Int32) <<< (nw &&& 31)).toInt ≤ rf.toInt) ∧ (m 94 7).toInt < 16 ∧ (m' 94 0).toInt = 0 ∧ (m' 94 7).toInt = (m 94 7).toInt + 1 ∧ v.toInt = (m 94 7).toInt)) → P (some (.inl v)) m' := by
    intro v m' hf z q0 q1 q2 q3 q4 q5 q6 q7 q8 q9
    have e := zov_eq hf
    rw [e] at z ⊢
    try rw [e] at q0
    try rw [e] at q1
    try rw [e] at q2
    try rw [e] at q3
    try rw [e] at q4
    try rw [e] at q5
    try rw [e] at q6
    try rw [e] at q7
    try rw [e] at q8
    try rw [e] at q9
    exact KZ v m' z q0 q1 q2 q3 q4 q5 q6 q7 q8 q9
  refine g_170_0 nw rf ?_
  have f1 : 0 ≤ (m 94 58).toInt ∧ (m 94 58).toInt ≤ 1 := rs_94_58 (m := m) hV
  have f2 : 0 ≤ (m 94 10).toInt ∧ (m 94 10).toInt ≤ 6 := rs_94_10 (m := m) hV
  have b3 := i_bd nw
  have li4 : (0 : Int32).toInt = 0 := rfl
  refine zd (fun (h5 : nw < (0 : Int32)) => ?_) (fun (h5 : ¬ nw < (0 : Int32)) => ?_)
  · skip
    have g6 := i_lt h5
    have hV7 : zV (ma_u m 94 0 (1 : Int32)) := uf_94_0 hV
    have li8 : (1 : Int32).toInt = 1 := rfl
    have f9 : 0 ≤ (m 94 7).toInt ∧ (m 94 7).toInt ≤ 16 := rs_94_7 (m := m) hV
    exact K ((0 : Int32)) _ (zF_u zF_rfl rfl) hV7 r_W r_GW r_GU r_OW r_DX r_GG r_HA r_RGc (show (m 94 58).toInt = 0 ∨ (m 94 10).toInt = 5 from by omega) (show ((nw.toInt < 0 ∨ 8 < nw.toInt ∨ rf.toInt < 0 ∨ ((1 : Int32) <<< (nw &&& 31)).toInt ≤ rf.toInt) ∧ (1 : Int32).toInt = 1 ∧ (m 94 7).toInt = (m 94 7).toInt) ∨ (¬ (nw.toInt < 0 ∨ 8 < nw.toInt ∨ rf.toInt < 0 ∨ ((1 : Int32) <<< (nw &&& 31)).toInt ≤ rf.toInt) ∧ (m 94 7).toInt = 16 ∧ (1 : Int32).toInt = 2 ∧ (m 94 7).toInt = (m 94 7).toInt) ∨ (¬ (nw.toInt < 0 ∨ 8 < nw.toInt ∨ rf.toInt < 0 ∨ ((1 : Int32) <<< (nw &&& 31)).toInt ≤ rf.toInt) ∧ (m 94 7).toInt < 16 ∧ (1 : Int32).toInt = 0 ∧ (m 94 7).toInt = (m 94 7).toInt + 1 ∧ (0 : Int32).toInt = (m 94 7).toInt) from by omega)
  · skip
    have g10 := i_nlt h5
    have li11 : (8 : Int32).toInt = 8 := rfl
    refine zd (fun (h12 : nw ≤ (8 : Int32)) => ?_) (fun (h12 : ¬ nw ≤ (8 : Int32)) => ?_)
    · skip
      have g13 := i_le h12
      have b14 := i_bd rf
      refine zd (fun (h15 : rf < (0 : Int32)) => ?_) (fun (h15 : ¬ rf < (0 : Int32)) => ?_)
      · skip
        have g16 := i_lt h15
        have hV17 : zV (ma_u m 94 0 (1 : Int32)) := uf_94_0 hV
        have li18 : (1 : Int32).toInt = 1 := rfl
        have f19 : 0 ≤ (m 94 7).toInt ∧ (m 94 7).toInt ≤ 16 := rs_94_7 (m := m) hV
        exact K ((0 : Int32)) _ (zF_u zF_rfl rfl) hV17 r_W r_GW r_GU r_OW r_DX r_GG r_HA r_RGc (show (m 94 58).toInt = 0 ∨ (m 94 10).toInt = 5 from by omega) (show ((nw.toInt < 0 ∨ 8 < nw.toInt ∨ rf.toInt < 0 ∨ ((1 : Int32) <<< (nw &&& 31)).toInt ≤ rf.toInt) ∧ (1 : Int32).toInt = 1 ∧ (m 94 7).toInt = (m 94 7).toInt) ∨ (¬ (nw.toInt < 0 ∨ 8 < nw.toInt ∨ rf.toInt < 0 ∨ ((1 : Int32) <<< (nw &&& 31)).toInt ≤ rf.toInt) ∧ (m 94 7).toInt = 16 ∧ (1 : Int32).toInt = 2 ∧ (m 94 7).toInt = (m 94 7).toInt) ∨ (¬ (nw.toInt < 0 ∨ 8 < nw.toInt ∨ rf.toInt < 0 ∨ ((1 : Int32) <<< (nw &&& 31)).toInt ≤ rf.toInt) ∧ (m 94 7).toInt < 16 ∧ (1 : Int32).toInt = 0 ∧ (m 94 7).toInt = (m 94 7).toInt + 1 ∧ (0 : Int32).toInt = (m 94 7).toInt) from by omega)
      · skip
        have g20 := i_nlt h15
        have b21 := i_bd ((1 : Int32) <<< (nw &&& 31))
        refine zd (fun (h22 : rf < ((1 : Int32) <<< (nw &&& 31))) => ?_) (fun (h22 : ¬ rf < ((1 : Int32) <<< (nw &&& 31))) => ?_)
        · skip
          have g23 := i_lt h22
          have f24 : 0 ≤ (m 94 7).toInt ∧ (m 94 7).toInt ≤ 16 := rs_94_7 (m := m) hV
          have li25 : (16 : Int32).toInt = 16 := rfl
          refine zd (fun (h26 : (m 94 7) = (16 : Int32)) => ?_) (fun (h26 : ¬ (m 94 7) = (16 : Int32)) => ?_)
          · skip
            have g27 := i_eq h26
            have hV28 : zV (ma_u m 94 0 (2 : Int32)) := uf_94_0 hV
            have li29 : (2 : Int32).toInt = 2 := rfl
            exact K ((0 : Int32)) _ (zF_u zF_rfl rfl) hV28 r_W r_GW r_GU r_OW r_DX r_GG r_HA r_RGc (show (m 94 58).toInt = 0 ∨ (m 94 10).toInt = 5 from by omega) (show ((nw.toInt < 0 ∨ 8 < nw.toInt ∨ rf.toInt < 0 ∨ ((1 : Int32) <<< (nw &&& 31)).toInt ≤ rf.toInt) ∧ (2 : Int32).toInt = 1 ∧ (m 94 7).toInt = (m 94 7).toInt) ∨ (¬ (nw.toInt < 0 ∨ 8 < nw.toInt ∨ rf.toInt < 0 ∨ ((1 : Int32) <<< (nw &&& 31)).toInt ≤ rf.toInt) ∧ (m 94 7).toInt = 16 ∧ (2 : Int32).toInt = 2 ∧ (m 94 7).toInt = (m 94 7).toInt) ∨ (¬ (nw.toInt < 0 ∨ 8 < nw.toInt ∨ rf.toInt < 0 ∨ ((1 : Int32) <<< (nw &&& 31)).toInt ≤ rf.toInt) ∧ (m 94 7).toInt < 16 ∧ (2 : Int32).toInt = 0 ∧ (m 94 7).toInt = (m 94 7).toInt + 1 ∧ (0 : Int32).toInt = (m 94 7).toInt) from by omega)
          · skip
            have g30 := i_ne h26
            have hg31 : (0 ≤ (m 94 7) ∧ (m 94 7).toNatClampNeg < 16) := i_ix (by omega) (by omega)
            refine ⟨hg31, ?_⟩
            try have sh := i_shl8 (n := nw) (by omega) (by omega)
            have hg32 : (0 ≤ (m 94 7) ∧ (m 94 7).toNatClampNeg < 16) := i_ix (by omega) (by omega)
            refine ⟨hg32, ?_⟩
            have hV33 : zV (ma_u m 94 0 (0 : Int32)) := uf_94_0 hV
            have hV34 : zV (ma_u (ma_u m 94 0 (0 : Int32)) 97 (m 94 7).toNatClampNeg nw) := ua_97 hV33 (by omega) (by omega)
            have hV35 : zV (ma_u (ma_u (ma_u m 94 0 (0 : Int32)) 97 (m 94 7).toNatClampNeg nw) 98 (m 94 7).toNatClampNeg rf) := ua_98 hV34 (by omega) (by omega)
            first | have e37 : ((m 94 7) + (1 : Int32)).toInt = (m 94 7).toInt + (1) := i_addk rfl (by omega) (by omega) | have b38 := i_bd ((m 94 7) + (1 : Int32))
            have hV36 : zV (ma_u (ma_u (ma_u (ma_u m 94 0 (0 : Int32)) 97 (m 94 7).toNatClampNeg nw) 98 (m 94 7).toNatClampNeg rf) 94 7 ((m 94 7) + (1 : Int32))) := us_94_7 hV35 (by omega) (by omega)
            first | have e39 : (((m 94 7) + (1 : Int32)) - (1 : Int32)).toInt = ((m 94 7) + (1 : Int32)).toInt - (1) := i_subk rfl (by omega) (by omega) | have b40 := i_bd (((m 94 7) + (1 : Int32)) - (1 : Int32))
            exact K ((((m 94 7) + (1 : Int32)) - (1 : Int32))) _ (zF_u (zF_u (zF_u (zF_u zF_rfl rfl) rfl) rfl) rfl) hV36 (show zW ((m 94 7) + (1 : Int32)) ((ma_u m 98 (m 94 7).toNatClampNeg rf) 98) (m 101) (m 102) (m 108) from by first | (exact W_same r_W (by omega) (zrf_kind r_W (tn_cast (by omega)) (fun t ht => (ra_101 hV ht).1))) | (exfalso; omega; done) | (exfalso; contradiction; done)) r_GW r_GU r_OW (show zDX (m 94 10) (m 99) (m 112) (m 113) (m 114) (m 94 55) ((ma_u m 98 (m 94 7).toNatClampNeg rf) 98) (m 101) (m 102) (m 108) from by first | (exact DX_same r_DX (zrf_kind r_W (tn_cast (by omega)) (fun t ht => (ra_101 hV ht).1))) | (exfalso; omega; done) | (exfalso; contradiction; done)) r_GG (show zHA (m 94 10) (m 94 11) (m 94 13) (m 94 14) (m 94 16) (m 94 61) (m 94 59) (m 94 60) (m 99) (m 102) (m 103) (m 111) (m 117) ((ma_u m 98 (m 94 7).toNatClampNeg rf) 98) (m 101) (m 108) from by first | (exact HA_same r_HA (zrf_kind r_W (tn_cast (by omega)) (fun t ht => (ra_101 hV ht).1))) | (exfalso; omega; done) | (exfalso; contradiction; done)) r_RGc (show (m 94 58).toInt = 0 ∨ (m 94 10).toInt = 5 from by omega) (show ((nw.toInt < 0 ∨ 8 < nw.toInt ∨ rf.toInt < 0 ∨ ((1 : Int32) <<< (nw &&& 31)).toInt ≤ rf.toInt) ∧ (0 : Int32).toInt = 1 ∧ ((m 94 7) + (1 : Int32)).toInt = (m 94 7).toInt) ∨ (¬ (nw.toInt < 0 ∨ 8 < nw.toInt ∨ rf.toInt < 0 ∨ ((1 : Int32) <<< (nw &&& 31)).toInt ≤ rf.toInt) ∧ (m 94 7).toInt = 16 ∧ (0 : Int32).toInt = 2 ∧ ((m 94 7) + (1 : Int32)).toInt = (m 94 7).toInt) ∨ (¬ (nw.toInt < 0 ∨ 8 < nw.toInt ∨ rf.toInt < 0 ∨ ((1 : Int32) <<< (nw &&& 31)).toInt ≤ rf.toInt) ∧ (m 94 7).toInt < 16 ∧ (0 : Int32).toInt = 0 ∧ ((m 94 7) + (1 : Int32)).toInt = (m 94 7).toInt + 1 ∧ (((m 94 7) + (1 : Int32)) - (1 : Int32)).toInt = (m 94 7).toInt) from by omega)
        · skip
          have g41 := i_nlt h22
          have hV42 : zV (ma_u m 94 0 (1 : Int32)) := uf_94_0 hV
          have li43 : (1 : Int32).toInt = 1 := rfl
          have f44 : 0 ≤ (m 94 7).toInt ∧ (m 94 7).toInt ≤ 16 := rs_94_7 (m := m) hV
          exact K ((0 : Int32)) _ (zF_u zF_rfl rfl) hV42 r_W r_GW r_GU r_OW r_DX r_GG r_HA r_RGc (show (m 94 58).toInt = 0 ∨ (m 94 10).toInt = 5 from by omega) (show ((nw.toInt < 0 ∨ 8 < nw.toInt ∨ rf.toInt < 0 ∨ ((1 : Int32) <<< (nw &&& 31)).toInt ≤ rf.toInt) ∧ (1 : Int32).toInt = 1 ∧ (m 94 7).toInt = (m 94 7).toInt) ∨ (¬ (nw.toInt < 0 ∨ 8 < nw.toInt ∨ rf.toInt < 0 ∨ ((1 : Int32) <<< (nw &&& 31)).toInt ≤ rf.toInt) ∧ (m 94 7).toInt = 16 ∧ (1 : Int32).toInt = 2 ∧ (m 94 7).toInt = (m 94 7).toInt) ∨ (¬ (nw.toInt < 0 ∨ 8 < nw.toInt ∨ rf.toInt < 0 ∨ ((1 : Int32) <<< (nw &&& 31)).toInt ≤ rf.toInt) ∧ (m 94 7).toInt < 16 ∧ (1 : Int32).toInt = 0 ∧ (m 94 7).toInt = (m 94 7).toInt + 1 ∧ (0 : Int32).toInt = (m 94 7).toInt) from by omega)
    · skip
      have g45 := i_nle h12
      have hV46 : zV (ma_u m 94 0 (1 : Int32)) := uf_94_0 hV
      have li47 : (1 : Int32).toInt = 1 := rfl
      have f48 : 0 ≤ (m 94 7).toInt ∧ (m 94 7).toInt ≤ 16 := rs_94_7 (m := m) hV
      exact K ((0 : Int32)) _ (zF_u zF_rfl rfl) hV46 r_W r_GW r_GU r_OW r_DX r_GG r_HA r_RGc (show (m 94 58).toInt = 0 ∨ (m 94 10).toInt = 5 from by omega) (show ((nw.toInt < 0 ∨ 8 < nw.toInt ∨ rf.toInt < 0 ∨ ((1 : Int32) <<< (nw &&& 31)).toInt ≤ rf.toInt) ∧ (1 : Int32).toInt = 1 ∧ (m 94 7).toInt = (m 94 7).toInt) ∨ (¬ (nw.toInt < 0 ∨ 8 < nw.toInt ∨ rf.toInt < 0 ∨ ((1 : Int32) <<< (nw &&& 31)).toInt ≤ rf.toInt) ∧ (m 94 7).toInt = 16 ∧ (1 : Int32).toInt = 2 ∧ (m 94 7).toInt = (m 94 7).toInt) ∨ (¬ (nw.toInt < 0 ∨ 8 < nw.toInt ∨ rf.toInt < 0 ∨ ((1 : Int32) <<< (nw &&& 31)).toInt ≤ rf.toInt) ∧ (m 94 7).toInt < 16 ∧ (1 : Int32).toInt = 0 ∧ (m 94 7).toInt = (m 94 7).toInt + 1 ∧ (0 : Int32).toInt = (m 94 7).toInt) from by omega)
theorem sp_170z {X : Nat × (Nat → Int32)} {P : Option ma_V → (Nat → Nat → Int32) → Prop} {T : Nat} {m : Nat → Nat → Int32} (nw : Int32) (rf : Int32) (hV : zV m) (hpre0 : (m 94 8).toInt = 0) (r_W : zW (m 94 7) (m 98) (m 101) (m 102) (m 108)) (r_GW : zGW T (m 94 55) (m 109)) (KZ : ∀ v m', zV (zov wr_170 m m') → ((m 94 8).toInt = 0) → (zW (m' 94 7) (m' 98) (m 101) (m 102) (m 108)) → (zGW T (m 94 55) (m 109)) → (((nw.toInt < 0 ∨ 8 < nw.toInt ∨ rf.toInt < 0 ∨ ((1 : Int32) <<< (nw &&& 31)).toInt ≤ rf.toInt) ∧ (m' 94 0).toInt = 1 ∧ (m' 94 7).toInt = (m 94 7).toInt) ∨ (¬ (nw.toInt < 0 ∨ 8 < nw.toInt ∨ rf.toInt < 0 ∨ ((1 : Int32) <<< (nw &&& 31)).toInt ≤ rf.toInt) ∧ (m 94 7).toInt = 16 ∧ (m' 94 0).toInt = 2 ∧ (m' 94 7).toInt = (m 94 7).toInt) ∨ (¬ (nw.toInt < 0 ∨ 8 < nw.toInt ∨ rf.toInt < 0 ∨ ((1 : Int32) <<< (nw &&& 31)).toInt ≤ rf.toInt) ∧ (m 94 7).toInt < 16 ∧ (m' 94 0).toInt = 0 ∧ (m' 94 7).toInt = (m 94 7).toInt + 1 ∧ v.toInt = (m 94 7).toInt)) → P (some (.inl v)) (zov wr_170 m m')) : zm X 1 21 170 0 [(0, .inr (.inr (some 94))), (1, .inl nw), (2, .inl rf)] m P := by
  have K : ∀ v m', zF wr_170 m m' → zV m' → ((m' 94 8).toInt = 0) → (zW (m' 94 7) (m' 98) (m' 101) (m' 102) (m' 108)) → (zGW T (m' 94 55) (m' 109)) → (((nw.toInt < 0 ∨ 8 < nw.toInt ∨ rf.toInt < 0 ∨ ((1 : Int32) <<< (nw &&& 31)).toInt ≤ rf.toInt) ∧ (m' 94 0).toInt = 1 ∧ (m' 94 7).toInt = (m 94 7).toInt) ∨ (¬ (nw.toInt < 0 ∨ 8 < nw.toInt ∨ rf.toInt < 0 ∨ ((1 : Int32) <<< (nw &&& 31)).toInt ≤ rf.toInt) ∧ (m 94 7).toInt = 16 ∧ (m' 94 0).toInt = 2 ∧ (m' 94 7).toInt = (m 94 7).toInt) ∨ (¬ (nw.toInt < 0 ∨ 8 < nw.toInt ∨ rf.toInt < 0 ∨ ((1 : Int32) <<< (nw &&& 31)).toInt ≤ rf.toInt) ∧ (m 94 7).toInt < 16 ∧ (m' 94 0).toInt = 0 ∧ (m' 94 7).toInt = (m 94 7).toInt + 1 ∧ v.toInt = (m 94 7).toInt)) → P (some (.inl v)) m' := by
    intro v m' hf z q0 q1 q2 q3
    have e := zov_eq hf
    rw [e] at z ⊢
    try rw [e] at q0
    try rw [e] at q1
    try rw [e] at q2
    try rw [e] at q3
    exact KZ v m' z q0 q1 q2 q3
  refine g_170_0 nw rf ?_
  have f1 : 0 ≤ (m 94 8).toInt ∧ (m 94 8).toInt ≤ 1 := rs_94_8 (m := m) hV
  have b2 := i_bd nw
  have li3 : (0 : Int32).toInt = 0 := rfl
  refine zd (fun (h4 : nw < (0 : Int32)) => ?_) (fun (h4 : ¬ nw < (0 : Int32)) => ?_)
  · skip
    have g5 := i_lt h4
    have hV6 : zV (ma_u m 94 0 (1 : Int32)) := uf_94_0 hV
    have li7 : (1 : Int32).toInt = 1 := rfl
    have f8 : 0 ≤ (m 94 7).toInt ∧ (m 94 7).toInt ≤ 16 := rs_94_7 (m := m) hV
    exact K ((0 : Int32)) _ (zF_u zF_rfl rfl) hV6 (show (m 94 8).toInt = 0 from by omega) r_W r_GW (show ((nw.toInt < 0 ∨ 8 < nw.toInt ∨ rf.toInt < 0 ∨ ((1 : Int32) <<< (nw &&& 31)).toInt ≤ rf.toInt) ∧ (1 : Int32).toInt = 1 ∧ (m 94 7).toInt = (m 94 7).toInt) ∨ (¬ (nw.toInt < 0 ∨ 8 < nw.toInt ∨ rf.toInt < 0 ∨ ((1 : Int32) <<< (nw &&& 31)).toInt ≤ rf.toInt) ∧ (m 94 7).toInt = 16 ∧ (1 : Int32).toInt = 2 ∧ (m 94 7).toInt = (m 94 7).toInt) ∨ (¬ (nw.toInt < 0 ∨ 8 < nw.toInt ∨ rf.toInt < 0 ∨ ((1 : Int32) <<< (nw &&& 31)).toInt ≤ rf.toInt) ∧ (m 94 7).toInt < 16 ∧ (1 : Int32).toInt = 0 ∧ (m 94 7).toInt = (m 94 7).toInt + 1 ∧ (0 : Int32).toInt = (m 94 7).toInt) from by omega)
  · skip
    have g9 := i_nlt h4
    have li10 : (8 : Int32).toInt = 8 := rfl
    refine zd (fun (h11 : nw ≤ (8 : Int32)) => ?_) (fun (h11 : ¬ nw ≤ (8 : Int32)) => ?_)
    · skip
      have g12 := i_le h11
      have b13 := i_bd rf
      refine zd (fun (h14 : rf < (0 : Int32)) => ?_) (fun (h14 : ¬ rf < (0 : Int32)) => ?_)
      · skip
        have g15 := i_lt h14
        have hV16 : zV (ma_u m 94 0 (1 : Int32)) := uf_94_0 hV
        have li17 : (1 : Int32).toInt = 1 := rfl
        have f18 : 0 ≤ (m 94 7).toInt ∧ (m 94 7).toInt ≤ 16 := rs_94_7 (m := m) hV
        exact K ((0 : Int32)) _ (zF_u zF_rfl rfl) hV16 (show (m 94 8).toInt = 0 from by omega) r_W r_GW (show ((nw.toInt < 0 ∨ 8 < nw.toInt ∨ rf.toInt < 0 ∨ ((1 : Int32) <<< (nw &&& 31)).toInt ≤ rf.toInt) ∧ (1 : Int32).toInt = 1 ∧ (m 94 7).toInt = (m 94 7).toInt) ∨ (¬ (nw.toInt < 0 ∨ 8 < nw.toInt ∨ rf.toInt < 0 ∨ ((1 : Int32) <<< (nw &&& 31)).toInt ≤ rf.toInt) ∧ (m 94 7).toInt = 16 ∧ (1 : Int32).toInt = 2 ∧ (m 94 7).toInt = (m 94 7).toInt) ∨ (¬ (nw.toInt < 0 ∨ 8 < nw.toInt ∨ rf.toInt < 0 ∨ ((1 : Int32) <<< (nw &&& 31)).toInt ≤ rf.toInt) ∧ (m 94 7).toInt < 16 ∧ (1 : Int32).toInt = 0 ∧ (m 94 7).toInt = (m 94 7).toInt + 1 ∧ (0 : Int32).toInt = (m 94 7).toInt) from by omega)
      · skip
        have g19 := i_nlt h14
        have b20 := i_bd ((1 : Int32) <<< (nw &&& 31))
        refine zd (fun (h21 : rf < ((1 : Int32) <<< (nw &&& 31))) => ?_) (fun (h21 : ¬ rf < ((1 : Int32) <<< (nw &&& 31))) => ?_)
        · skip
          have g22 := i_lt h21
          have f23 : 0 ≤ (m 94 7).toInt ∧ (m 94 7).toInt ≤ 16 := rs_94_7 (m := m) hV
          have li24 : (16 : Int32).toInt = 16 := rfl
          refine zd (fun (h25 : (m 94 7) = (16 : Int32)) => ?_) (fun (h25 : ¬ (m 94 7) = (16 : Int32)) => ?_)
          · skip
            have g26 := i_eq h25
            have hV27 : zV (ma_u m 94 0 (2 : Int32)) := uf_94_0 hV
            have li28 : (2 : Int32).toInt = 2 := rfl
            exact K ((0 : Int32)) _ (zF_u zF_rfl rfl) hV27 (show (m 94 8).toInt = 0 from by omega) r_W r_GW (show ((nw.toInt < 0 ∨ 8 < nw.toInt ∨ rf.toInt < 0 ∨ ((1 : Int32) <<< (nw &&& 31)).toInt ≤ rf.toInt) ∧ (2 : Int32).toInt = 1 ∧ (m 94 7).toInt = (m 94 7).toInt) ∨ (¬ (nw.toInt < 0 ∨ 8 < nw.toInt ∨ rf.toInt < 0 ∨ ((1 : Int32) <<< (nw &&& 31)).toInt ≤ rf.toInt) ∧ (m 94 7).toInt = 16 ∧ (2 : Int32).toInt = 2 ∧ (m 94 7).toInt = (m 94 7).toInt) ∨ (¬ (nw.toInt < 0 ∨ 8 < nw.toInt ∨ rf.toInt < 0 ∨ ((1 : Int32) <<< (nw &&& 31)).toInt ≤ rf.toInt) ∧ (m 94 7).toInt < 16 ∧ (2 : Int32).toInt = 0 ∧ (m 94 7).toInt = (m 94 7).toInt + 1 ∧ (0 : Int32).toInt = (m 94 7).toInt) from by omega)
          · skip
            have g29 := i_ne h25
            have hg30 : (0 ≤ (m 94 7) ∧ (m 94 7).toNatClampNeg < 16) := i_ix (by omega) (by omega)
            refine ⟨hg30, ?_⟩
            try have sh := i_shl8 (n := nw) (by omega) (by omega)
            have hg31 : (0 ≤ (m 94 7) ∧ (m 94 7).toNatClampNeg < 16) := i_ix (by omega) (by omega)
            refine ⟨hg31, ?_⟩
            have hV32 : zV (ma_u m 94 0 (0 : Int32)) := uf_94_0 hV
            have hV33 : zV (ma_u (ma_u m 94 0 (0 : Int32)) 97 (m 94 7).toNatClampNeg nw) := ua_97 hV32 (by omega) (by omega)
            have hV34 : zV (ma_u (ma_u (ma_u m 94 0 (0 : Int32)) 97 (m 94 7).toNatClampNeg nw) 98 (m 94 7).toNatClampNeg rf) := ua_98 hV33 (by omega) (by omega)
            first | have e36 : ((m 94 7) + (1 : Int32)).toInt = (m 94 7).toInt + (1) := i_addk rfl (by omega) (by omega) | have b37 := i_bd ((m 94 7) + (1 : Int32))
            have hV35 : zV (ma_u (ma_u (ma_u (ma_u m 94 0 (0 : Int32)) 97 (m 94 7).toNatClampNeg nw) 98 (m 94 7).toNatClampNeg rf) 94 7 ((m 94 7) + (1 : Int32))) := us_94_7 hV34 (by omega) (by omega)
            first | have e38 : (((m 94 7) + (1 : Int32)) - (1 : Int32)).toInt = ((m 94 7) + (1 : Int32)).toInt - (1) := i_subk rfl (by omega) (by omega) | have b39 := i_bd (((m 94 7) + (1 : Int32)) - (1 : Int32))
            exact K ((((m 94 7) + (1 : Int32)) - (1 : Int32))) _ (zF_u (zF_u (zF_u (zF_u zF_rfl rfl) rfl) rfl) rfl) hV35 (show (m 94 8).toInt = 0 from by omega) (show zW ((m 94 7) + (1 : Int32)) ((ma_u m 98 (m 94 7).toNatClampNeg rf) 98) (m 101) (m 102) (m 108) from by first | (exact W_same r_W (by omega) (zrf_kind r_W (tn_cast (by omega)) (fun t ht => (ra_101 hV ht).1))) | (exfalso; omega; done) | (exfalso; contradiction; done)) r_GW (show ((nw.toInt < 0 ∨ 8 < nw.toInt ∨ rf.toInt < 0 ∨ ((1 : Int32) <<< (nw &&& 31)).toInt ≤ rf.toInt) ∧ (0 : Int32).toInt = 1 ∧ ((m 94 7) + (1 : Int32)).toInt = (m 94 7).toInt) ∨ (¬ (nw.toInt < 0 ∨ 8 < nw.toInt ∨ rf.toInt < 0 ∨ ((1 : Int32) <<< (nw &&& 31)).toInt ≤ rf.toInt) ∧ (m 94 7).toInt = 16 ∧ (0 : Int32).toInt = 2 ∧ ((m 94 7) + (1 : Int32)).toInt = (m 94 7).toInt) ∨ (¬ (nw.toInt < 0 ∨ 8 < nw.toInt ∨ rf.toInt < 0 ∨ ((1 : Int32) <<< (nw &&& 31)).toInt ≤ rf.toInt) ∧ (m 94 7).toInt < 16 ∧ (0 : Int32).toInt = 0 ∧ ((m 94 7) + (1 : Int32)).toInt = (m 94 7).toInt + 1 ∧ (((m 94 7) + (1 : Int32)) - (1 : Int32)).toInt = (m 94 7).toInt) from by omega)
        · skip
          have g40 := i_nlt h21
          have hV41 : zV (ma_u m 94 0 (1 : Int32)) := uf_94_0 hV
          have li42 : (1 : Int32).toInt = 1 := rfl
          have f43 : 0 ≤ (m 94 7).toInt ∧ (m 94 7).toInt ≤ 16 := rs_94_7 (m := m) hV
          exact K ((0 : Int32)) _ (zF_u zF_rfl rfl) hV41 (show (m 94 8).toInt = 0 from by omega) r_W r_GW (show ((nw.toInt < 0 ∨ 8 < nw.toInt ∨ rf.toInt < 0 ∨ ((1 : Int32) <<< (nw &&& 31)).toInt ≤ rf.toInt) ∧ (1 : Int32).toInt = 1 ∧ (m 94 7).toInt = (m 94 7).toInt) ∨ (¬ (nw.toInt < 0 ∨ 8 < nw.toInt ∨ rf.toInt < 0 ∨ ((1 : Int32) <<< (nw &&& 31)).toInt ≤ rf.toInt) ∧ (m 94 7).toInt = 16 ∧ (1 : Int32).toInt = 2 ∧ (m 94 7).toInt = (m 94 7).toInt) ∨ (¬ (nw.toInt < 0 ∨ 8 < nw.toInt ∨ rf.toInt < 0 ∨ ((1 : Int32) <<< (nw &&& 31)).toInt ≤ rf.toInt) ∧ (m 94 7).toInt < 16 ∧ (1 : Int32).toInt = 0 ∧ (m 94 7).toInt = (m 94 7).toInt + 1 ∧ (0 : Int32).toInt = (m 94 7).toInt) from by omega)
    · skip
      have g44 := i_nle h11
      have hV45 : zV (ma_u m 94 0 (1 : Int32)) := uf_94_0 hV
      have li46 : (1 : Int32).toInt = 1 := rfl
      have f47 : 0 ≤ (m 94 7).toInt ∧ (m 94 7).toInt ≤ 16 := rs_94_7 (m := m) hV
      exact K ((0 : Int32)) _ (zF_u zF_rfl rfl) hV45 (show (m 94 8).toInt = 0 from by omega) r_W r_GW (show ((nw.toInt < 0 ∨ 8 < nw.toInt ∨ rf.toInt < 0 ∨ ((1 : Int32) <<< (nw &&& 31)).toInt ≤ rf.toInt) ∧ (1 : Int32).toInt = 1 ∧ (m 94 7).toInt = (m 94 7).toInt) ∨ (¬ (nw.toInt < 0 ∨ 8 < nw.toInt ∨ rf.toInt < 0 ∨ ((1 : Int32) <<< (nw &&& 31)).toInt ≤ rf.toInt) ∧ (m 94 7).toInt = 16 ∧ (1 : Int32).toInt = 2 ∧ (m 94 7).toInt = (m 94 7).toInt) ∨ (¬ (nw.toInt < 0 ∨ 8 < nw.toInt ∨ rf.toInt < 0 ∨ ((1 : Int32) <<< (nw &&& 31)).toInt ≤ rf.toInt) ∧ (m 94 7).toInt < 16 ∧ (1 : Int32).toInt = 0 ∧ (m 94 7).toInt = (m 94 7).toInt + 1 ∧ (0 : Int32).toInt = (m 94 7).toInt) from by omega)
theorem sp_181z {X : Nat × (Nat → Int32)} {P : Option ma_V → (Nat → Nat → Int32) → Prop} {T : Nat} {m : Nat → Nat → Int32} (kk : Int32) (r1 : Int32) (hV : zV m) (hpre0 : (m 94 8).toInt = 0) (r_W : zW (m 94 7) (m 98) (m 101) (m 102) (m 108)) (r_GW : zGW T (m 94 55) (m 109)) (KZ : ∀ v m', zV (zov wr_181 m m') → ((m 94 8).toInt = 0) → (zW (m 94 7) (m 98) (m' 101) (m' 102) (m' 108)) → (zGW T (m' 94 55) (m' 109)) → P (some (.inl v)) (zov wr_181 m m')) : zm X 10 224 181 0 [(0, .inr (.inr (some 94))), (1, .inl kk), (2, .inl r1)] m P := by
  have K : ∀ v m', zF wr_181 m m' → zV m' → ((m' 94 8).toInt = 0) → (zW (m' 94 7) (m' 98) (m' 101) (m' 102) (m' 108)) → (zGW T (m' 94 55) (m' 109)) → P (some (.inl v)) m' := by
    intro v m' hf z q0 q1 q2
    have e := zov_eq hf
    rw [e] at z ⊢
    try rw [e] at q0
    try rw [e] at q1
    try rw [e] at q2
    exact KZ v m' z q0 q1 q2
  refine g_181_0 kk r1 ?_
  have f1 : 0 ≤ (m 94 8).toInt ∧ (m 94 8).toInt ≤ 1 := rs_94_8 (m := m) hV
  have b2 := i_bd kk
  have li3 : (0 : Int32).toInt = 0 := rfl
  refine zd (fun (h4 : kk < (0 : Int32)) => ?_) (fun (h4 : ¬ kk < (0 : Int32)) => ?_)
  · skip
    have g5 := i_lt h4
    have hV6 : zV (ma_u m 94 0 (1 : Int32)) := uf_94_0 hV
    exact K ((0 : Int32)) _ (zF_u zF_rfl rfl) hV6 (show (m 94 8).toInt = 0 from by omega) r_W r_GW
  · skip
    have g7 := i_nlt h4
    have f8 : 0 ≤ (m 94 7).toInt ∧ (m 94 7).toInt ≤ 16 := rs_94_7 (m := m) hV
    refine zd (fun (h9 : (m 94 7) ≤ kk) => ?_) (fun (h9 : ¬ (m 94 7) ≤ kk) => ?_)
    · skip
      have g10 := i_le h9
      have hV11 : zV (ma_u m 94 0 (1 : Int32)) := uf_94_0 hV
      exact K ((0 : Int32)) _ (zF_u zF_rfl rfl) hV11 (show (m 94 8).toInt = 0 from by omega) r_W r_GW
    · skip
      have g12 := i_nle h9
      have b13 := i_bd r1
      refine zd (fun (h14 : r1 < (0 : Int32)) => ?_) (fun (h14 : ¬ r1 < (0 : Int32)) => ?_)
      · skip
        have g15 := i_lt h14
        have hV16 : zV (ma_u m 94 0 (1 : Int32)) := uf_94_0 hV
        exact K ((0 : Int32)) _ (zF_u zF_rfl rfl) hV16 (show (m 94 8).toInt = 0 from by omega) r_W r_GW
      · skip
        have g17 := i_nlt h14
        have li18 : (16 : Int32).toInt = 16 := rfl
        refine zd (fun (h19 : (16 : Int32) ≤ r1) => ?_) (fun (h19 : ¬ (16 : Int32) ≤ r1) => ?_)
        · skip
          have g20 := i_le h19
          have hV21 : zV (ma_u m 94 0 (1 : Int32)) := uf_94_0 hV
          exact K ((0 : Int32)) _ (zF_u zF_rfl rfl) hV21 (show (m 94 8).toInt = 0 from by omega) r_W r_GW
        · skip
          have g22 := i_nle h19
          refine zd (fun (h23 : (m 94 8) = (0 : Int32)) => ?_) (fun (h23 : ¬ (m 94 8) = (0 : Int32)) => ?_)
          · skip
            have g24 := i_eq h23
            have hV25 : zV (ma_u m 94 0 (2 : Int32)) := uf_94_0 hV
            exact K ((0 : Int32)) _ (zF_u zF_rfl rfl) hV25 (show (m 94 8).toInt = 0 from by omega) r_W r_GW
          · skip
            have g26 := i_ne h23
            have hg27 : (0 ≤ kk ∧ kk.toNatClampNeg < 16) := i_ix (by omega) (by omega)
            refine ⟨hg27, ?_⟩
            first | have f28 : 0 ≤ (m 97 kk.toNatClampNeg).toInt ∧ (m 97 kk.toNatClampNeg).toInt ≤ 8 := ra_97 (m := m) hV (k := kk.toNatClampNeg) (i_ix (n := 16) (by omega) (by omega)).2 | have b29 := i_bd (m 97 kk.toNatClampNeg)
            have hV30 : zV (ma_u m 94 0 (0 : Int32)) := uf_94_0 hV
            have f31 : 0 ≤ (m 94 58).toInt ∧ (m 94 58).toInt ≤ 1 := rs_94_58 (m := m) hV
            have f32 : 0 ≤ (m 94 10).toInt ∧ (m 94 10).toInt ≤ 6 := rs_94_10 (m := m) hV
            refine sp_183 (kk) ((m 97 kk.toNatClampNeg)) (r1) hV30 (by omega) (by omega) (by omega) (by omega) (by omega) (by omega) (by omega) (show 16 ≤ kk.toInt ∨ kk.toInt < (m 94 7).toInt from by omega) r_W r_GW (show zGU T (m 94 46) (m 99) from by first | (exfalso; omega; done) | (exfalso; contradiction; done)) (show zOw (m 99) (m 103) (m 111) from by first | (exfalso; omega; done) | (exfalso; contradiction; done)) (show zDX (m 94 10) (m 99) (m 112) (m 113) (m 114) (m 94 55) (m 98) (m 101) (m 102) (m 108) from by first | (exfalso; omega; done) | (exfalso; contradiction; done)) (show zGG (m 94 58) (m 94 56) (m 94 57) (m 106) from by first | (exact fun z => absurd z (by decide)) | (exact fun z => absurd z (by omega)) | (exfalso; omega; done) | (exfalso; contradiction; done)) (show zHA (m 94 10) (m 94 11) (m 94 13) (m 94 14) (m 94 16) (m 94 61) (m 94 59) (m 94 60) (m 99) (m 102) (m 103) (m 111) (m 117) (m 98) (m 101) (m 108) from by first | (exfalso; omega; done) | (exfalso; contradiction; done)) (show zRG (m 94 10) (m 94 18) (m 94 64) (m 94 63) (m 99) (m 103) (m 102) (m 116) from by first | (exfalso; omega; done) | (exfalso; contradiction; done)) (show (m 94 58).toInt = 0 ∨ (m 94 10).toInt = 5 from by omega) (fun v2 m1 hV_m1 p0_m1 p1_m1 p2_m1 p3_m1 p4_m1 p5_m1 p6_m1 p7_m1 p8_m1 => zmi_n ?_)
            have p0_m1 : zW (m 94 7) (m 98) (m1 101) (m1 102) (m1 108) := p0_m1
            have p1_m1 : zGW (T + 1) (m1 94 55) (m1 109) := p1_m1
            have p2_m1 : zGU (T + 1) (m1 94 46) (m1 99) := p2_m1
            have p3_m1 : zOw (m1 99) (m1 103) (m1 111) := p3_m1
            have p4_m1 : zDX (m 94 10) (m1 99) (m1 112) (m1 113) (m1 114) (m1 94 55) (m 98) (m1 101) (m1 102) (m1 108) := p4_m1
            have p5_m1 : zGG (m1 94 58) (m1 94 56) (m1 94 57) (m1 106) := p5_m1
            have p6_m1 : zHA (m 94 10) (m 94 11) (m 94 13) (m 94 14) (m 94 16) (m1 94 61) (m1 94 59) (m1 94 60) (m1 99) (m1 102) (m1 103) (m1 111) (m1 117) (m 98) (m1 101) (m1 108) := p6_m1
            have p7_m1 : zRG (m 94 10) (m 94 18) (m 94 64) (m1 94 63) (m1 99) (m1 103) (m1 102) (m1 116) := p7_m1
            have p8_m1 : (m1 94 58).toInt = 0 ∨ (m 94 10).toInt = 5 := p8_m1
            have f33 : 0 ≤ (m1 94 58).toInt ∧ (m1 94 58).toInt ≤ 1 := rs_94_58 (m := (zov wr_183 (ma_u m 94 0 (0 : Int32)) m1)) hV_m1
            have b34 := i_bd v2
            exact K (v2) _ (zF_zov (zF_u zF_rfl rfl) ws_183_181) hV_m1 (show (m 94 8).toInt = 0 from by omega) p0_m1 (show zGW T (m1 94 55) (m1 109) from by first | (exfalso; omega; done) | (exfalso; contradiction; done))
theorem sp_243z {X : Nat × (Nat → Int32)} {P : Option ma_V → (Nat → Nat → Int32) → Prop} {T : Nat} {m : Nat → Nat → Int32} (rf : Int32) (nn : Int32) (r1 : Int32) (hV : zV m) (hpre0 : (m 94 8).toInt = 0) (r_W : zW (m 94 7) (m 98) (m 101) (m 102) (m 108)) (r_GW : zGW T (m 94 55) (m 109)) (hpre3 : 0 ≤ rf.toInt) (hpre4 : rf.toInt ≤ 1) (KZ : ∀ v m', zV (zov wr_243 m m') → ((m 94 8).toInt = 0) → (zW (m 94 7) (m 98) (m' 101) (m' 102) (m' 108)) → (zGW T (m' 94 55) (m' 109)) → P (some (.inl v)) (zov wr_243 m m')) : zm X 10 224 243 0 [(0, .inr (.inr (some 94))), (1, .inl rf), (2, .inl nn), (3, .inl r1)] m P := by
  have K : ∀ v m', zF wr_243 m m' → zV m' → ((m' 94 8).toInt = 0) → (zW (m' 94 7) (m' 98) (m' 101) (m' 102) (m' 108)) → (zGW T (m' 94 55) (m' 109)) → P (some (.inl v)) m' := by
    intro v m' hf z q0 q1 q2
    have e := zov_eq hf
    rw [e] at z ⊢
    try rw [e] at q0
    try rw [e] at q1
    try rw [e] at q2
    exact KZ v m' z q0 q1 q2
  refine g_243_0 rf nn r1 ?_
  have f1 : 0 ≤ (m 94 8).toInt ∧ (m 94 8).toInt ≤ 1 := rs_94_8 (m := m) hV
  have b2 := i_bd nn
  have li3 : (0 : Int32).toInt = 0 := rfl
  refine zd (fun (h4 : nn < (0 : Int32)) => ?_) (fun (h4 : ¬ nn < (0 : Int32)) => ?_)
  · skip
    have g5 := i_lt h4
    have hV6 : zV (ma_u m 94 0 (1 : Int32)) := uf_94_0 hV
    exact K ((0 : Int32)) _ (zF_u zF_rfl rfl) hV6 (show (m 94 8).toInt = 0 from by omega) r_W r_GW
  · skip
    have g7 := i_nlt h4
    have li8 : (60 : Int32).toInt = 60 := rfl
    refine zd (fun (h9 : (60 : Int32) < nn) => ?_) (fun (h9 : ¬ (60 : Int32) < nn) => ?_)
    · skip
      have g10 := i_lt h9
      have hV11 : zV (ma_u m 94 0 (1 : Int32)) := uf_94_0 hV
      exact K ((0 : Int32)) _ (zF_u zF_rfl rfl) hV11 (show (m 94 8).toInt = 0 from by omega) r_W r_GW
    · skip
      have g12 := i_nlt h9
      have b13 := i_bd r1
      refine zd (fun (h14 : r1 < (0 : Int32)) => ?_) (fun (h14 : ¬ r1 < (0 : Int32)) => ?_)
      · skip
        have g15 := i_lt h14
        have hV16 : zV (ma_u m 94 0 (1 : Int32)) := uf_94_0 hV
        exact K ((0 : Int32)) _ (zF_u zF_rfl rfl) hV16 (show (m 94 8).toInt = 0 from by omega) r_W r_GW
      · skip
        have g17 := i_nlt h14
        have li18 : (16 : Int32).toInt = 16 := rfl
        refine zd (fun (h19 : (16 : Int32) ≤ r1) => ?_) (fun (h19 : ¬ (16 : Int32) ≤ r1) => ?_)
        · skip
          have g20 := i_le h19
          have hV21 : zV (ma_u m 94 0 (1 : Int32)) := uf_94_0 hV
          exact K ((0 : Int32)) _ (zF_u zF_rfl rfl) hV21 (show (m 94 8).toInt = 0 from by omega) r_W r_GW
        · skip
          have g22 := i_nle h19
          refine zd (fun (h23 : (m 94 8) = (0 : Int32)) => ?_) (fun (h23 : ¬ (m 94 8) = (0 : Int32)) => ?_)
          · skip
            have g24 := i_eq h23
            have hV25 : zV (ma_u m 94 0 (2 : Int32)) := uf_94_0 hV
            exact K ((0 : Int32)) _ (zF_u zF_rfl rfl) hV25 (show (m 94 8).toInt = 0 from by omega) r_W r_GW
          · skip
            have g26 := i_ne h23
            have b27 := i_bd rf
            refine zd (fun (h28 : rf = (0 : Int32)) => ?_) (fun (h28 : ¬ rf = (0 : Int32)) => ?_)
            · skip
              have g29 := i_eq h28
              have li30 : (17 : Int32).toInt = 17 := rfl
              have hV31 : zV (ma_u m 94 0 (0 : Int32)) := uf_94_0 hV
              have f32 : 0 ≤ (m 94 7).toInt ∧ (m 94 7).toInt ≤ 16 := rs_94_7 (m := m) hV
              have f33 : 0 ≤ (m 94 58).toInt ∧ (m 94 58).toInt ≤ 1 := rs_94_58 (m := m) hV
              have f34 : 0 ≤ (m 94 10).toInt ∧ (m 94 10).toInt ≤ 6 := rs_94_10 (m := m) hV
              refine sp_183 ((17 : Int32)) (nn) (r1) hV31 (by omega) (by omega) (by omega) (by omega) (by omega) (by omega) (by omega) (show 16 ≤ (17 : Int32).toInt ∨ (17 : Int32).toInt < (m 94 7).toInt from by omega) r_W r_GW (show zGU T (m 94 46) (m 99) from by first | (exfalso; omega; done) | (exfalso; contradiction; done)) (show zOw (m 99) (m 103) (m 111) from by first | (exfalso; omega; done) | (exfalso; contradiction; done)) (show zDX (m 94 10) (m 99) (m 112) (m 113) (m 114) (m 94 55) (m 98) (m 101) (m 102) (m 108) from by first | (exfalso; omega; done) | (exfalso; contradiction; done)) (show zGG (m 94 58) (m 94 56) (m 94 57) (m 106) from by first | (exact fun z => absurd z (by decide)) | (exact fun z => absurd z (by omega)) | (exfalso; omega; done) | (exfalso; contradiction; done)) (show zHA (m 94 10) (m 94 11) (m 94 13) (m 94 14) (m 94 16) (m 94 61) (m 94 59) (m 94 60) (m 99) (m 102) (m 103) (m 111) (m 117) (m 98) (m 101) (m 108) from by first | (exfalso; omega; done) | (exfalso; contradiction; done)) (show zRG (m 94 10) (m 94 18) (m 94 64) (m 94 63) (m 99) (m 103) (m 102) (m 116) from by first | (exfalso; omega; done) | (exfalso; contradiction; done)) (show (m 94 58).toInt = 0 ∨ (m 94 10).toInt = 5 from by omega) (fun v2 m1 hV_m1 p0_m1 p1_m1 p2_m1 p3_m1 p4_m1 p5_m1 p6_m1 p7_m1 p8_m1 => zmi_n ?_)
              have p0_m1 : zW (m 94 7) (m 98) (m1 101) (m1 102) (m1 108) := p0_m1
              have p1_m1 : zGW (T + 1) (m1 94 55) (m1 109) := p1_m1
              have p2_m1 : zGU (T + 1) (m1 94 46) (m1 99) := p2_m1
              have p3_m1 : zOw (m1 99) (m1 103) (m1 111) := p3_m1
              have p4_m1 : zDX (m 94 10) (m1 99) (m1 112) (m1 113) (m1 114) (m1 94 55) (m 98) (m1 101) (m1 102) (m1 108) := p4_m1
              have p5_m1 : zGG (m1 94 58) (m1 94 56) (m1 94 57) (m1 106) := p5_m1
              have p6_m1 : zHA (m 94 10) (m 94 11) (m 94 13) (m 94 14) (m 94 16) (m1 94 61) (m1 94 59) (m1 94 60) (m1 99) (m1 102) (m1 103) (m1 111) (m1 117) (m 98) (m1 101) (m1 108) := p6_m1
              have p7_m1 : zRG (m 94 10) (m 94 18) (m 94 64) (m1 94 63) (m1 99) (m1 103) (m1 102) (m1 116) := p7_m1
              have p8_m1 : (m1 94 58).toInt = 0 ∨ (m 94 10).toInt = 5 := p8_m1
              have f35 : 0 ≤ (m1 94 58).toInt ∧ (m1 94 58).toInt ≤ 1 := rs_94_58 (m := (zov wr_183 (ma_u m 94 0 (0 : Int32)) m1)) hV_m1
              have b36 := i_bd v2
              exact K (v2) _ (zF_zov (zF_u zF_rfl rfl) ws_183_243) hV_m1 (show (m 94 8).toInt = 0 from by omega) p0_m1 (show zGW T (m1 94 55) (m1 109) from by first | (exfalso; omega; done) | (exfalso; contradiction; done))
            · skip
              have g37 := i_ne h28
              have hV38 : zV (ma_u m 94 0 (0 : Int32)) := uf_94_0 hV
              have f39 : 0 ≤ (m 94 7).toInt ∧ (m 94 7).toInt ≤ 16 := rs_94_7 (m := m) hV
              have f40 : 0 ≤ (m 94 58).toInt ∧ (m 94 58).toInt ≤ 1 := rs_94_58 (m := m) hV
              have f41 : 0 ≤ (m 94 10).toInt ∧ (m 94 10).toInt ≤ 6 := rs_94_10 (m := m) hV
              refine sp_183 ((16 : Int32)) (nn) (r1) hV38 (by omega) (by omega) (by omega) (by omega) (by omega) (by omega) (by omega) (show 16 ≤ (16 : Int32).toInt ∨ (16 : Int32).toInt < (m 94 7).toInt from by omega) r_W r_GW (show zGU T (m 94 46) (m 99) from by first | (exfalso; omega; done) | (exfalso; contradiction; done)) (show zOw (m 99) (m 103) (m 111) from by first | (exfalso; omega; done) | (exfalso; contradiction; done)) (show zDX (m 94 10) (m 99) (m 112) (m 113) (m 114) (m 94 55) (m 98) (m 101) (m 102) (m 108) from by first | (exfalso; omega; done) | (exfalso; contradiction; done)) (show zGG (m 94 58) (m 94 56) (m 94 57) (m 106) from by first | (exact fun z => absurd z (by decide)) | (exact fun z => absurd z (by omega)) | (exfalso; omega; done) | (exfalso; contradiction; done)) (show zHA (m 94 10) (m 94 11) (m 94 13) (m 94 14) (m 94 16) (m 94 61) (m 94 59) (m 94 60) (m 99) (m 102) (m 103) (m 111) (m 117) (m 98) (m 101) (m 108) from by first | (exfalso; omega; done) | (exfalso; contradiction; done)) (show zRG (m 94 10) (m 94 18) (m 94 64) (m 94 63) (m 99) (m 103) (m 102) (m 116) from by first | (exfalso; omega; done) | (exfalso; contradiction; done)) (show (m 94 58).toInt = 0 ∨ (m 94 10).toInt = 5 from by omega) (fun v4 m3 hV_m3 p0_m3 p1_m3 p2_m3 p3_m3 p4_m3 p5_m3 p6_m3 p7_m3 p8_m3 => zmi_n ?_)
              have p0_m3 : zW (m 94 7) (m 98) (m3 101) (m3 102) (m3 108) := p0_m3
              have p1_m3 : zGW (T + 1) (m3 94 55) (m3 109) := p1_m3
              have p2_m3 : zGU (T + 1) (m3 94 46) (m3 99) := p2_m3
              have p3_m3 : zOw (m3 99) (m3 103) (m3 111) := p3_m3
              have p4_m3 : zDX (m 94 10) (m3 99) (m3 112) (m3 113) (m3 114) (m3 94 55) (m 98) (m3 101) (m3 102) (m3 108) := p4_m3
              have p5_m3 : zGG (m3 94 58) (m3 94 56) (m3 94 57) (m3 106) := p5_m3
              have p6_m3 : zHA (m 94 10) (m 94 11) (m 94 13) (m 94 14) (m 94 16) (m3 94 61) (m3 94 59) (m3 94 60) (m3 99) (m3 102) (m3 103) (m3 111) (m3 117) (m 98) (m3 101) (m3 108) := p6_m3
              have p7_m3 : zRG (m 94 10) (m 94 18) (m 94 64) (m3 94 63) (m3 99) (m3 103) (m3 102) (m3 116) := p7_m3
              have p8_m3 : (m3 94 58).toInt = 0 ∨ (m 94 10).toInt = 5 := p8_m3
              have f42 : 0 ≤ (m3 94 58).toInt ∧ (m3 94 58).toInt ≤ 1 := rs_94_58 (m := (zov wr_183 (ma_u m 94 0 (0 : Int32)) m3)) hV_m3
              have b43 := i_bd v4
              exact K (v4) _ (zF_zov (zF_u zF_rfl rfl) ws_183_243) hV_m3 (show (m 94 8).toInt = 0 from by omega) p0_m3 (show zGW T (m3 94 55) (m3 109) from by first | (exfalso; omega; done) | (exfalso; contradiction; done))
