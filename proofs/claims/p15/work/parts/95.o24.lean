/-! the reference under COUNTS (written by wip/tools/gen20s.py) -/
theorem sp_170uz {X : Nat × (Nat → Int32)} {P : Option ma_V → (Nat → Nat → Int32) → Prop} {T : Nat} {aa : Nat→Nat→Int32} {m : Nat → Nat → Int32} (nw : Int32) (rf : Int32) (hV : zV m) (hpre0 : T ≤ 512) (r_W : zW (m 94 7) (m 98) (m 101) (m 102) (m 108)) (r_GW : zGW T (m 94 55) (m 109)) (r_GU : zGU T (m 94 46) (m 99)) (r_OW : zOw (m 99) (m 103) (m 111)) (r_GG : zGG (m 94 58) (m 94 56) (m 94 57) (m 106)) (r_RB : qRB (m 99) (m 100) (m 98) (m 101) (m 102) (m 103) (m 107) (m 108) (m 109) (m 111) (m 112) (m 113) (m 114) (m 94 55) (m 94 46) (m 94 11) (m 94 12) (m 94 62) (m 94 17) (m 94 9) aa) (r_QI : qI aa) (r_MK : aa 87 8 = (m 94 58)) (r_WTS : (m 94 45).toInt = sm (zbU (m 99)) (m 102) 3100) (KZ : ∀ v m', zV (zov wr_170 m m') → (zW (m' 94 7) (m' 98) (m 101) (m 102) (m 108)) → (zGW T (m 94 55) (m 109)) → (zGU T (m 94 46) (m 99)) → (zOw (m 99) (m 103) (m 111)) → (zGG (m 94 58) (m 94 56) (m 94 57) (m 106)) → (qRB (m 99) (m 100) (m' 98) (m 101) (m 102) (m 103) (m 107) (m 108) (m 109) (m 111) (m 112) (m 113) (m 114) (m 94 55) (m 94 46) (m 94 11) (m 94 12) (m 94 62) (m 94 17) (m 94 9) aa) → (qI aa) → (aa 87 8 = (m 94 58)) → ((m 94 45).toInt = sm (zbU (m 99)) (m 102) 3100) → (((nw.toInt < 0 ∨ 8 < nw.toInt ∨ rf.toInt < 0 ∨ ((1 : Int32) <<< (nw &&& 31)).toInt ≤ rf.toInt) ∧ (m' 94 0).toInt = 1 ∧ (m' 94 7).toInt = (m 94 7).toInt) ∨ (¬ (nw.toInt < 0 ∨ 8 < nw.toInt ∨ rf.toInt < 0 ∨ ((1 : Int32) <<< (nw &&& 31)).toInt ≤ rf.toInt) ∧ (m 94 7).toInt = 16 ∧ (m' 94 0).toInt = 2 ∧ (m' 94 7).toInt = (m 94 7).toInt) ∨ (¬ (nw.toInt < 0 ∨ 8 < nw.toInt ∨ rf.toInt < 0 ∨ ((1 : Int32) <<< (nw &&& 31)).toInt ≤ rf.toInt) ∧ (m 94 7).toInt < 16 ∧ (m' 94 0).toInt = 0 ∧ (m' 94 7).toInt = (m 94 7).toInt + 1 ∧ v.toInt = (m 94 7).toInt)) → (((m' 94 7).toInt = (m 94 7).toInt ∧ (m' 97) = (m 97) ∧ (m' 98) = (m 98)) ∨ ((m' 94 7).toInt = (m 94 7).toInt + 1 ∧ (m' 97) = zUp (m 97) (m 94 7).toNatClampNeg nw ∧ (m' 98) = zUp (m 98) (m 94 7).toNatClampNeg rf)) → P (some (.inl v)) (zov wr_170 m m')) : zm X 1 21 170 0 [(0, .inr (.inr (some 94))), (1, .inl nw), (2, .inl rf)] m P := by
  have K : ∀ v m', zF wr_170 m m' → zV m' → (zW (m' 94 7) (m' 98) (m' 101) (m' 102) (m' 108)) → (zGW T (m' 94 55) (m' 109)) → (zGU T (m' 94 46) (m' 99)) → (zOw (m' 99) (m' 103) (m' 111)) → (zGG (m' 94 58) (m' 94 56) (m' 94 57) (m' 106)) → (qRB (m' 99) (m' 100) (m' 98) (m' 101) (m' 102) (m' 103) (m' 107) (m' 108) (m' 109) (m' 111) (m' 112) (m' 113) (m' 114) (m' 94 55) (m' 94 46) (m' 94 11) (m' 94 12) (m' 94 62) (m' 94 17) (m' 94 9) aa) → (qI aa) → (aa 87 8 = (m' 94 58)) → ((m' 94 45).toInt = sm (zbU (m' 99)) (m' 102) 3100) → (((nw.toInt < 0 ∨ 8 < nw.toInt ∨ rf.toInt < 0 ∨ ((1 : Int32) <<< (nw &&& 31)).toInt ≤ rf.toInt) ∧ (m' 94 0).toInt = 1 ∧ (m' 94 7).toInt = (m 94 7).toInt) ∨ (¬ (nw.toInt < 0 ∨ 8 < nw.toInt ∨ rf.toInt < 0 ∨ ((1 : Int32) <<< (nw &&& 31)).toInt ≤ rf.toInt) ∧ (m 94 7).toInt = 16 ∧ (m' 94 0).toInt = 2 ∧ (m' 94 7).toInt = (m 94 7).toInt) ∨ (¬ (nw.toInt < 0 ∨ 8 < nw.toInt ∨ rf.toInt < 0 ∨ ((1 : Int32) <<< (nw &&& 31)).toInt ≤ rf.toInt) ∧ (m 94 7).toInt < 16 ∧ (m' 94 0).toInt = 0 ∧ (m' 94 7).toInt = (m 94 7).toInt + 1 ∧ v.toInt = (m 94 7).toInt)) → (((m' 94 7).toInt = (m 94 7).toInt ∧ (m' 97) = (m 97) ∧ (m' 98) = (m 98)) ∨ ((m' 94 7).toInt = (m 94 7).toInt + 1 ∧ (m' 97) = zUp (m 97) (m 94 7).toNatClampNeg nw ∧ (m' 98) = zUp (m 98) (m 94 7).toNatClampNeg rf)) → P (some (.inl v)) m' := by
    intro v m' hf z q0 q1 q2 q3 q4 q5 q6 q7 q8 q9 q10
    have e := zov_eq hf
    rw [e] at z ⊢
    try rw [e] at q0
    try rw [e] at q1
    try rw [e] at q2
    try rw [e] at q3
    try rw [e] at q4
    try rw [e] at q5
    try rw [e] at q6
    try rw [e] at q7
    try rw [e] at q8
    try rw [e] at q9
    try rw [e] at q10
    exact KZ v m' z q0 q1 q2 q3 q4 q5 q6 q7 q8 q9 q10
  refine g_170_0 nw rf ?_
  have b1 := i_bd nw
  have li2 : (0 : Int32).toInt = 0 := rfl
  refine zd (fun (h3 : nw < (0 : Int32)) => ?_) (fun (h3 : ¬ nw < (0 : Int32)) => ?_)
  · skip
    have g4 := i_lt h3
    have hV5 : zV (ma_u m 94 0 (1 : Int32)) := uf_94_0 hV
    have li6 : (1 : Int32).toInt = 1 := rfl
    have f7 : 0 ≤ (m 94 7).toInt ∧ (m 94 7).toInt ≤ 16 := rs_94_7 (m := m) hV
    exact K ((0 : Int32)) _ (zF_u zF_rfl rfl) hV5 r_W r_GW r_GU r_OW r_GG r_RB r_QI r_MK r_WTS (show ((nw.toInt < 0 ∨ 8 < nw.toInt ∨ rf.toInt < 0 ∨ ((1 : Int32) <<< (nw &&& 31)).toInt ≤ rf.toInt) ∧ (1 : Int32).toInt = 1 ∧ (m 94 7).toInt = (m 94 7).toInt) ∨ (¬ (nw.toInt < 0 ∨ 8 < nw.toInt ∨ rf.toInt < 0 ∨ ((1 : Int32) <<< (nw &&& 31)).toInt ≤ rf.toInt) ∧ (m 94 7).toInt = 16 ∧ (1 : Int32).toInt = 2 ∧ (m 94 7).toInt = (m 94 7).toInt) ∨ (¬ (nw.toInt < 0 ∨ 8 < nw.toInt ∨ rf.toInt < 0 ∨ ((1 : Int32) <<< (nw &&& 31)).toInt ≤ rf.toInt) ∧ (m 94 7).toInt < 16 ∧ (1 : Int32).toInt = 0 ∧ (m 94 7).toInt = (m 94 7).toInt + 1 ∧ (0 : Int32).toInt = (m 94 7).toInt) from by omega) (show ((m 94 7).toInt = (m 94 7).toInt ∧ (m 97) = (m 97) ∧ (m 98) = (m 98)) ∨ ((m 94 7).toInt = (m 94 7).toInt + 1 ∧ (m 97) = zUp (m 97) (m 94 7).toNatClampNeg nw ∧ (m 98) = zUp (m 98) (m 94 7).toNatClampNeg rf) from by first | (exact Or.inl ⟨rfl, rfl, rfl⟩) | (exfalso; omega; done) | (exfalso; contradiction; done))
  · skip
    have g8 := i_nlt h3
    have li9 : (8 : Int32).toInt = 8 := rfl
    refine zd (fun (h10 : nw ≤ (8 : Int32)) => ?_) (fun (h10 : ¬ nw ≤ (8 : Int32)) => ?_)
    · skip
      have g11 := i_le h10
      have b12 := i_bd rf
      refine zd (fun (h13 : rf < (0 : Int32)) => ?_) (fun (h13 : ¬ rf < (0 : Int32)) => ?_)
      · skip
        have g14 := i_lt h13
        have hV15 : zV (ma_u m 94 0 (1 : Int32)) := uf_94_0 hV
        have li16 : (1 : Int32).toInt = 1 := rfl
        have f17 : 0 ≤ (m 94 7).toInt ∧ (m 94 7).toInt ≤ 16 := rs_94_7 (m := m) hV
        exact K ((0 : Int32)) _ (zF_u zF_rfl rfl) hV15 r_W r_GW r_GU r_OW r_GG r_RB r_QI r_MK r_WTS (show ((nw.toInt < 0 ∨ 8 < nw.toInt ∨ rf.toInt < 0 ∨ ((1 : Int32) <<< (nw &&& 31)).toInt ≤ rf.toInt) ∧ (1 : Int32).toInt = 1 ∧ (m 94 7).toInt = (m 94 7).toInt) ∨ (¬ (nw.toInt < 0 ∨ 8 < nw.toInt ∨ rf.toInt < 0 ∨ ((1 : Int32) <<< (nw &&& 31)).toInt ≤ rf.toInt) ∧ (m 94 7).toInt = 16 ∧ (1 : Int32).toInt = 2 ∧ (m 94 7).toInt = (m 94 7).toInt) ∨ (¬ (nw.toInt < 0 ∨ 8 < nw.toInt ∨ rf.toInt < 0 ∨ ((1 : Int32) <<< (nw &&& 31)).toInt ≤ rf.toInt) ∧ (m 94 7).toInt < 16 ∧ (1 : Int32).toInt = 0 ∧ (m 94 7).toInt = (m 94 7).toInt + 1 ∧ (0 : Int32).toInt = (m 94 7).toInt) from by omega) (show ((m 94 7).toInt = (m 94 7).toInt ∧ (m 97) = (m 97) ∧ (m 98) = (m 98)) ∨ ((m 94 7).toInt = (m 94 7).toInt + 1 ∧ (m 97) = zUp (m 97) (m 94 7).toNatClampNeg nw ∧ (m 98) = zUp (m 98) (m 94 7).toNatClampNeg rf) from by first | (exact Or.inl ⟨rfl, rfl, rfl⟩) | (exfalso; omega; done) | (exfalso; contradiction; done))
      · skip
        have g18 := i_nlt h13
        have b19 := i_bd ((1 : Int32) <<< (nw &&& 31))
        refine zd (fun (h20 : rf < ((1 : Int32) <<< (nw &&& 31))) => ?_) (fun (h20 : ¬ rf < ((1 : Int32) <<< (nw &&& 31))) => ?_)
        · skip
          have g21 := i_lt h20
          have f22 : 0 ≤ (m 94 7).toInt ∧ (m 94 7).toInt ≤ 16 := rs_94_7 (m := m) hV
          have li23 : (16 : Int32).toInt = 16 := rfl
          refine zd (fun (h24 : (m 94 7) = (16 : Int32)) => ?_) (fun (h24 : ¬ (m 94 7) = (16 : Int32)) => ?_)
          · skip
            have g25 := i_eq h24
            have hV26 : zV (ma_u m 94 0 (2 : Int32)) := uf_94_0 hV
            have li27 : (2 : Int32).toInt = 2 := rfl
            exact K ((0 : Int32)) _ (zF_u zF_rfl rfl) hV26 r_W r_GW r_GU r_OW r_GG r_RB r_QI r_MK r_WTS (show ((nw.toInt < 0 ∨ 8 < nw.toInt ∨ rf.toInt < 0 ∨ ((1 : Int32) <<< (nw &&& 31)).toInt ≤ rf.toInt) ∧ (2 : Int32).toInt = 1 ∧ (m 94 7).toInt = (m 94 7).toInt) ∨ (¬ (nw.toInt < 0 ∨ 8 < nw.toInt ∨ rf.toInt < 0 ∨ ((1 : Int32) <<< (nw &&& 31)).toInt ≤ rf.toInt) ∧ (m 94 7).toInt = 16 ∧ (2 : Int32).toInt = 2 ∧ (m 94 7).toInt = (m 94 7).toInt) ∨ (¬ (nw.toInt < 0 ∨ 8 < nw.toInt ∨ rf.toInt < 0 ∨ ((1 : Int32) <<< (nw &&& 31)).toInt ≤ rf.toInt) ∧ (m 94 7).toInt < 16 ∧ (2 : Int32).toInt = 0 ∧ (m 94 7).toInt = (m 94 7).toInt + 1 ∧ (0 : Int32).toInt = (m 94 7).toInt) from by omega) (show ((m 94 7).toInt = (m 94 7).toInt ∧ (m 97) = (m 97) ∧ (m 98) = (m 98)) ∨ ((m 94 7).toInt = (m 94 7).toInt + 1 ∧ (m 97) = zUp (m 97) (m 94 7).toNatClampNeg nw ∧ (m 98) = zUp (m 98) (m 94 7).toNatClampNeg rf) from by first | (exact Or.inl ⟨rfl, rfl, rfl⟩) | (exfalso; omega; done) | (exfalso; contradiction; done))
          · skip
            have g28 := i_ne h24
            have hg29 : (0 ≤ (m 94 7) ∧ (m 94 7).toNatClampNeg < 16) := i_ix (by omega) (by omega)
            refine ⟨hg29, ?_⟩
            try have sh := i_shl8 (n := nw) (by omega) (by omega)
            have hg30 : (0 ≤ (m 94 7) ∧ (m 94 7).toNatClampNeg < 16) := i_ix (by omega) (by omega)
            refine ⟨hg30, ?_⟩
            have hV31 : zV (ma_u m 94 0 (0 : Int32)) := uf_94_0 hV
            have hV32 : zV (ma_u (ma_u m 94 0 (0 : Int32)) 97 (m 94 7).toNatClampNeg nw) := ua_97 hV31 (by omega) (by omega)
            have hV33 : zV (ma_u (ma_u (ma_u m 94 0 (0 : Int32)) 97 (m 94 7).toNatClampNeg nw) 98 (m 94 7).toNatClampNeg rf) := ua_98 hV32 (by omega) (by omega)
            first | have e35 : ((m 94 7) + (1 : Int32)).toInt = (m 94 7).toInt + (1) := i_addk rfl (by omega) (by omega) | have b36 := i_bd ((m 94 7) + (1 : Int32))
            have hV34 : zV (ma_u (ma_u (ma_u (ma_u m 94 0 (0 : Int32)) 97 (m 94 7).toNatClampNeg nw) 98 (m 94 7).toNatClampNeg rf) 94 7 ((m 94 7) + (1 : Int32))) := us_94_7 hV33 (by omega) (by omega)
            first | have e37 : (((m 94 7) + (1 : Int32)) - (1 : Int32)).toInt = ((m 94 7) + (1 : Int32)).toInt - (1) := i_subk rfl (by omega) (by omega) | have b38 := i_bd (((m 94 7) + (1 : Int32)) - (1 : Int32))
            exact K ((((m 94 7) + (1 : Int32)) - (1 : Int32))) _ (zF_u (zF_u (zF_u (zF_u zF_rfl rfl) rfl) rfl) rfl) hV34 (show zW ((m 94 7) + (1 : Int32)) ((ma_u m 98 (m 94 7).toNatClampNeg rf) 98) (m 101) (m 102) (m 108) from by first | (exact W_same r_W (by omega) (zrf_kind r_W (tn_cast (by omega)) (fun t ht => (ra_101 hV ht).1))) | (exfalso; omega; done) | (exfalso; contradiction; done)) r_GW r_GU r_OW r_GG (show qRB (m 99) (m 100) ((ma_u m 98 (m 94 7).toNatClampNeg rf) 98) (m 101) (m 102) (m 103) (m 107) (m 108) (m 109) (m 111) (m 112) (m 113) (m 114) (m 94 55) (m 94 46) (m 94 11) (m 94 12) (m 94 62) (m 94 17) (m 94 9) aa from by first | (exact RB_kd r_RB r_W (tn_cast (by omega)) (fun t ht => (ra_101 hV ht).1)) | (exfalso; omega; done) | (exfalso; contradiction; done)) r_QI r_MK r_WTS (show ((nw.toInt < 0 ∨ 8 < nw.toInt ∨ rf.toInt < 0 ∨ ((1 : Int32) <<< (nw &&& 31)).toInt ≤ rf.toInt) ∧ (0 : Int32).toInt = 1 ∧ ((m 94 7) + (1 : Int32)).toInt = (m 94 7).toInt) ∨ (¬ (nw.toInt < 0 ∨ 8 < nw.toInt ∨ rf.toInt < 0 ∨ ((1 : Int32) <<< (nw &&& 31)).toInt ≤ rf.toInt) ∧ (m 94 7).toInt = 16 ∧ (0 : Int32).toInt = 2 ∧ ((m 94 7) + (1 : Int32)).toInt = (m 94 7).toInt) ∨ (¬ (nw.toInt < 0 ∨ 8 < nw.toInt ∨ rf.toInt < 0 ∨ ((1 : Int32) <<< (nw &&& 31)).toInt ≤ rf.toInt) ∧ (m 94 7).toInt < 16 ∧ (0 : Int32).toInt = 0 ∧ ((m 94 7) + (1 : Int32)).toInt = (m 94 7).toInt + 1 ∧ (((m 94 7) + (1 : Int32)) - (1 : Int32)).toInt = (m 94 7).toInt) from by omega) (show (((m 94 7) + (1 : Int32)).toInt = (m 94 7).toInt ∧ ((ma_u m 97 (m 94 7).toNatClampNeg nw) 97) = (m 97) ∧ ((ma_u m 98 (m 94 7).toNatClampNeg rf) 98) = (m 98)) ∨ (((m 94 7) + (1 : Int32)).toInt = (m 94 7).toInt + 1 ∧ ((ma_u m 97 (m 94 7).toNatClampNeg nw) 97) = zUp (m 97) (m 94 7).toNatClampNeg nw ∧ ((ma_u m 98 (m 94 7).toNatClampNeg rf) 98) = zUp (m 98) (m 94 7).toNatClampNeg rf) from by first | (exact Or.inr ⟨by omega, mu_up, mu_up⟩) | (exfalso; omega; done) | (exfalso; contradiction; done))
        · skip
          have g39 := i_nlt h20
          have hV40 : zV (ma_u m 94 0 (1 : Int32)) := uf_94_0 hV
          have li41 : (1 : Int32).toInt = 1 := rfl
          have f42 : 0 ≤ (m 94 7).toInt ∧ (m 94 7).toInt ≤ 16 := rs_94_7 (m := m) hV
          exact K ((0 : Int32)) _ (zF_u zF_rfl rfl) hV40 r_W r_GW r_GU r_OW r_GG r_RB r_QI r_MK r_WTS (show ((nw.toInt < 0 ∨ 8 < nw.toInt ∨ rf.toInt < 0 ∨ ((1 : Int32) <<< (nw &&& 31)).toInt ≤ rf.toInt) ∧ (1 : Int32).toInt = 1 ∧ (m 94 7).toInt = (m 94 7).toInt) ∨ (¬ (nw.toInt < 0 ∨ 8 < nw.toInt ∨ rf.toInt < 0 ∨ ((1 : Int32) <<< (nw &&& 31)).toInt ≤ rf.toInt) ∧ (m 94 7).toInt = 16 ∧ (1 : Int32).toInt = 2 ∧ (m 94 7).toInt = (m 94 7).toInt) ∨ (¬ (nw.toInt < 0 ∨ 8 < nw.toInt ∨ rf.toInt < 0 ∨ ((1 : Int32) <<< (nw &&& 31)).toInt ≤ rf.toInt) ∧ (m 94 7).toInt < 16 ∧ (1 : Int32).toInt = 0 ∧ (m 94 7).toInt = (m 94 7).toInt + 1 ∧ (0 : Int32).toInt = (m 94 7).toInt) from by omega) (show ((m 94 7).toInt = (m 94 7).toInt ∧ (m 97) = (m 97) ∧ (m 98) = (m 98)) ∨ ((m 94 7).toInt = (m 94 7).toInt + 1 ∧ (m 97) = zUp (m 97) (m 94 7).toNatClampNeg nw ∧ (m 98) = zUp (m 98) (m 94 7).toNatClampNeg rf) from by first | (exact Or.inl ⟨rfl, rfl, rfl⟩) | (exfalso; omega; done) | (exfalso; contradiction; done))
    · skip
      have g43 := i_nle h10
      have hV44 : zV (ma_u m 94 0 (1 : Int32)) := uf_94_0 hV
      have li45 : (1 : Int32).toInt = 1 := rfl
      have f46 : 0 ≤ (m 94 7).toInt ∧ (m 94 7).toInt ≤ 16 := rs_94_7 (m := m) hV
      exact K ((0 : Int32)) _ (zF_u zF_rfl rfl) hV44 r_W r_GW r_GU r_OW r_GG r_RB r_QI r_MK r_WTS (show ((nw.toInt < 0 ∨ 8 < nw.toInt ∨ rf.toInt < 0 ∨ ((1 : Int32) <<< (nw &&& 31)).toInt ≤ rf.toInt) ∧ (1 : Int32).toInt = 1 ∧ (m 94 7).toInt = (m 94 7).toInt) ∨ (¬ (nw.toInt < 0 ∨ 8 < nw.toInt ∨ rf.toInt < 0 ∨ ((1 : Int32) <<< (nw &&& 31)).toInt ≤ rf.toInt) ∧ (m 94 7).toInt = 16 ∧ (1 : Int32).toInt = 2 ∧ (m 94 7).toInt = (m 94 7).toInt) ∨ (¬ (nw.toInt < 0 ∨ 8 < nw.toInt ∨ rf.toInt < 0 ∨ ((1 : Int32) <<< (nw &&& 31)).toInt ≤ rf.toInt) ∧ (m 94 7).toInt < 16 ∧ (1 : Int32).toInt = 0 ∧ (m 94 7).toInt = (m 94 7).toInt + 1 ∧ (0 : Int32).toInt = (m 94 7).toInt) from by omega) (show ((m 94 7).toInt = (m 94 7).toInt ∧ (m 97) = (m 97) ∧ (m 98) = (m 98)) ∨ ((m 94 7).toInt = (m 94 7).toInt + 1 ∧ (m 97) = zUp (m 97) (m 94 7).toNatClampNeg nw ∧ (m 98) = zUp (m 98) (m 94 7).toNatClampNeg rf) from by first | (exact Or.inl ⟨rfl, rfl, rfl⟩) | (exfalso; omega; done) | (exfalso; contradiction; done))
