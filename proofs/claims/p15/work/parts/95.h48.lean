/-! the reference by numbers (written by wip/tools/gen18r.py) -/
theorem sp_170u {X : Nat × (Nat → Int32)} {P : Option ma_V → (Nat → Nat → Int32) → Prop} {T : Nat} {aa : Nat→Nat→Int32} {m : Nat → Nat → Int32} (nw : Int32) (rf : Int32) (hV : zV m) (hpre0 : T ≤ 512) (r_W : zW (m 94 7) (m 98) (m 101) (m 102) (m 108)) (r_GW : zGW T (m 94 55) (m 109)) (r_GU : zGU T (m 94 46) (m 99)) (r_OW : zOw (m 99) (m 103) (m 111)) (r_GG : zGG (m 94 58) (m 94 56) (m 94 57) (m 106)) (hpre6 : (m 94 10).toInt = 5) (r_RB : qRB (m 99) (m 100) (m 98) (m 101) (m 102) (m 103) (m 107) (m 108) (m 109) (m 111) (m 112) (m 113) (m 114) (m 94 55) (m 94 46) (m 94 11) (m 94 12) (m 94 62) (m 94 17) (m 94 9) aa) (r_QI : qI aa) (r_MG : qMG (m 94 58) (m 106) (m 115) (m 94 57) (m 94 56) (m 99) (m 100) aa) (r_MK : aa 87 8 = (m 94 58)) (r_WTS : (m 94 45).toInt = sm (zbU (m 99)) (m 102) 3100) (KZ : ∀ v m', zV (zov wr_170 m m') → (zW (m' 94 7) (m' 98) (m 101) (m 102) (m 108)) → (zGW T (m 94 55) (m 109)) → (zGU T (m 94 46) (m 99)) → (zOw (m 99) (m 103) (m 111)) → (zGG (m 94 58) (m 94 56) (m 94 57) (m 106)) → (qRB (m 99) (m 100) (m' 98) (m 101) (m 102) (m 103) (m 107) (m 108) (m 109) (m 111) (m 112) (m 113) (m 114) (m 94 55) (m 94 46) (m 94 11) (m 94 12) (m 94 62) (m 94 17) (m 94 9) aa) → (qI aa) → (qMG (m 94 58) (m 106) (m 115) (m 94 57) (m 94 56) (m 99) (m 100) aa) → (aa 87 8 = (m 94 58)) → ((m 94 45).toInt = sm (zbU (m 99)) (m 102) 3100) → (((nw.toInt < 0 ∨ 8 < nw.toInt ∨ rf.toInt < 0 ∨ ((1 : Int32) <<< (nw &&& 31)).toInt ≤ rf.toInt) ∧ (m' 94 0).toInt = 1 ∧ (m' 94 7).toInt = (m 94 7).toInt) ∨ (¬ (nw.toInt < 0 ∨ 8 < nw.toInt ∨ rf.toInt < 0 ∨ ((1 : Int32) <<< (nw &&& 31)).toInt ≤ rf.toInt) ∧ (m 94 7).toInt = 16 ∧ (m' 94 0).toInt = 2 ∧ (m' 94 7).toInt = (m 94 7).toInt) ∨ (¬ (nw.toInt < 0 ∨ 8 < nw.toInt ∨ rf.toInt < 0 ∨ ((1 : Int32) <<< (nw &&& 31)).toInt ≤ rf.toInt) ∧ (m 94 7).toInt < 16 ∧ (m' 94 0).toInt = 0 ∧ (m' 94 7).toInt = (m 94 7).toInt + 1 ∧ v.toInt = (m 94 7).toInt)) → (((m' 94 7).toInt = (m 94 7).toInt ∧ (m' 97) = (m 97) ∧ (m' 98) = (m 98)) ∨ ((m' 94 7).toInt = (m 94 7).toInt + 1 ∧ (m' 97) = zUp (m 97) (m 94 7).toNatClampNeg nw ∧ (m' 98) = zUp (m 98) (m 94 7).toNatClampNeg rf)) → P (some (.inl v)) (zov wr_170 m m')) : zm X 1 21 170 0 [(0, .inr (.inr (some 94))), (1, .inl nw), (2, .inl rf)] m P := by
  have K : ∀ v m', zF wr_170 m m' → zV m' → (zW (m' 94 7) (m' 98) (m' 101) (m' 102) (m' 108)) → (zGW T (m' 94 55) (m' 109)) → (zGU T (m' 94 46) (m' 99)) → (zOw (m' 99) (m' 103) (m' 111)) → (zGG (m' 94 58) (m' 94 56) (m' 94 57) (m' 106)) → (qRB (m' 99) (m' 100) (m' 98) (m' 101) (m' 102) (m' 103) (m' 107) (m' 108) (m' 109) (m' 111) (m' 112) (m' 113) (m' 114) (m' 94 55) (m' 94 46) (m' 94 11) (m' 94 12) (m' 94 62) (m' 94 17) (m' 94 9) aa) → (qI aa) → (qMG (m' 94 58) (m' 106) (m' 115) (m' 94 57) (m' 94 56) (m' 99) (m' 100) aa) → (aa 87 8 = (m' 94 58)) → ((m' 94 45).toInt = sm (zbU (m' 99)) (m' 102) 3100) → (((nw.toInt < 0 ∨ 8 < nw.toInt ∨ rf.toInt < 0 ∨ ((1 : Int32) <<< (nw &&& 31)).toInt ≤ rf.toInt) ∧ (m' 94 0).toInt = 1 ∧ (m' 94 7).toInt = (m 94 7).toInt) ∨ (¬ (nw.toInt < 0 ∨ 8 < nw.toInt ∨ rf.toInt < 0 ∨ ((1 : Int32) <<< (nw &&& 31)).toInt ≤ rf.toInt) ∧ (m 94 7).toInt = 16 ∧ (m' 94 0).toInt = 2 ∧ (m' 94 7).toInt = (m 94 7).toInt) ∨ (¬ (nw.toInt < 0 ∨ 8 < nw.toInt ∨ rf.toInt < 0 ∨ ((1 : Int32) <<< (nw &&& 31)).toInt ≤ rf.toInt) ∧ (m 94 7).toInt < 16 ∧ (m' 94 0).toInt = 0 ∧ (m' 94 7).toInt = (m 94 7).toInt + 1 ∧ v.toInt = (m 94 7).toInt)) → (((m' 94 7).toInt = (m 94 7).toInt ∧ (m' 97) = (m 97) ∧ (m' 98) = (m 98)) ∨ ((m' 94 7).toInt = (m 94 7).toInt + 1 ∧ (m' 97) = zUp (m 97) (m 94 7).toNatClampNeg nw ∧ (m' 98) = zUp (m 98) (m 94 7).toNatClampNeg rf)) → P (some (.inl v)) m' := by
    intro v m' hf z q0 q1 q2 q3 q4 q5 q6 q7 q8 q9 q10 q11
    have e := zov_eq hf
    rw [e] at z ⊢
    try rw [e] at q0
    try rw [e] at q1
    try rw [e] at q2
    try rw [e] at q3
    try rw [e] at q4
    try rw [e] at q5
    try rw [e] at q6
    try rw [e] at q7
    try rw [e] at q8
    try rw [e] at q9
    try rw [e] at q10
    try rw [e] at q11
    exact KZ v m' z q0 q1 q2 q3 q4 q5 q6 q7 q8 q9 q10 q11
  refine g_170_0 nw rf ?_
  have f1 : 0 ≤ (m 94 10).toInt ∧ (m 94 10).toInt ≤ 6 := rs_94_10 (m := m) hV
  have b2 := i_bd nw
  have li3 : (0 : Int32).toInt = 0 := rfl
  refine zd (fun (h4 : nw < (0 : Int32)) => ?_) (fun (h4 : ¬ nw < (0 : Int32)) => ?_)
  · skip
    have g5 := i_lt h4
    have hV6 : zV (ma_u m 94 0 (1 : Int32)) := uf_94_0 hV
    have li7 : (1 : Int32).toInt = 1 := rfl
    have f8 : 0 ≤ (m 94 7).toInt ∧ (m 94 7).toInt ≤ 16 := rs_94_7 (m := m) hV
    exact K ((0 : Int32)) _ (zF_u zF_rfl rfl) hV6 r_W r_GW r_GU r_OW r_GG r_RB r_QI r_MG r_MK r_WTS (show ((nw.toInt < 0 ∨ 8 < nw.toInt ∨ rf.toInt < 0 ∨ ((1 : Int32) <<< (nw &&& 31)).toInt ≤ rf.toInt) ∧ (1 : Int32).toInt = 1 ∧ (m 94 7).toInt = (m 94 7).toInt) ∨ (¬ (nw.toInt < 0 ∨ 8 < nw.toInt ∨ rf.toInt < 0 ∨ ((1 : Int32) <<< (nw &&& 31)).toInt ≤ rf.toInt) ∧ (m 94 7).toInt = 16 ∧ (1 : Int32).toInt = 2 ∧ (m 94 7).toInt = (m 94 7).toInt) ∨ (¬ (nw.toInt < 0 ∨ 8 < nw.toInt ∨ rf.toInt < 0 ∨ ((1 : Int32) <<< (nw &&& 31)).toInt ≤ rf.toInt) ∧ (m 94 7).toInt < 16 ∧ (1 : Int32).toInt = 0 ∧ (m 94 7).toInt = (m 94 7).toInt + 1 ∧ (0 : Int32).toInt = (m 94 7).toInt) from by omega) (show ((m 94 7).toInt = (m 94 7).toInt ∧ (m 97) = (m 97) ∧ (m 98) = (m 98)) ∨ ((m 94 7).toInt = (m 94 7).toInt + 1 ∧ (m 97) = zUp (m 97) (m 94 7).toNatClampNeg nw ∧ (m 98) = zUp (m 98) (m 94 7).toNatClampNeg rf) from by first | (exact Or.inl ⟨rfl, rfl, rfl⟩) | (exfalso; omega; done) | (exfalso; contradiction; done))
  · skip
    have g9 := i_nlt h4
    have li10 : (8 : Int32).toInt = 8 := rfl
    refine zd (fun (h11 : nw ≤ (8 : Int32)) => ?_) (fun (h11 : ¬ nw ≤ (8 : Int32)) => ?_)
    · skip
      have g12 := i_le h11
      have b13 := i_bd rf
      refine zd (fun (h14 : rf < (0 : Int32)) => ?_) (fun (h14 : ¬ rf < (0 : Int32)) => ?_)
      · skip
        have g15 := i_lt h14
        have hV16 : zV (ma_u m 94 0 (1 : Int32)) := uf_94_0 hV
        have li17 : (1 : Int32).toInt = 1 := rfl
        have f18 : 0 ≤ (m 94 7).toInt ∧ (m 94 7).toInt ≤ 16 := rs_94_7 (m := m) hV
        exact K ((0 : Int32)) _ (zF_u zF_rfl rfl) hV16 r_W r_GW r_GU r_OW r_GG r_RB r_QI r_MG r_MK r_WTS (show ((nw.toInt < 0 ∨ 8 < nw.toInt ∨ rf.toInt < 0 ∨ ((1 : Int32) <<< (nw &&& 31)).toInt ≤ rf.toInt) ∧ (1 : Int32).toInt = 1 ∧ (m 94 7).toInt = (m 94 7).toInt) ∨ (¬ (nw.toInt < 0 ∨ 8 < nw.toInt ∨ rf.toInt < 0 ∨ ((1 : Int32) <<< (nw &&& 31)).toInt ≤ rf.toInt) ∧ (m 94 7).toInt = 16 ∧ (1 : Int32).toInt = 2 ∧ (m 94 7).toInt = (m 94 7).toInt) ∨ (¬ (nw.toInt < 0 ∨ 8 < nw.toInt ∨ rf.toInt < 0 ∨ ((1 : Int32) <<< (nw &&& 31)).toInt ≤ rf.toInt) ∧ (m 94 7).toInt < 16 ∧ (1 : Int32).toInt = 0 ∧ (m 94 7).toInt = (m 94 7).toInt + 1 ∧ (0 : Int32).toInt = (m 94 7).toInt) from by omega) (show ((m 94 7).toInt = (m 94 7).toInt ∧ (m 97) = (m 97) ∧ (m 98) = (m 98)) ∨ ((m 94 7).toInt = (m 94 7).toInt + 1 ∧ (m 97) = zUp (m 97) (m 94 7).toNatClampNeg nw ∧ (m 98) = zUp (m 98) (m 94 7).toNatClampNeg rf) from by first | (exact Or.inl ⟨rfl, rfl, rfl⟩) | (exfalso; omega; done) | (exfalso; contradiction; done))
      · skip
        have g19 := i_nlt h14
        have b20 := i_bd ((1 : Int32) <<< (nw &&& 31))
        refine zd (fun (h21 : rf < ((1 : Int32) <<< (nw &&& 31))) => ?_) (fun (h21 : ¬ rf < ((1 : Int32) <<< (nw &&& 31))) => ?_)
        · skip
          have g22 := i_lt h21
          have f23 : 0 ≤ (m 94 7).toInt ∧ (m 94 7).toInt ≤ 16 := rs_94_7 (m := m) hV
          have li24 : (16 : Int32).toInt = 16 := rfl
          refine zd (fun (h25 : (m 94 7) = (16 : Int32)) => ?_) (fun (h25 : ¬ (m 94 7) = (16 : Int32)) => ?_)
          · skip
            have g26 := i_eq h25
            have hV27 : zV (ma_u m 94 0 (2 : Int32)) := uf_94_0 hV
            have li28 : (2 : Int32).toInt = 2 := rfl
            exact K ((0 : Int32)) _ (zF_u zF_rfl rfl) hV27 r_W r_GW r_GU r_OW r_GG r_RB r_QI r_MG r_MK r_WTS (show ((nw.toInt < 0 ∨ 8 < nw.toInt ∨ rf.toInt < 0 ∨ ((1 : Int32) <<< (nw &&& 31)).toInt ≤ rf.toInt) ∧ (2 : Int32).toInt = 1 ∧ (m 94 7).toInt = (m 94 7).toInt) ∨ (¬ (nw.toInt < 0 ∨ 8 < nw.toInt ∨ rf.toInt < 0 ∨ ((1 : Int32) <<< (nw &&& 31)).toInt ≤ rf.toInt) ∧ (m 94 7).toInt = 16 ∧ (2 : Int32).toInt = 2 ∧ (m 94 7).toInt = (m 94 7).toInt) ∨ (¬ (nw.toInt < 0 ∨ 8 < nw.toInt ∨ rf.toInt < 0 ∨ ((1 : Int32) <<< (nw &&& 31)).toInt ≤ rf.toInt) ∧ (m 94 7).toInt < 16 ∧ (2 : Int32).toInt = 0 ∧ (m 94 7).toInt = (m 94 7).toInt + 1 ∧ (0 : Int32).toInt = (m 94 7).toInt) from by omega) (show ((m 94 7).toInt = (m 94 7).toInt ∧ (m 97) = (m 97) ∧ (m 98) = (m 98)) ∨ ((m 94 7).toInt = (m 94 7).toInt + 1 ∧ (m 97) = zUp (m 97) (m 94 7).toNatClampNeg nw ∧ (m 98) = zUp (m 98) (m 94 7).toNatClampNeg rf) from by first | (exact Or.inl ⟨rfl, rfl, rfl⟩) | (exfalso; omega; done) | (exfalso; contradiction; done))
          · skip
            have g29 := i_ne h25
            have hg30 : (0 ≤ (m 94 7) ∧ (m 94 7).toNatClampNeg < 16) := i_ix (by omega) (by omega)
            refine ⟨hg30, ?_⟩
            try have sh := i_shl8 (n := nw) (by omega) (by omega)
            have hg31 : (0 ≤ (m 94 7) ∧ (m 94 7).toNatClampNeg < 16) := i_ix (by omega) (by omega)
            refine ⟨hg31, ?_⟩
            have hV32 : zV (ma_u m 94 0 (0 : Int32)) := uf_94_0 hV
            have hV33 : zV (ma_u (ma_u m 94 0 (0 : Int32)) 97 (m 94 7).toNatClampNeg nw) := ua_97 hV32 (by omega) (by omega)
            have hV34 : zV (ma_u (ma_u (ma_u m 94 0 (0 : Int32)) 97 (m 94 7).toNatClampNeg nw) 98 (m 94 7).toNatClampNeg rf) := ua_98 hV33 (by omega) (by omega)
            first | have e36 : ((m 94 7) + (1 : Int32)).toInt = (m 94 7).toInt + (1) := i_addk rfl (by omega) (by omega) | have b37 := i_bd ((m 94 7) + (1 : Int32))
            have hV35 : zV (ma_u (ma_u (ma_u (ma_u m 94 0 (0 : Int32)) 97 (m 94 7).toNatClampNeg nw) 98 (m 94 7).toNatClampNeg rf) 94 7 ((m 94 7) + (1 : Int32))) := us_94_7 hV34 (by omega) (by omega)
            first | have e38 : (((m 94 7) + (1 : Int32)) - (1 : Int32)).toInt = ((m 94 7) + (1 : Int32)).toInt - (1) := i_subk rfl (by omega) (by omega) | have b39 := i_bd (((m 94 7) + (1 : Int32)) - (1 : Int32))
            exact K ((((m 94 7) + (1 : Int32)) - (1 : Int32))) _ (zF_u (zF_u (zF_u (zF_u zF_rfl rfl) rfl) rfl) rfl) hV35 (show zW ((m 94 7) + (1 : Int32)) ((ma_u m 98 (m 94 7).toNatClampNeg rf) 98) (m 101) (m 102) (m 108) from by first | (exact W_same r_W (by omega) (zrf_kind r_W (tn_cast (by omega)) (fun t ht => (ra_101 hV ht).1))) | (exfalso; omega; done) | (exfalso; contradiction; done)) r_GW r_GU r_OW r_GG (show qRB (m 99) (m 100) ((ma_u m 98 (m 94 7).toNatClampNeg rf) 98) (m 101) (m 102) (m 103) (m 107) (m 108) (m 109) (m 111) (m 112) (m 113) (m 114) (m 94 55) (m 94 46) (m 94 11) (m 94 12) (m 94 62) (m 94 17) (m 94 9) aa from by first | (exact RB_kd r_RB r_W (tn_cast (by omega)) (fun t ht => (ra_101 hV ht).1)) | (exfalso; omega; done) | (exfalso; contradiction; done)) r_QI r_MG r_MK r_WTS (show ((nw.toInt < 0 ∨ 8 < nw.toInt ∨ rf.toInt < 0 ∨ ((1 : Int32) <<< (nw &&& 31)).toInt ≤ rf.toInt) ∧ (0 : Int32).toInt = 1 ∧ ((m 94 7) + (1 : Int32)).toInt = (m 94 7).toInt) ∨ (¬ (nw.toInt < 0 ∨ 8 < nw.toInt ∨ rf.toInt < 0 ∨ ((1 : Int32) <<< (nw &&& 31)).toInt ≤ rf.toInt) ∧ (m 94 7).toInt = 16 ∧ (0 : Int32).toInt = 2 ∧ ((m 94 7) + (1 : Int32)).toInt = (m 94 7).toInt) ∨ (¬ (nw.toInt < 0 ∨ 8 < nw.toInt ∨ rf.toInt < 0 ∨ ((1 : Int32) <<< (nw &&& 31)).toInt ≤ rf.toInt) ∧ (m 94 7).toInt < 16 ∧ (0 : Int32).toInt = 0 ∧ ((m 94 7) + (1 : Int32)).toInt = (m 94 7).toInt + 1 ∧ (((m 94 7) + (1 : Int32)) - (1 : Int32)).toInt = (m 94 7).toInt) from by omega) (show (((m 94 7) + (1 : Int32)).toInt = (m 94 7).toInt ∧ ((ma_u m 97 (m 94 7).toNatClampNeg nw) 97) = (m 97) ∧ ((ma_u m 98 (m 94 7).toNatClampNeg rf) 98) = (m 98)) ∨ (((m 94 7) + (1 : Int32)).toInt = (m 94 7).toInt + 1 ∧ ((ma_u m 97 (m 94 7).toNatClampNeg nw) 97) = zUp (m 97) (m 94 7).toNatClampNeg nw ∧ ((ma_u m 98 (m 94 7).toNatClampNeg rf) 98) = zUp (m 98) (m 94 7).toNatClampNeg rf) from by first | (exact Or.inr ⟨by omega, mu_up, mu_up⟩) | (exfalso; omega; done) | (exfalso; contradiction; done))
        · skip
          have g40 := i_nlt h21
          have hV41 : zV (ma_u m 94 0 (1 : Int32)) := uf_94_0 hV
          have li42 : (1 : Int32).toInt = 1 := rfl
          have f43 : 0 ≤ (m 94 7).toInt ∧ (m 94 7).toInt ≤ 16 := rs_94_7 (m := m) hV
          exact K ((0 : Int32)) _ (zF_u zF_rfl rfl) hV41 r_W r_GW r_GU r_OW r_GG r_RB r_QI r_MG r_MK r_WTS (show ((nw.toInt < 0 ∨ 8 < nw.toInt ∨ rf.toInt < 0 ∨ ((1 : Int32) <<< (nw &&& 31)).toInt ≤ rf.toInt) ∧ (1 : Int32).toInt = 1 ∧ (m 94 7).toInt = (m 94 7).toInt) ∨ (¬ (nw.toInt < 0 ∨ 8 < nw.toInt ∨ rf.toInt < 0 ∨ ((1 : Int32) <<< (nw &&& 31)).toInt ≤ rf.toInt) ∧ (m 94 7).toInt = 16 ∧ (1 : Int32).toInt = 2 ∧ (m 94 7).toInt = (m 94 7).toInt) ∨ (¬ (nw.toInt < 0 ∨ 8 < nw.toInt ∨ rf.toInt < 0 ∨ ((1 : Int32) <<< (nw &&& 31)).toInt ≤ rf.toInt) ∧ (m 94 7).toInt < 16 ∧ (1 : Int32).toInt = 0 ∧ (m 94 7).toInt = (m 94 7).toInt + 1 ∧ (0 : Int32).toInt = (m 94 7).toInt) from by omega) (show ((m 94 7).toInt = (m 94 7).toInt ∧ (m 97) = (m 97) ∧ (m 98) = (m 98)) ∨ ((m 94 7).toInt = (m 94 7).toInt + 1 ∧ (m 97) = zUp (m 97) (m 94 7).toNatClampNeg nw ∧ (m 98) = zUp (m 98) (m 94 7).toNatClampNeg rf) from by first | (exact Or.inl ⟨rfl, rfl, rfl⟩) | (exfalso; omega; done) | (exfalso; contradiction; done))
    · skip
      have g44 := i_nle h11
      have hV45 : zV (ma_u m 94 0 (1 : Int32)) := uf_94_0 hV
      have li46 : (1 : Int32).toInt = 1 := rfl
      have f47 : 0 ≤ (m 94 7).toInt ∧ (m 94 7).toInt ≤ 16 := rs_94_7 (m := m) hV
      exact K ((0 : Int32)) _ (zF_u zF_rfl rfl) hV45 r_W r_GW r_GU r_OW r_GG r_RB r_QI r_MG r_MK r_WTS (show ((nw.toInt < 0 ∨ 8 < nw.toInt ∨ rf.toInt < 0 ∨ ((1 : Int32) <<< (nw &&& 31)).toInt ≤ rf.toInt) ∧ (1 : Int32).toInt = 1 ∧ (m 94 7).toInt = (m 94 7).toInt) ∨ (¬ (nw.toInt < 0 ∨ 8 < nw.toInt ∨ rf.toInt < 0 ∨ ((1 : Int32) <<< (nw &&& 31)).toInt ≤ rf.toInt) ∧ (m 94 7).toInt = 16 ∧ (1 : Int32).toInt = 2 ∧ (m 94 7).toInt = (m 94 7).toInt) ∨ (¬ (nw.toInt < 0 ∨ 8 < nw.toInt ∨ rf.toInt < 0 ∨ ((1 : Int32) <<< (nw &&& 31)).toInt ≤ rf.toInt) ∧ (m 94 7).toInt < 16 ∧ (1 : Int32).toInt = 0 ∧ (m 94 7).toInt = (m 94 7).toInt + 1 ∧ (0 : Int32).toInt = (m 94 7).toInt) from by omega) (show ((m 94 7).toInt = (m 94 7).toInt ∧ (m 97) = (m 97) ∧ (m 98) = (m 98)) ∨ ((m 94 7).toInt = (m 94 7).toInt + 1 ∧ (m 97) = zUp (m 97) (m 94 7).toNatClampNeg nw ∧ (m 98) = zUp (m 98) (m 94 7).toNatClampNeg rf) from by first | (exact Or.inl ⟨rfl, rfl, rfl⟩) | (exfalso; omega; done) | (exfalso; contradiction; done))
theorem sp_170w {X : Nat × (Nat → Int32)} {P : Option ma_V → (Nat → Nat → Int32) → Prop} {T : Nat} {m : Nat → Nat → Int32} (nw : Int32) (rf : Int32) (hV : zV m) (r_W : zW (m 94 7) (m 98) (m 101) (m 102) (m 108)) (r_GW : zGW T (m 94 55) (m 109)) (r_GU : zGU T (m 94 46) (m 99)) (r_OW : zOw (m 99) (m 103) (m 111)) (r_DX : zDX (m 94 10) (m 99) (m 112) (m 113) (m 114) (m 94 55) (m 98) (m 101) (m 102) (m 108)) (r_GG : zGG (m 94 58) (m 94 56) (m 94 57) (m 106)) (r_HA : zHA (m 94 10) (m 94 11) (m 94 13) (m 94 14) (m 94 16) (m 94 61) (m 94 59) (m 94 60) (m 99) (m 102) (m 103) (m 111) (m 117) (m 98) (m 101) (m 108)) (r_RGc : zRG (m 94 10) (m 94 18) (m 94 64) (m 94 63) (m 99) (m 103) (m 102) (m 116)) (hpre8 : (m 94 58).toInt = 0 ∨ (m 94 10).toInt = 5) (KZ : ∀ v m', zV (zov wr_170 m m') → (zW (m' 94 7) (m' 98) (m 101) (m 102) (m 108)) → (zGW T (m 94 55) (m 109)) → (zGU T (m 94 46) (m 99)) → (zOw (m 99) (m 103) (m 111)) → (zDX (m 94 10) (m 99) (m 112) (m 113) (m 114) (m 94 55) (m' 98) (m 101) (m 102) (m 108)) → (zGG (m 94 58) (m 94 56) (m 94 57) (m 106)) → (zHA (m 94 10) (m 94 11) (m 94 13) (m 94 14) (m 94 16) (m 94 61) (m 94 59) (m 94 60) (m 99) (m 102) (m 103) (m 111) (m 117) (m' 98) (m 101) (m 108)) → (zRG (m 94 10) (m 94 18) (m 94 64) (m 94 63) (m 99) (m 103) (m 102) (m 116)) → ((m 94 58).toInt = 0 ∨ (m 94 10).toInt = 5) → (((nw.toInt < 0 ∨ 8 < nw.toInt ∨ rf.toInt < 0 ∨ ((1 : Int32) <<< (nw &&& 31)).toInt ≤ rf.toInt) ∧ (m' 94 0).toInt = 1 ∧ (m' 94 7).toInt = (m 94 7).toInt) ∨ (¬ (nw.toInt < 0 ∨ 8 < nw.toInt ∨ rf.toInt < 0 ∨ ((1 : Int32) <<< (nw &&& 31)).toInt ≤ rf.toInt) ∧ (m 94 7).toInt = 16 ∧ (m' 94 0).toInt = 2 ∧ (m' 94 7).toInt = (m 94 7).toInt) ∨ (¬ (nw.toInt < 0 ∨ 8 < nw.toInt ∨ rf.toInt < 0 ∨ ((1 : Int32) <<< (nw &&& 31)).toInt ≤ rf.toInt) ∧ (m 94 7).toInt < 16 ∧ (m' 94 0).toInt = 0 ∧ (m' 94 7).toInt = (m 94 7).toInt + 1 ∧ v.toInt = (m 94 7).toInt)) → (((m' 94 7).toInt = (m 94 7).toInt ∧ (m' 97) = (m 97) ∧ (m' 98) = (m 98)) ∨ ((m' 94 7).toInt = (m 94 7).toInt + 1 ∧ (m' 97) = zUp (m 97) (m 94 7).toNatClampNeg nw ∧ (m' 98) = zUp (m 98) (m 94 7).toNatClampNeg rf)) → P (some (.inl v)) (zov wr_170 m m')) : zm X 1 21 170 0 [(0, .inr (.inr (some 94))), (1, .inl nw), (2, .inl rf)] m P := by
  have K : ∀ v m', zF wr_170 m m' → zV m' → (zW (m' 94 7) (m' 98) (m' 101) (m' 102) (m' 108)) → (zGW T (m' 94 55) (m' 109)) → (zGU T (m' 94 46) (m' 99)) → (zOw (m' 99) (m' 103) (m' 111)) → (zDX (m' 94 10) (m' 99) (m' 112) (m' 113) (m' 114) (m' 94 55) (m' 98) (m' 101) (m' 102) (m' 108)) → (zGG (m' 94 58) (m' 94 56) (m' 94 57) (m' 106)) → (zHA (m' 94 10) (m' 94 11) (m' 94 13) (m' 94 14) (m' 94 16) (m' 94 61) (m' 94 59) (m' 94 60) (m' 99) (m' 102) (m' 103) (m' 111) (m' 117) (m' 98) (m' 101) (m' 108)) → (zRG (m' 94 10) (m' 94 18) (m' 94 64) (m' 94 63) (m' 99) (m' 103) (m' 102) (m' 116)) → ((m' 94 58).toInt = 0 ∨ (m' 94 10).toInt = 5) → (((nw.toInt < 0 ∨ 8 < nw.toInt ∨ rf.toInt < 0 ∨ ((1 : Int32) <<< (nw &&& 31)).toInt ≤ rf.toInt) ∧ (m' 94 0).toInt = 1 ∧ (m' 94 7).toInt = (m 94 7).toInt) ∨ (¬ (nw.toInt < 0 ∨ 8 < nw.toInt ∨ rf.toInt < 0 ∨ ((1 : Int32) <<< (nw &&& 31)).toInt ≤ rf.toInt) ∧ (m 94 7).toInt = 16 ∧ (m' 94 0).toInt = 2 ∧ (m' 94 7).toInt = (m 94 7).toInt) ∨ (¬ (nw.toInt < 0 ∨ 8 < nw.toInt ∨ rf.toInt < 0 ∨ ((1 : Int32) <<< (nw &&& 31)).toInt ≤ rf.toInt) ∧ (m 94 7).toInt < 16 ∧ (m' 94 0).toInt = 0 ∧ (m' 94 7).toInt = (m 94 7).toInt + 1 ∧ v.toInt = (m 94 7).toInt)) → (((m' 94 7).toInt = (m 94 7).toInt ∧ (m' 97) = (m 97) ∧ (m' 98) = (m 98)) ∨ ((m' 94 7).toInt = (m 94 7).toInt + 1 ∧ (m' 97) = zUp (m 97) (m 94 7).toNatClampNeg nw ∧ (m' 98) = zUp (m 98) (m 94 7).toNatClampNeg rf)) → P (some (.inl v)) m' := by
    intro v m' hf z q0 q1 q2 q3 q4 q5 q6 q7 q8 q9 q10
    have e := zov_eq hf
    rw [e] at z ⊢
    try rw [e] at q0
    try rw [e] at q1
    try rw [e] at q2
    try rw [e] at q3
    try rw [e] at q4
    try rw [e] at q5
    try rw [e] at q6
    try rw [e] at q7
    try rw [e] at q8
    try rw [e] at q9
    try rw [e] at q10
    exact KZ v m' z q0 q1 q2 q3 q4 q5 q6 q7 q8 q9 q10
  refine g_170_0 nw rf ?_
  have f1 : 0 ≤ (m 94 58).toInt ∧ (m 94 58).toInt ≤ 1 := rs_94_58 (m := m) hV
  have f2 : 0 ≤ (m 94 10).toInt ∧ (m 94 10).toInt ≤ 6 := rs_94_10 (m := m) hV
  have b3 := i_bd nw
  have li4 : (0 : Int32).toInt = 0 := rfl
  refine zd (fun (h5 : nw < (0 : Int32)) => ?_) (fun (h5 : ¬ nw < (0 : Int32)) => ?_)
  · skip
    have g6 := i_lt h5
    have hV7 : zV (ma_u m 94 0 (1 : Int32)) := uf_94_0 hV
    have li8 : (1 : Int32).toInt = 1 := rfl
    have f9 : 0 ≤ (m 94 7).toInt ∧ (m 94 7).toInt ≤ 16 := rs_94_7 (m := m) hV
    exact K ((0 : Int32)) _ (zF_u zF_rfl rfl) hV7 r_W r_GW r_GU r_OW r_DX r_GG r_HA r_RGc (show (m 94 58).toInt = 0 ∨ (m 94 10).toInt = 5 from by omega) (show ((nw.toInt < 0 ∨ 8 < nw.toInt ∨ rf.toInt < 0 ∨ ((1 : Int32) <<< (nw &&& 31)).toInt ≤ rf.toInt) ∧ (1 : Int32).toInt = 1 ∧ (m 94 7).toInt = (m 94 7).toInt) ∨ (¬ (nw.toInt < 0 ∨ 8 < nw.toInt ∨ rf.toInt < 0 ∨ ((1 : Int32) <<< (nw &&& 31)).toInt ≤ rf.toInt) ∧ (m 94 7).toInt = 16 ∧ (1 : Int32).toInt = 2 ∧ (m 94 7).toInt = (m 94 7).toInt) ∨ (¬ (nw.toInt < 0 ∨ 8 < nw.toInt ∨ rf.toInt < 0 ∨ ((1 : Int32) <<< (nw &&& 31)).toInt ≤ rf.toInt) ∧ (m 94 7).toInt < 16 ∧ (1 : Int32).toInt = 0 ∧ (m 94 7).toInt = (m 94 7).toInt + 1 ∧ (0 : Int32).toInt = (m 94 7).toInt) from by omega) (show ((m 94 7).toInt = (m 94 7).toInt ∧ (m 97) = (m 97) ∧ (m 98) = (m 98)) ∨ ((m 94 7).toInt = (m 94 7).toInt + 1 ∧ (m 97) = zUp (m 97) (m 94 7).toNatClampNeg nw ∧ (m 98) = zUp (m 98) (m 94 7).toNatClampNeg rf) from by first | (exact Or.inl ⟨rfl, rfl, rfl⟩) | (exfalso; omega; done) | (exfalso; contradiction; done))
  · skip
    have g10 := i_nlt h5
    have li11 : (8 : Int32).toInt = 8 := rfl
    refine zd (fun (h12 : nw ≤ (8 : Int32)) => ?_) (fun (h12 : ¬ nw ≤ (8 : Int32)) => ?_)
    · skip
      have g13 := i_le h12
      have b14 := i_bd rf
      refine zd (fun (h15 : rf < (0 : Int32)) => ?_) (fun (h15 : ¬ rf < (0 : Int32)) => ?_)
      · skip
        have g16 := i_lt h15
        have hV17 : zV (ma_u m 94 0 (1 : Int32)) := uf_94_0 hV
        have li18 : (1 : Int32).toInt = 1 := rfl
        have f19 : 0 ≤ (m 94 7).toInt ∧ (m 94 7).toInt ≤ 16 := rs_94_7 (m := m) hV
        exact K ((0 : Int32)) _ (zF_u zF_rfl rfl) hV17 r_W r_GW r_GU r_OW r_DX r_GG r_HA r_RGc (show (m 94 58).toInt = 0 ∨ (m 94 10).toInt = 5 from by omega) (show ((nw.toInt < 0 ∨ 8 < nw.toInt ∨ rf.toInt < 0 ∨ ((1 : Int32) <<< (nw &&& 31)).toInt ≤ rf.toInt) ∧ (1 : Int32).toInt = 1 ∧ (m 94 7).toInt = (m 94 7).toInt) ∨ (¬ (nw.toInt < 0 ∨ 8 < nw.toInt ∨ rf.toInt < 0 ∨ ((1 : Int32) <<< (nw &&& 31)).toInt ≤ rf.toInt) ∧ (m 94 7).toInt = 16 ∧ (1 : Int32).toInt = 2 ∧ (m 94 7).toInt = (m 94 7).toInt) ∨ (¬ (nw.toInt < 0 ∨ 8 < nw.toInt ∨ rf.toInt < 0 ∨ ((1 : Int32) <<< (nw &&& 31)).toInt ≤ rf.toInt) ∧ (m 94 7).toInt < 16 ∧ (1 : Int32).toInt = 0 ∧ (m 94 7).toInt = (m 94 7).toInt + 1 ∧ (0 : Int32).toInt = (m 94 7).toInt) from by omega) (show ((m 94 7).toInt = (m 94 7).toInt ∧ (m 97) = (m 97) ∧ (m 98) = (m 98)) ∨ ((m 94 7).toInt = (m 94 7).toInt + 1 ∧ (m 97) = zUp (m 97) (m 94 7).toNatClampNeg nw ∧ (m 98) = zUp (m 98) (m 94 7).toNatClampNeg rf) from by first | (exact Or.inl ⟨rfl, rfl, rfl⟩) | (exfalso; omega; done) | (exfalso; contradiction; done))
      · skip
        have g20 := i_nlt h15
        have b21 := i_bd ((1 : Int32) <<< (nw &&& 31))
        refine zd (fun (h22 : rf < ((1 : Int32) <<< (nw &&& 31))) => ?_) (fun (h22 : ¬ rf < ((1 : Int32) <<< (nw &&& 31))) => ?_)
        · skip
          have g23 := i_lt h22
          have f24 : 0 ≤ (m 94 7).toInt ∧ (m 94 7).toInt ≤ 16 := rs_94_7 (m := m) hV
          have li25 : (16 : Int32).toInt = 16 := rfl
          refine zd (fun (h26 : (m 94 7) = (16 : Int32)) => ?_) (fun (h26 : ¬ (m 94 7) = (16 : Int32)) => ?_)
          · skip
            have g27 := i_eq h26
            have hV28 : zV (ma_u m 94 0 (2 : Int32)) := uf_94_0 hV
            have li29 : (2 : Int32).toInt = 2 := rfl
            exact K ((0 : Int32)) _ (zF_u zF_rfl rfl) hV28 r_W r_GW r_GU r_OW r_DX r_GG r_HA r_RGc (show (m 94 58).toInt = 0 ∨ (m 94 10).toInt = 5 from by omega) (show ((nw.toInt < 0 ∨ 8 < nw.toInt ∨ rf.toInt < 0 ∨ ((1 : Int32) <<< (nw &&& 31)).toInt ≤ rf.toInt) ∧ (2 : Int32).toInt = 1 ∧ (m 94 7).toInt = (m 94 7).toInt) ∨ (¬ (nw.toInt < 0 ∨ 8 < nw.toInt ∨ rf.toInt < 0 ∨ ((1 : Int32) <<< (nw &&& 31)).toInt ≤ rf.toInt) ∧ (m 94 7).toInt = 16 ∧ (2 : Int32).toInt = 2 ∧ (m 94 7).toInt = (m 94 7).toInt) ∨ (¬ (nw.toInt < 0 ∨ 8 < nw.toInt ∨ rf.toInt < 0 ∨ ((1 : Int32) <<< (nw &&& 31)).toInt ≤ rf.toInt) ∧ (m 94 7).toInt < 16 ∧ (2 : Int32).toInt = 0 ∧ (m 94 7).toInt = (m 94 7).toInt + 1 ∧ (0 : Int32).toInt = (m 94 7).toInt) from by omega) (show ((m 94 7).toInt = (m 94 7).toInt ∧ (m 97) = (m 97) ∧ (m 98) = (m 98)) ∨ ((m 94 7).toInt = (m 94 7).toInt + 1 ∧ (m 97) = zUp (m 97) (m 94 7).toNatClampNeg nw ∧ (m 98) = zUp (m 98) (m 94 7).toNatClampNeg rf) from by first | (exact Or.inl ⟨rfl, rfl, rfl⟩) | (exfalso; omega; done) | (exfalso; contradiction; done))
          · skip
            have g30 := i_ne h26
            have hg31 : (0 ≤ (m 94 7) ∧ (m 94 7).toNatClampNeg < 16) := i_ix (by omega) (by omega)
            refine ⟨hg31, ?_⟩
            try have sh := i_shl8 (n := nw) (by omega) (by omega)
            have hg32 : (0 ≤ (m 94 7) ∧ (m 94 7).toNatClampNeg < 16) := i_ix (by omega) (by omega)
            refine ⟨hg32, ?_⟩
            have hV33 : zV (ma_u m 94 0 (0 : Int32)) := uf_94_0 hV
            have hV34 : zV (ma_u (ma_u m 94 0 (0 : Int32)) 97 (m 94 7).toNatClampNeg nw) := ua_97 hV33 (by omega) (by omega)
            have hV35 : zV (ma_u (ma_u (ma_u m 94 0 (0 : Int32)) 97 (m 94 7).toNatClampNeg nw) 98 (m 94 7).toNatClampNeg rf) := ua_98 hV34 (by omega) (by omega)
            first | have e37 : ((m 94 7) + (1 : Int32)).toInt = (m 94 7).toInt + (1) := i_addk rfl (by omega) (by omega) | have b38 := i_bd ((m 94 7) + (1 : Int32))
            have hV36 : zV (ma_u (ma_u (ma_u (ma_u m 94 0 (0 : Int32)) 97 (m 94 7).toNatClampNeg nw) 98 (m 94 7).toNatClampNeg rf) 94 7 ((m 94 7) + (1 : Int32))) := us_94_7 hV35 (by omega) (by omega)
            first | have e39 : (((m 94 7) + (1 : Int32)) - (1 : Int32)).toInt = ((m 94 7) + (1 : Int32)).toInt - (1) := i_subk rfl (by omega) (by omega) | have b40 := i_bd (((m 94 7) + (1 : Int32)) - (1 : Int32))
            exact K ((((m 94 7) + (1 : Int32)) - (1 : Int32))) _ (zF_u (zF_u (zF_u (zF_u zF_rfl rfl) rfl) rfl) rfl) hV36 (show zW ((m 94 7) + (1 : Int32)) ((ma_u m 98 (m 94 7).toNatClampNeg rf) 98) (m 101) (m 102) (m 108) from by first | (exact W_same r_W (by omega) (zrf_kind r_W (tn_cast (by omega)) (fun t ht => (ra_101 hV ht).1))) | (exfalso; omega; done) | (exfalso; contradiction; done)) r_GW r_GU r_OW (show zDX (m 94 10) (m 99) (m 112) (m 113) (m 114) (m 94 55) ((ma_u m 98 (m 94 7).toNatClampNeg rf) 98) (m 101) (m 102) (m 108) from by first | (exact DX_same r_DX (zrf_kind r_W (tn_cast (by omega)) (fun t ht => (ra_101 hV ht).1))) | (exfalso; omega; done) | (exfalso; contradiction; done)) r_GG (show zHA (m 94 10) (m 94 11) (m 94 13) (m 94 14) (m 94 16) (m 94 61) (m 94 59) (m 94 60) (m 99) (m 102) (m 103) (m 111) (m 117) ((ma_u m 98 (m 94 7).toNatClampNeg rf) 98) (m 101) (m 108) from by first | (exact HA_same r_HA (zrf_kind r_W (tn_cast (by omega)) (fun t ht => (ra_101 hV ht).1))) | (exfalso; omega; done) | (exfalso; contradiction; done)) r_RGc (show (m 94 58).toInt = 0 ∨ (m 94 10).toInt = 5 from by omega) (show ((nw.toInt < 0 ∨ 8 < nw.toInt ∨ rf.toInt < 0 ∨ ((1 : Int32) <<< (nw &&& 31)).toInt ≤ rf.toInt) ∧ (0 : Int32).toInt = 1 ∧ ((m 94 7) + (1 : Int32)).toInt = (m 94 7).toInt) ∨ (¬ (nw.toInt < 0 ∨ 8 < nw.toInt ∨ rf.toInt < 0 ∨ ((1 : Int32) <<< (nw &&& 31)).toInt ≤ rf.toInt) ∧ (m 94 7).toInt = 16 ∧ (0 : Int32).toInt = 2 ∧ ((m 94 7) + (1 : Int32)).toInt = (m 94 7).toInt) ∨ (¬ (nw.toInt < 0 ∨ 8 < nw.toInt ∨ rf.toInt < 0 ∨ ((1 : Int32) <<< (nw &&& 31)).toInt ≤ rf.toInt) ∧ (m 94 7).toInt < 16 ∧ (0 : Int32).toInt = 0 ∧ ((m 94 7) + (1 : Int32)).toInt = (m 94 7).toInt + 1 ∧ (((m 94 7) + (1 : Int32)) - (1 : Int32)).toInt = (m 94 7).toInt) from by omega) (show (((m 94 7) + (1 : Int32)).toInt = (m 94 7).toInt ∧ ((ma_u m 97 (m 94 7).toNatClampNeg nw) 97) = (m 97) ∧ ((ma_u m 98 (m 94 7).toNatClampNeg rf) 98) = (m 98)) ∨ (((m 94 7) + (1 : Int32)).toInt = (m 94 7).toInt + 1 ∧ ((ma_u m 97 (m 94 7).toNatClampNeg nw) 97) = zUp (m 97) (m 94 7).toNatClampNeg nw ∧ ((ma_u m 98 (m 94 7).toNatClampNeg rf) 98) = zUp (m 98) (m 94 7).toNatClampNeg rf) from by first | (exact Or.inr ⟨by omega, mu_up, mu_up⟩) | (exfalso; omega; done) | (exfalso; contradiction; done))
        · skip
          have g41 := i_nlt h22
          have hV42 : zV (ma_u m 94 0 (1 : Int32)) := uf_94_0 hV
          have li43 : (1 : Int32).toInt = 1 := rfl
          have f44 : 0 ≤ (m 94 7).toInt ∧ (m 94 7).toInt ≤ 16 := rs_94_7 (m := m) hV
          exact K ((0 : Int32)) _ (zF_u zF_rfl rfl) hV42 r_W r_GW r_GU r_OW r_DX r_GG r_HA r_RGc (show (m 94 58).toInt = 0 ∨ (m 94 10).toInt = 5 from by omega) (show ((nw.toInt < 0 ∨ 8 < nw.toInt ∨ rf.toInt < 0 ∨ ((1 : Int32) <<< (nw &&& 31)).toInt ≤ rf.toInt) ∧ (1 : Int32).toInt = 1 ∧ (m 94 7).toInt = (m 94 7).toInt) ∨ (¬ (nw.toInt < 0 ∨ 8 < nw.toInt ∨ rf.toInt < 0 ∨ ((1 : Int32) <<< (nw &&& 31)).toInt ≤ rf.toInt) ∧ (m 94 7).toInt = 16 ∧ (1 : Int32).toInt = 2 ∧ (m 94 7).toInt = (m 94 7).toInt) ∨ (¬ (nw.toInt < 0 ∨ 8 < nw.toInt ∨ rf.toInt < 0 ∨ ((1 : Int32) <<< (nw &&& 31)).toInt ≤ rf.toInt) ∧ (m 94 7).toInt < 16 ∧ (1 : Int32).toInt = 0 ∧ (m 94 7).toInt = (m 94 7).toInt + 1 ∧ (0 : Int32).toInt = (m 94 7).toInt) from by omega) (show ((m 94 7).toInt = (m 94 7).toInt ∧ (m 97) = (m 97) ∧ (m 98) = (m 98)) ∨ ((m 94 7).toInt = (m 94 7).toInt + 1 ∧ (m 97) = zUp (m 97) (m 94 7).toNatClampNeg nw ∧ (m 98) = zUp (m 98) (m 94 7).toNatClampNeg rf) from by first | (exact Or.inl ⟨rfl, rfl, rfl⟩) | (exfalso; omega; done) | (exfalso; contradiction; done))
    · skip
      have g45 := i_nle h12
      have hV46 : zV (ma_u m 94 0 (1 : Int32)) := uf_94_0 hV
      have li47 : (1 : Int32).toInt = 1 := rfl
      have f48 : 0 ≤ (m 94 7).toInt ∧ (m 94 7).toInt ≤ 16 := rs_94_7 (m := m) hV
      exact K ((0 : Int32)) _ (zF_u zF_rfl rfl) hV46 r_W r_GW r_GU r_OW r_DX r_GG r_HA r_RGc (show (m 94 58).toInt = 0 ∨ (m 94 10).toInt = 5 from by omega) (show ((nw.toInt < 0 ∨ 8 < nw.toInt ∨ rf.toInt < 0 ∨ ((1 : Int32) <<< (nw &&& 31)).toInt ≤ rf.toInt) ∧ (1 : Int32).toInt = 1 ∧ (m 94 7).toInt = (m 94 7).toInt) ∨ (¬ (nw.toInt < 0 ∨ 8 < nw.toInt ∨ rf.toInt < 0 ∨ ((1 : Int32) <<< (nw &&& 31)).toInt ≤ rf.toInt) ∧ (m 94 7).toInt = 16 ∧ (1 : Int32).toInt = 2 ∧ (m 94 7).toInt = (m 94 7).toInt) ∨ (¬ (nw.toInt < 0 ∨ 8 < nw.toInt ∨ rf.toInt < 0 ∨ ((1 : Int32) <<< (nw &&& 31)).toInt ≤ rf.toInt) ∧ (m 94 7).toInt < 16 ∧ (1 : Int32).toInt = 0 ∧ (m 94 7).toInt = (m 94 7).toInt + 1 ∧ (0 : Int32).toInt = (m 94 7).toInt) from by omega) (show ((m 94 7).toInt = (m 94 7).toInt ∧ (m 97) = (m 97) ∧ (m 98) = (m 98)) ∨ ((m 94 7).toInt = (m 94 7).toInt + 1 ∧ (m 97) = zUp (m 97) (m 94 7).toNatClampNeg nw ∧ (m 98) = zUp (m 98) (m 94 7).toNatClampNeg rf) from by first | (exact Or.inl ⟨rfl, rfl, rfl⟩) | (exfalso; omega; done) | (exfalso; contradiction; done))
