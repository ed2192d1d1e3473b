/-! from 95.h48 -/
/-! the reference by numbers (written by wip/tools/gen18r.py) -/
theorem sp_170u {X : Nat × (Nat → Int32)} {P : Option ma_V → (Nat → Nat → Int32) → Prop} {T : Nat} {aa : Nat→Nat→Int32} {m : Nat → Nat → Int32} (nw : Int32) (rf : Int32) (hV : zV m) (hpre0 : T ≤ 512) (r_W : zW (m 94 7) (m 98) (m 101) (m 102) (m 108)) (r_GW : zGW T (m 94 55) (m 109)) (r_GU : zGU T (m 94 46) (m 99)) (r_OW : zOw (m 99) (m 103) (m 111)) (r_GG : zGG (m 94 58) (m 94 56) (m 94 57) (m 106)) (hpre6 : (m 94 10).toInt = 5) (r_RB : qRB (m 99) (m 100) (m 98) (m 101) (m 102) (m 103) (m 107) (m 108) (m 109) (m 111) (m 112) (m 113) (m 114) (m 94 55) (m 94 46) (m 94 11) (m 94 12) (m 94 62) (m 94 17) (m 94 9) aa) (r_QI : qI aa) (r_MG : qMG (m 94 58) (m 106) (m 115) (m 94 57) (m 94 56) (m 99) (m 100) aa) (r_MK : aa 87 8 = (m 94 58)) (r_WTS : (m 94 45).toInt = sm (zbU (m 99)) (m 102) 3100) (KZ : ∀ v m₉, zV (zov wr_170 m m₉) → (zW (m₉ 94 7) (m₉ 98) (m 101) (m 102) (m 108)) → (zGW T (m 94 55) (m 109)) → (zGU T (m 94 46) (m 99)) → (zOw (m 99) (m 103) (m 111)) → (zGG (m 94 58) (m 94 56) (m 94 57) (m 106)) → (qRB (m 99) (m 100) (m₉ 98) (m 101) (m 102) (m 103) (m 107) (m 108) (m 109) (m 111) (m 112) (m 113) (m 114) (m 94 55) (m 94 46) (m 94 11) (m 94 12) (m 94 62) (m 94 17) (m 94 9) aa) → (qI aa) → (qMG (m 94 58) (m 106) (m 115) (m 94 57) (m 94 56) (m 99) (m 100) aa) → (aa 87 8 = (m 94 58)) → ((m 94 45).toInt = sm (zbU (m 99)) (m 102) 3100) → (((nw.toInt < 0 ∨ 8 < nw.toInt ∨ rf.toInt < 0 ∨ ((1 : Int32) <<< (nw &&& 31)).toInt ≤ rf.toInt) ∧ (m₉ 94 0).toInt = 1 ∧ (m₉ 94 7).toInt = (m 94 7).toInt) ∨ (¬ (nw.toInt < 0 ∨ 8 < nw.toInt ∨ rf.toInt < 0 ∨ ((1 : Int32) <<< (nw &&& 31)).toInt ≤ rf.toInt) ∧ (m 94 7).toInt = 16 ∧ (m₉ 94 0).toInt = 2 ∧ (m₉ 94 7).toInt = (m 94 7).toInt) ∨ (¬ (nw.toInt < 0 ∨ 8 < nw.toInt ∨ rf.toInt < 0 ∨ ((1 : Int32) <<< (nw &&& 31)).toInt ≤ rf.toInt) ∧ (m 94 7).toInt < 16 ∧ (m₉ 94 0).toInt = 0 ∧ (m₉ 94 7).toInt = (m 94 7).toInt + 1 ∧ v.toInt = (m 94 7).toInt)) → (((m₉ 94 7).toInt = (m 94 7).toInt ∧ (m₉ 97) = (m 97) ∧ (m₉ 98) = (m 98)) ∨ ((m₉ 94 7).toInt = (m 94 7).toInt + 1 ∧ (m₉ 97) = zUp (m 97) (m 94 7).toNatClampNeg nw ∧ (m₉ 98) = zUp (m 98) (m 94 7).toNatClampNeg rf)) → P (some (.inl v)) (zov wr_170 m m₉)) : zm X 1 21 170 0 [(0, .inr (.inr (some 94))), (1, .inl nw), (2, .inl rf)] m P := by
  have K : ∀ v m₉, zF wr_170 m m₉ → zV m₉ → (zW (m₉ 94 7) (m₉ 98) (m₉ 101) (m₉ 102) (m₉ 108)) → (zGW T (m₉ 94 55) (m₉ 109)) → (zGU T (m₉ 94 46) (m₉ 99)) → (zOw (m₉ 99) (m₉ 103) (m₉ 111)) → (zGG (m₉ 94 58) (m₉ 94 56) (m₉ 94 57) (m₉ 106)) → (qRB (m₉ 99) (m₉ 100) (m₉ 98) (m₉ 101) (m₉ 102) (m₉ 103) (m₉ 107) (m₉ 108) (m₉ 109) (m₉ 111) (m₉ 112) (m₉ 113) (m₉ 114) (m₉ 94 55) (m₉ 94 46) (m₉ 94 11) (m₉ 94 12) (m₉ 94 62) (m₉ 94 17) (m₉ 94 9) aa) → (qI aa) → (qMG (m₉ 94 58) (m₉ 106) (m₉ 115) (m₉ 94 57) (m₉ 94 56) (m₉ 99) (m₉ 100) aa) → (aa 87 8 = (m₉ 94 58)) → ((m₉ 94 45).toInt = sm (zbU (m₉ 99)) (m₉ 102) 3100) → (((nw.toInt < 0 ∨ 8 < nw.toInt ∨ rf.toInt < 0 ∨ ((1 : Int32) <<< (nw &&& 31)).toInt ≤ rf.toInt) ∧ (m₉ 94 0).toInt = 1 ∧ (m₉ 94 7).toInt = (m 94 7).toInt) ∨ (¬ (nw.toInt < 0 ∨ 8 < nw.toInt ∨ rf.toInt < 0 ∨ ((1 : Int32) <<< (nw &&& 31)).toInt ≤ rf.toInt) ∧ (m 94 7).toInt = 16 ∧ (m₉ 94 0).toInt = 2 ∧ (m₉ 94 7).toInt = (m 94 7).toInt) ∨ (¬ (nw.toInt < 0 ∨ 8 < nw.toInt ∨ rf.toInt < 0 ∨ ((1 : Int32) <<< (nw &&& 31)).toInt ≤ rf.toInt) ∧ (m 94 7).toInt < 16 ∧ (m₉ 94 0).toInt = 0 ∧ (m₉ 94 7).toInt = (m 94 7).toInt + 1 ∧ v.toInt = (m 94 7).toInt)) → (((m₉ 94 7).toInt = (m 94 7).toInt ∧ (m₉ 97) = (m 97) ∧ (m₉ 98) = (m 98)) ∨ ((m₉ 94 7).toInt = (m 94 7).toInt + 1 ∧ (m₉ 97) = zUp (m 97) (m 94 7).toNatClampNeg nw ∧ (m₉ 98) = zUp (m 98) (m 94 7).toNatClampNeg rf)) → P (some (.inl v)) m₉ := by
    intro v m₉ hf z q0 q1 q2 q3 q4 q5 q6 q7 q8 q9 q10 q11
    have e := zov_eq hf
    rw [e] at z ⊢
    try rw [e] at q0
    try rw [e] at q1
    try rw [e] at q2
    try rw [e] at q3
    try rw [e] at q4
    try rw [e] at q5
    try rw [e] at q6
    try rw [e] at q7
    try rw [e] at q8
    try rw [e] at q9
    try rw [e] at q10
    try rw [e] at q11
    exact KZ v m₉ z q0 q1 q2 q3 q4 q5 q6 q7 q8 q9 q10 q11
  refine g_170_0 nw rf ?_
  have f1 : 0 ≤ (m 94 10).toInt ∧ (m 94 10).toInt ≤ 6 := rs_94_10 (m := m) hV
  have b2 := i_bd nw
  have li3 : (0 : Int32).toInt = 0 := rfl
  refine zd (fun (h4 : nw < (0 : Int32)) => ?_) (fun (h4 : ¬ nw < (0 : Int32)) => ?_)
  · skip
    have g5 := i_lt h4
    have hV6 : zV (ma_u m 94 0 (1 : Int32)) := uf_94_0 hV
    have li7 : (1 : Int32).toInt = 1 := rfl
    have f8 : 0 ≤ (m 94 7).toInt ∧ (m 94 7).toInt ≤ 16 := rs_94_7 (m := m) hV
    exact K ((0 : Int32)) _ (zF_u zF_rfl rfl) hV6 r_W r_GW r_GU r_OW r_GG r_RB r_QI r_MG r_MK r_WTS (show ((nw.toInt < 0 ∨ 8 < nw.toInt ∨ rf.toInt < 0 ∨ ((1 : Int32) <<< (nw &&& 31)).toInt ≤ rf.toInt) ∧ (1 : Int32).toInt = 1 ∧ (m 94 7).toInt = (m 94 7).toInt) ∨ (¬ (nw.toInt < 0 ∨ 8 < nw.toInt ∨ rf.toInt < 0 ∨ ((1 : Int32) <<< (nw &&& 31)).toInt ≤ rf.toInt) ∧ (m 94 7).toInt = 16 ∧ (1 : Int32).toInt = 2 ∧ (m 94 7).toInt = (m 94 7).toInt) ∨ (¬ (nw.toInt < 0 ∨ 8 < nw.toInt ∨ rf.toInt < 0 ∨ ((1 : Int32) <<< (nw &&& 31)).toInt ≤ rf.toInt) ∧ (m 94 7).toInt < 16 ∧ (1 : Int32).toInt = 0 ∧ (m 94 7).toInt = (m 94 7).toInt + 1 ∧ (0 : Int32).toInt = (m 94 7).toInt) from by omega) (show ((m 94 7).toInt = (m 94 7).toInt ∧ (m 97) = (m 97) ∧ (m 98) = (m 98)) ∨ ((m 94 7).toInt = (m 94 7).toInt + 1 ∧ (m 97) = zUp (m 97) (m 94 7).toNatClampNeg nw ∧ (m 98) = zUp (m 98) (m 94 7).toNatClampNeg rf) from by first | (exact Or.inl ⟨rfl, rfl, rfl⟩) | (exfalso; omega; done) | (exfalso; contradiction; done))
  · skip
    have g9 := i_nlt h4
    have li10 : (8 : Int32).toInt = 8 := rfl
    refine zd (fun (h11 : nw ≤ (8 : Int32)) => ?_) (fun (h11 : ¬ nw ≤ (8 : Int32)) => ?_)
    · skip
      have g12 := i_le h11
      have b13 := i_bd rf
      refine zd (fun (h14 : rf < (0 : Int32)) => ?_) (fun (h14 : ¬ rf < (0 : Int32)) => ?_)
      · skip
        have g15 := i_lt h14
        have hV16 : zV (ma_u m 94 0 (1 : Int32)) := uf_94_0 hV
        have li17 : (1 : Int32).toInt = 1 := rfl
        have f18 : 0 ≤ (m 94 7).toInt ∧ (m 94 7).toInt ≤ 16 := rs_94_7 (m := m) hV
        exact K ((0 : Int32)) _ (zF_u zF_rfl rfl) hV16 r_W r_GW r_GU r_OW r_GG r_RB r_QI r_MG r_MK r_WTS (show ((nw.toInt < 0 ∨ 8 < nw.toInt ∨ rf.toInt < 0 ∨ ((1 : Int32) <<< (nw &&& 31)).toInt ≤ rf.toInt) ∧ (1 : Int32).toInt = 1 ∧ (m 94 7).toInt = (m 94 7).toInt) ∨ (¬ (nw.toInt < 0 ∨ 8 < nw.toInt ∨ rf.toInt < 0 ∨ ((1 : Int32) <<< (nw &&& 31)).toInt ≤ rf.toInt) ∧ (m 94 7).toInt = 16 ∧ (1 : Int32).toInt = 2 ∧ (m 94 7).toInt = (m 94 7).toInt) ∨ (¬ (nw.toInt < 0 ∨ 8 < nw.toInt ∨ rf.toInt < 0 ∨ ((1 : Int32) <<< (nw &&& 31)).toInt ≤ rf.toInt) ∧ (m 94 7).toInt < 16 ∧ (1 : Int32).toInt = 0 ∧ (m 94 7).toInt = (m 94 7).toInt + 1 ∧ (0 : Int32).toInt = (m 94 7).toInt) from by omega) (show ((m 94 7).toInt = (m 94 7).toInt ∧ (m 97) = (m 97) ∧ (m 98) = (m 98)) ∨ ((m 94 7).toInt = (m 94 7).toInt + 1 ∧ (m 97) = zUp (m 97) (m 94 7).toNatClampNeg nw ∧ (m 98) = zUp (m 98) (m 94 7).toNatClampNeg rf) from by first | (exact Or.inl ⟨rfl, rfl, rfl⟩) | (exfalso; omega; done) | (exfalso; contradiction; done))
      · skip
        have g19 := i_nlt h14
        have b20 := i_bd ((1 : Int32) <<< (nw &&& 31))
        refine zd (fun (h21 : rf < ((1 : Int32) <<< (nw &&& 31))) => ?_) (fun (h21 : ¬ rf < ((1 : Int32) <<< (nw &&& 31))) => ?_)
        · skip
          have g22 := i_lt h21
          have f23 : 0 ≤ (m 94 7).toInt ∧ (m 94 7).toInt ≤ 16 := rs_94_7 (m := m) hV
          have li24 : (16 : Int32).toInt = 16 := rfl
          refine zd (fun (h25 : (m 94 7) = (16 : Int32)) => ?_) (fun (h25 : ¬ (m 94 7) = (16 : Int32)) => ?_)
          · skip
            have g26 := i_eq h25
            have hV27 : zV (ma_u m 94 0 (2 : Int32)) := uf_94_0 hV
            have li28 : (2 : Int32).toInt = 2 := rfl
            exact K ((0 : Int32)) _ (zF_u zF_rfl rfl) hV27 r_W r_GW r_GU r_OW r_GG r_RB r_QI r_MG r_MK r_WTS (show ((nw.toInt < 0 ∨ 8 < nw.toInt ∨ rf.toInt < 0 ∨ ((1 : Int32) <<< (nw &&& 31)).toInt ≤ rf.toInt) ∧ (2 : Int32).toInt = 1 ∧ (m 94 7).toInt = (m 94 7).toInt) ∨ (¬ (nw.toInt < 0 ∨ 8 < nw.toInt ∨ rf.toInt < 0 ∨ ((1 : Int32) <<< (nw &&& 31)).toInt ≤ rf.toInt) ∧ (m 94 7).toInt = 16 ∧ (2 : Int32).toInt = 2 ∧ (m 94 7).toInt = (m 94 7).toInt) ∨ (¬ (nw.toInt < 0 ∨ 8 < nw.toInt ∨ rf.toInt < 0 ∨ ((1 : Int32) <<< (nw &&& 31)).toInt ≤ rf.toInt) ∧ (m 94 7).toInt < 16 ∧ (2 : Int32).toInt = 0 ∧ (m 94 7).toInt = (m 94 7).toInt + 1 ∧ (0 : Int32).toInt = (m 94 7).toInt) from by omega) (show ((m 94 7).toInt = (m 94 7).toInt ∧ (m 97) = (m 97) ∧ (m 98) = (m 98)) ∨ ((m 94 7).toInt = (m 94 7).toInt + 1 ∧ (m 97) = zUp (m 97) (m 94 7).toNatClampNeg nw ∧ (m 98) = zUp (m 98) (m 94 7).toNatClampNeg rf) from by first | (exact Or.inl ⟨rfl, rfl, rfl⟩) | (exfalso; omega; done) | (exfalso; contradiction; done))
          · skip
            have g29 := i_ne h25
            have hg30 : (0 ≤ (m 94 7) ∧ (m 94 7).toNatClampNeg < 16) := i_ix (by omega) (by omega)
            refine ⟨hg30, ?_⟩
            try have sh := i_shl8 (n := nw) (by omega) (by omega)
            have hg31 : (0 ≤ (m 94 7) ∧ (m 94 7).toNatClampNeg < 16) := i_ix (by omega) (by omega)
            refine ⟨hg31, ?_⟩
            have hV32 : zV (ma_u m 94 0 (0 : Int32)) := uf_94_0 hV
            have hV33 : zV (ma_u (ma_u m 94 0 (0 : Int32)) 97 (m 94 7).toNatClampNeg nw) := ua_97 hV32 (by omega) (by omega)
            have hV34 : zV (ma_u (ma_u (ma_u m 94 0 (0 : Int32)) 97 (m 94 7).toNatClampNeg nw) 98 (m 94 7).toNatClampNeg rf) := ua_98 hV33 (by omega) (by omega)
            first | have e36 : ((m 94 7) + (1 : Int32)).toInt = (m 94 7).toInt + (1) := i_addk rfl (by omega) (by omega) | have b37 := i_bd ((m 94 7) + (1 : Int32))
            have hV35 : zV (ma_u (ma_u (ma_u (ma_u m 94 0 (0 : Int32)) 97 (m 94 7).toNatClampNeg nw) 98 (m 94 7).toNatClampNeg rf) 94 7 ((m 94 7) + (1 : Int32))) := us_94_7 hV34 (by omega) (by omega)
            first | have e38 : (((m 94 7) + (1 : Int32)) - (1 : Int32)).toInt = ((m 94 7) + (1 : Int32)).toInt - (1) := i_subk rfl (by omega) (by omega) | have b39 := i_bd (((m 94 7) + (1 : Int32)) - (1 : Int32))
            exact K ((((m 94 7) + (1 : Int32)) - (1 : Int32))) _ (zF_u (zF_u (zF_u (zF_u zF_rfl rfl) rfl) rfl) rfl) hV35 (show zW ((m 94 7) + (1 : Int32)) ((ma_u m 98 (m 94 7).toNatClampNeg rf) 98) (m 101) (m 102) (m 108) from by first | (exact W_same r_W (by omega) (zrf_kind r_W (tn_cast (by omega)) (fun t ht => (ra_101 hV ht).1))) | (exfalso; omega; done) | (exfalso; contradiction; done)) r_GW r_GU r_OW r_GG (show qRB (m 99) (m 100) ((ma_u m 98 (m 94 7).toNatClampNeg rf) 98) (m 101) (m 102) (m 103) (m 107) (m 108) (m 109) (m 111) (m 112) (m 113) (m 114) (m 94 55) (m 94 46) (m 94 11) (m 94 12) (m 94 62) (m 94 17) (m 94 9) aa from by first | (exact RB_kd r_RB r_W (tn_cast (by omega)) (fun t ht => (ra_101 hV ht).1)) | (exfalso; omega; done) | (exfalso; contradiction; done)) r_QI r_MG r_MK r_WTS (show ((nw.toInt < 0 ∨ 8 < nw.toInt ∨ rf.toInt < 0 ∨ ((1 : Int32) <<< (nw &&& 31)).toInt ≤ rf.toInt) ∧ (0 : Int32).toInt = 1 ∧ ((m 94 7) + (1 : Int32)).toInt = (m 94 7).toInt) ∨ (¬ (nw.toInt < 0 ∨ 8 < nw.toInt ∨ rf.toInt < 0 ∨ ((1 : Int32) <<< (nw &&& 31)).toInt ≤ rf.toInt) ∧ (m 94 7).toInt = 16 ∧ (0 : Int32).toInt = 2 ∧ ((m 94 7) + (1 : Int32)).toInt = (m 94 7).toInt) ∨ (¬ (nw.toInt < 0 ∨ 8 < nw.toInt ∨ rf.toInt < 0 ∨ ((1 : Int32) <<< (nw &&& 31)).toInt ≤ rf.toInt) ∧ (m 94 7).toInt < 16 ∧ (0 : Int32).toInt = 0 ∧ ((m 94 7) + (1 : Int32)).toInt = (m 94 7).toInt + 1 ∧ (((m 94 7) + (1 : Int32)) - (1 : Int32)).toInt = (m 94 7).toInt) from by omega) (show (((m 94 7) + (1 : Int32)).toInt = (m 94 7).toInt ∧ ((ma_u m 97 (m 94 7).toNatClampNeg nw) 97) = (m 97) ∧ ((ma_u m 98 (m 94 7).toNatClampNeg rf) 98) = (m 98)) ∨ (((m 94 7) + (1 : Int32)).toInt = (m 94 7).toInt + 1 ∧ ((ma_u m 97 (m 94 7).toNatClampNeg nw) 97) = zUp (m 97) (m 94 7).toNatClampNeg nw ∧ ((ma_u m 98 (m 94 7).toNatClampNeg rf) 98) = zUp (m 98) (m 94 7).toNatClampNeg rf) from by first | (exact Or.inr ⟨by omega, mu_up, mu_up⟩) | (exfalso; omega; done) | (exfalso; contradiction; done))
        · skip
          have g40 := i_nlt h21
          have hV41 : zV (ma_u m 94 0 (1 : Int32)) := uf_94_0 hV
          have li42 : (1 : Int32).toInt = 1 := rfl
          have f43 : 0 ≤ (m 94 7).toInt ∧ (m 94 7).toInt ≤ 16 := rs_94_7 (m := m) hV
          exact K ((0 : Int32)) _ (zF_u zF_rfl rfl) hV41 r_W r_GW r_GU r_OW r_GG r_RB r_QI r_MG r_MK r_WTS (show ((nw.toInt < 0 ∨ 8 < nw.toInt ∨ rf.toInt < 0 ∨ ((1 : Int32) <<< (nw &&& 31)).toInt ≤ rf.toInt) ∧ (1 : Int32).toInt = 1 ∧ (m 94 7).toInt = (m 94 7).toInt) ∨ (¬ (nw.toInt < 0 ∨ 8 < nw.toInt ∨ rf.toInt < 0 ∨ ((1 : Int32) <<< (nw &&& 31)).toInt ≤ rf.toInt) ∧ (m 94 7).toInt = 16 ∧ (1 : Int32).toInt = 2 ∧ (m 94 7).toInt = (m 94 7).toInt) ∨ (¬ (nw.toInt < 0 ∨ 8 < nw.toInt ∨ rf.toInt < 0 ∨ ((1 : Int32) <<< (nw &&& 31)).toInt ≤ rf.toInt) ∧ (m 94 7).toInt < 16 ∧ (1 : Int32).toInt = 0 ∧ (m 94 7).toInt = (m 94 7).toInt + 1 ∧ (0 : Int32).toInt = (m 94 7).toInt) from by omega) (show ((m 94 7).toInt = (m 94 7).toInt ∧ (m 97) = (m 97) ∧ (m 98) = (m 98)) ∨ ((m 94 7).toInt = (m 94 7).toInt + 1 ∧ (m 97) = zUp (m 97) (m 94 7).toNatClampNeg nw ∧ (m 98) = zUp (m 98) (m 94 7).toNatClampNeg rf) from by first | (exact Or.inl ⟨rfl, rfl, rfl⟩) | (exfalso; omega; done) | (exfalso; contradiction; done))
    · skip
      have g44 := i_nle h11
      have hV45 : zV (ma_u m 94 0 (1 : Int32)) := uf_94_0 hV
      have li46 : (1 : Int32).toInt = 1 := rfl
      have f47 : 0 ≤ (m 94 7).toInt ∧ (m 94 7).toInt ≤ 16 := rs_94_7 (m := m) hV
      exact K ((0 : Int32)) _ (zF_u zF_rfl rfl) hV45 r_W r_GW r_GU r_OW r_GG r_RB r_QI r_MG r_MK r_WTS (show ((nw.toInt < 0 ∨ 8 < nw.toInt ∨ rf.toInt < 0 ∨ ((1 : Int32) <<< (nw &&& 31)).toInt ≤ rf.toInt) ∧ (1 : Int32).toInt = 1 ∧ (m 94 7).toInt = (m 94 7).toInt) ∨ (¬ (nw.toInt < 0 ∨ 8 < nw.toInt ∨ rf.toInt < 0 ∨ ((1 : Int32) <<< (nw &&& 31)).toInt ≤ rf.toInt) ∧ (m 94 7).toInt = 16 ∧ (1 : Int32).toInt = 2 ∧ (m 94 7).toInt = (m 94 7).toInt) ∨ (¬ (nw.toInt < 0 ∨ 8 < nw.toInt ∨ rf.toInt < 0 ∨ ((1 : Int32) <<< (nw &&& 31)).toInt ≤ rf.toInt) ∧ (m 94 7).toInt < 16 ∧ (1 : Int32).toInt = 0 ∧ (m 94 7).toInt = (m 94 7).toInt + 1 ∧ (0 : Int32).toInt = (m 94 7).toInt) from by omega) (show ((m 94 7).toInt = (m 94 7).toInt ∧ (m 97) = (m 97) ∧ (m 98) = (m 98)) ∨ ((m 94 7).toInt = (m 94 7).toInt + 1 ∧ (m 97) = zUp (m 97) (m 94 7).toNatClampNeg nw ∧ (m 98) = zUp (m 98) (m 94 7).toNatClampNeg rf) from by first | (exact Or.inl ⟨rfl, rfl, rfl⟩) | (exfalso; omega; done) | (exfalso; contradiction; done))
theorem sp_170w {X : Nat × (Nat → Int32)} {P : Option ma_V → (Nat → Nat → Int32) → Prop} {T : Nat} {m : Nat → Nat → Int32} (nw : Int32) (rf : Int32) (hV : zV m) (r_W : zW (m 94 7) (m 98) (m 101) (m 102) (m 108)) (r_GW : zGW T (m 94 55) (m 109)) (r_GU : zGU T (m 94 46) (m 99)) (r_OW : zOw (m 99) (m 103) (m 111)) (r_DX : zDX (m 94 10) (m 99) (m 112) (m 113) (m 114) (m 94 55) (m 98) (m 101) (m 102) (m 108)) (r_GG : zGG (m 94 58) (m 94 56) (m 94 57) (m 106)) (r_HA : zHA (m 94 10) (m 94 11) (m 94 13) (m 94 14) (m 94 16) (m 94 61) (m 94 59) (m 94 60) (m 99) (m 102) (m 103) (m 111) (m 117) (m 98) (m 101) (m 108)) (r_RGc : zRG (m 94 10) (m 94 18) (m 94 64) (m 94 63) (m 99) (m 103) (m 102) (m 116)) (hpre8 : (m 94 58).toInt = 0 ∨ (m 94 10).toInt = 5) (KZ : ∀ v m₉, zV (zov wr_170 m m₉) → (zW (m₉ 94 7) (m₉ 98) (m 101) (m 102) (m 108)) → (zGW T (m 94 55) (m 109)) → (zGU T (m 94 46) (m 99)) → (zOw (m 99) (m 103) (m 111)) → (zDX (m 94 10) (m 99) (m 112) (m 113) (m 114) (m 94 55) (m₉ 98) (m 101) (m 102) (m 108)) → (zGG (m 94 58) (m 94 56) (m 94 57) (m 106)) → (zHA (m 94 10) (m 94 11) (m 94 13) (m 94 14) (m 94 16) (m 94 61) (m 94 59) (m 94 60) (m 99) (m 102) (m 103) (m 111) (m 117) (m₉ 98) (m 101) (m 108)) → (zRG (m 94 10) (m 94 18) (m 94 64) (m 94 63) (m 99) (m 103) (m 102) (m 116)) → ((m 94 58).toInt = 0 ∨ (m 94 10).toInt = 5) → (((nw.toInt < 0 ∨ 8 < nw.toInt ∨ rf.toInt < 0 ∨ ((1 : Int32) <<< (nw &&& 31)).toInt ≤ rf.toInt) ∧ (m₉ 94 0).toInt = 1 ∧ (m₉ 94 7).toInt = (m 94 7).toInt) ∨ (¬ (nw.toInt < 0 ∨ 8 < nw.toInt ∨ rf.toInt < 0 ∨ ((1 : Int32) <<< (nw &&& 31)).toInt ≤ rf.toInt) ∧ (m 94 7).toInt = 16 ∧ (m₉ 94 0).toInt = 2 ∧ (m₉ 94 7).toInt = (m 94 7).toInt) ∨ (¬ (nw.toInt < 0 ∨ 8 < nw.toInt ∨ rf.toInt < 0 ∨ ((1 : Int32) <<< (nw &&& 31)).toInt ≤ rf.toInt) ∧ (m 94 7).toInt < 16 ∧ (m₉ 94 0).toInt = 0 ∧ (m₉ 94 7).toInt = (m 94 7).toInt + 1 ∧ v.toInt = (m 94 7).toInt)) → (((m₉ 94 7).toInt = (m 94 7).toInt ∧ (m₉ 97) = (m 97) ∧ (m₉ 98) = (m 98)) ∨ ((m₉ 94 7).toInt = (m 94 7).toInt + 1 ∧ (m₉ 97) = zUp (m 97) (m 94 7).toNatClampNeg nw ∧ (m₉ 98) = zUp (m 98) (m 94 7).toNatClampNeg rf)) → P (some (.inl v)) (zov wr_170 m m₉)) : zm X 1 21 170 0 [(0, .inr (.inr (some 94))), (1, .inl nw), (2, .inl rf)] m P := by
  have K : ∀ v m₉, zF wr_170 m m₉ → zV m₉ → (zW (m₉ 94 7) (m₉ 98) (m₉ 101) (m₉ 102) (m₉ 108)) → (zGW T (m₉ 94 55) (m₉ 109)) → (zGU T (m₉ 94 46) (m₉ 99)) → (zOw (m₉ 99) (m₉ 103) (m₉ 111)) → (zDX (m₉ 94 10) (m₉ 99) (m₉ 112) (m₉ 113) (m₉ 114) (m₉ 94 55) (m₉ 98) (m₉ 101) (m₉ 102) (m₉ 108)) → (zGG (m₉ 94 58) (m₉ 94 56) (m₉ 94 57) (m₉ 106)) → (zHA (m₉ 94 10) (m₉ 94 11) (m₉ 94 13) (m₉ 94 14) (m₉ 94 16) (m₉ 94 61) (m₉ 94 59) (m₉ 94 60) (m₉ 99) (m₉ 102) (m₉ 103) (m₉ 111) (m₉ 117) (m₉ 98) (m₉ 101) (m₉ 108)) → (zRG (m₉ 94 10) (m₉ 94 18) (m₉ 94 64) (m₉ 94 63) (m₉ 99) (m₉ 103) (m₉ 102) (m₉ 116)) → ((m₉ 94 58).toInt = 0 ∨ (m₉ 94 10).toInt = 5) → (((nw.toInt < 0 ∨ 8 < nw.toInt ∨ rf.toInt < 0 ∨ ((1 : Int32) <<< (nw &&& 31)).toInt ≤ rf.toInt) ∧ (m₉ 94 0).toInt = 1 ∧ (m₉ 94 7).toInt = (m 94 7).toInt) ∨ (¬ (nw.toInt < 0 ∨ 8 < nw.toInt ∨ rf.toInt < 0 ∨ ((1 : Int32) <<< (nw &&& 31)).toInt ≤ rf.toInt) ∧ (m 94 7).toInt = 16 ∧ (m₉ 94 0).toInt = 2 ∧ (m₉ 94 7).toInt = (m 94 7).toInt) ∨ (¬ (nw.toInt < 0 ∨ 8 < nw.toInt ∨ rf.toInt < 0 ∨ ((1 : Int32) <<< (nw &&& 31)).toInt ≤ rf.toInt) ∧ (m 94 7).toInt < 16 ∧ (m₉ 94 0).toInt = 0 ∧ (m₉ 94 7).toInt = (m 94 7).toInt + 1 ∧ v.toInt = (m 94 7).toInt)) → (((m₉ 94 7).toInt = (m 94 7).toInt ∧ (m₉ 97) = (m 97) ∧ (m₉ 98) = (m 98)) ∨ ((m₉ 94 7).toInt = (m 94 7).toInt + 1 ∧ (m₉ 97) = zUp (m 97) (m 94 7).toNatClampNeg nw ∧ (m₉ 98) = zUp (m 98) (m 94 7).toNatClampNeg rf)) → P (some (.inl v)) m₉ := by
    intro v m₉ hf z q0 q1 q2 q3 q4 q5 q6 q7 q8 q9 q10
    have e := zov_eq hf
    rw [e] at z ⊢
    try rw [e] at q0
    try rw [e] at q1
    try rw [e] at q2
    try rw [e] at q3
    try rw [e] at q4
    try rw [e] at q5
    try rw [e] at q6
    try rw [e] at q7
    try rw [e] at q8
    try rw [e] at q9
    try rw [e] at q10
    exact KZ v m₉ z q0 q1 q2 q3 q4 q5 q6 q7 q8 q9 q10
  refine g_170_0 nw rf ?_
  have f1 : 0 ≤ (m 94 58).toInt ∧ (m 94 58).toInt ≤ 1 := rs_94_58 (m := m) hV
  have f2 : 0 ≤ (m 94 10).toInt ∧ (m 94 10).toInt ≤ 6 := rs_94_10 (m := m) hV
  have b3 := i_bd nw
  have li4 : (0 : Int32).toInt = 0 := rfl
  refine zd (fun (h5 : nw < (0 : Int32)) => ?_) (fun (h5 : ¬ nw < (0 : Int32)) => ?_)
  · skip
    have g6 := i_lt h5
    have hV7 : zV (ma_u m 94 0 (1 : Int32)) := uf_94_0 hV
    have li8 : (1 : Int32).toInt = 1 := rfl
    have f9 : 0 ≤ (m 94 7).toInt ∧ (m 94 7).toInt ≤ 16 := rs_94_7 (m := m) hV
    exact K ((0 : Int32)) _ (zF_u zF_rfl rfl) hV7 r_W r_GW r_GU r_OW r_DX r_GG r_HA r_RGc (show (m 94 58).toInt = 0 ∨ (m 94 10).toInt = 5 from by omega) (show ((nw.toInt < 0 ∨ 8 < nw.toInt ∨ rf.toInt < 0 ∨ ((1 : Int32) <<< (nw &&& 31)).toInt ≤ rf.toInt) ∧ (1 : Int32).toInt = 1 ∧ (m 94 7).toInt = (m 94 7).toInt) ∨ (¬ (nw.toInt < 0 ∨ 8 < nw.toInt ∨ rf.toInt < 0 ∨ ((1 : Int32) <<< (nw &&& 31)).toInt ≤ rf.toInt) ∧ (m 94 7).toInt = 16 ∧ (1 : Int32).toInt = 2 ∧ (m 94 7).toInt = (m 94 7).toInt) ∨ (¬ (nw.toInt < 0 ∨ 8 < nw.toInt ∨ rf.toInt < 0 ∨ ((1 : Int32) <<< (nw &&& 31)).toInt ≤ rf.toInt) ∧ (m 94 7).toInt < 16 ∧ (1 : Int32).toInt = 0 ∧ (m 94 7).toInt = (m 94 7).toInt + 1 ∧ (0 : Int32).toInt = (m 94 7).toInt) from by omega) (show ((m 94 7).toInt = (m 94 7).toInt ∧ (m 97) = (m 97) ∧ (m 98) = (m 98)) ∨ ((m 94 7).toInt = (m 94 7).toInt + 1 ∧ (m 97) = zUp (m 97) (m 94 7).toNatClampNeg nw ∧ (m 98) = zUp (m 98) (m 94 7).toNatClampNeg rf) from by first | (exact Or.inl ⟨rfl, rfl, rfl⟩) | (exfalso; omega; done) | (exfalso; contradiction; done))
  · skip
    have g10 := i_nlt h5
    have li11 : (8 : Int32).toInt = 8 := rfl
    refine zd (fun (h12 : nw ≤ (8 : Int32)) => ?_) (fun (h12 : ¬ nw ≤ (8 : Int32)) => ?_)
    · skip
      have g13 := i_le h12
      have b14 := i_bd rf
      refine zd (fun (h15 : rf < (0 : Int32)) => ?_) (fun (h15 : ¬ rf < (0 : Int32)) => ?_)
      · skip
        have g16 := i_lt h15
        have hV17 : zV (ma_u m 94 0 (1 : Int32)) := uf_94_0 hV
        have li18 : (1 : Int32).toInt = 1 := rfl
        have f19 : 0 ≤ (m 94 7).toInt ∧ (m 94 7).toInt ≤ 16 := rs_94_7 (m := m) hV
        exact K ((0 : Int32)) _ (zF_u zF_rfl rfl) hV17 r_W r_GW r_GU r_OW r_DX r_GG r_HA r_RGc (show (m 94 58).toInt = 0 ∨ (m 94 10).toInt = 5 from by omega) (show ((nw.toInt < 0 ∨ 8 < nw.toInt ∨ rf.toInt < 0 ∨ ((1 : Int32) <<< (nw &&& 31)).toInt ≤ rf.toInt) ∧ (1 : Int32).toInt = 1 ∧ (m 94 7).toInt = (m 94 7).toInt) ∨ (¬ (nw.toInt < 0 ∨ 8 < nw.toInt ∨ rf.toInt < 0 ∨ ((1 : Int32) <<< (nw &&& 31)).toInt ≤ rf.toInt) ∧ (m 94 7).toInt = 16 ∧ (1 : Int32).toInt = 2 ∧ (m 94 7).toInt = (m 94 7).toInt) ∨ (¬ (nw.toInt < 0 ∨ 8 < nw.toInt ∨ rf.toInt < 0 ∨ ((1 : Int32) <<< (nw &&& 31)).toInt ≤ rf.toInt) ∧ (m 94 7).toInt < 16 ∧ (1 : Int32).toInt = 0 ∧ (m 94 7).toInt = (m 94 7).toInt + 1 ∧ (0 : Int32).toInt = (m 94 7).toInt) from by omega) (show ((m 94 7).toInt = (m 94 7).toInt ∧ (m 97) = (m 97) ∧ (m 98) = (m 98)) ∨ ((m 94 7).toInt = (m 94 7).toInt + 1 ∧ (m 97) = zUp (m 97) (m 94 7).toNatClampNeg nw ∧ (m 98) = zUp (m 98) (m 94 7).toNatClampNeg rf) from by first | (exact Or.inl ⟨rfl, rfl, rfl⟩) | (exfalso; omega; done) | (exfalso; contradiction; done))
      · skip
        have g20 := i_nlt h15
        have b21 := i_bd ((1 : Int32) <<< (nw &&& 31))
        refine zd (fun (h22 : rf < ((1 : Int32) <<< (nw &&& 31))) => ?_) (fun (h22 : ¬ rf < ((1 : Int32) <<< (nw &&& 31))) => ?_)
        · skip
          have g23 := i_lt h22
          have f24 : 0 ≤ (m 94 7).toInt ∧ (m 94 7).toInt ≤ 16 := rs_94_7 (m := m) hV
          have li25 : (16 : Int32).toInt = 16 := rfl
          refine zd (fun (h26 : (m 94 7) = (16 : Int32)) => ?_) (fun (h26 : ¬ (m 94 7) = (16 : Int32)) => ?_)
          · skip
            have g27 := i_eq h26
            have hV28 : zV (ma_u m 94 0 (2 : Int32)) := uf_94_0 hV
            have li29 : (2 : Int32).toInt = 2 := rfl
            exact K ((0 : Int32)) _ (zF_u zF_rfl rfl) hV28 r_W r_GW r_GU r_OW r_DX r_GG r_HA r_RGc (show (m 94 58).toInt = 0 ∨ (m 94 10).toInt = 5 from by omega) (show ((nw.toInt < 0 ∨ 8 < nw.toInt ∨ rf.toInt < 0 ∨ ((1 : Int32) <<< (nw &&& 31)).toInt ≤ rf.toInt) ∧ (2 : Int32).toInt = 1 ∧ (m 94 7).toInt = (m 94 7).toInt) ∨ (¬ (nw.toInt < 0 ∨ 8 < nw.toInt ∨ rf.toInt < 0 ∨ ((1 : Int32) <<< (nw &&& 31)).toInt ≤ rf.toInt) ∧ (m 94 7).toInt = 16 ∧ (2 : Int32).toInt = 2 ∧ (m 94 7).toInt = (m 94 7).toInt) ∨ (¬ (nw.toInt < 0 ∨ 8 < nw.toInt ∨ rf.toInt < 0 ∨ ((1 : Int32) <<< (nw &&& 31)).toInt ≤ rf.toInt) ∧ (m 94 7).toInt < 16 ∧ (2 : Int32).toInt = 0 ∧ (m 94 7).toInt = (m 94 7).toInt + 1 ∧ (0 : Int32).toInt = (m 94 7).toInt) from by omega) (show ((m 94 7).toInt = (m 94 7).toInt ∧ (m 97) = (m 97) ∧ (m 98) = (m 98)) ∨ ((m 94 7).toInt = (m 94 7).toInt + 1 ∧ (m 97) = zUp (m 97) (m 94 7).toNatClampNeg nw ∧ (m 98) = zUp (m 98) (m 94 7).toNatClampNeg rf) from by first | (exact Or.inl ⟨rfl, rfl, rfl⟩) | (exfalso; omega; done) | (exfalso; contradiction; done))
          · skip
            have g30 := i_ne h26
            have hg31 : (0 ≤ (m 94 7) ∧ (m 94 7).toNatClampNeg < 16) := i_ix (by omega) (by omega)
            refine ⟨hg31, ?_⟩
            try have sh := i_shl8 (n := nw) (by omega) (by omega)
            have hg32 : (0 ≤ (m 94 7) ∧ (m 94 7).toNatClampNeg < 16) := i_ix (by omega) (by omega)
            refine ⟨hg32, ?_⟩
            have hV33 : zV (ma_u m 94 0 (0 : Int32)) := uf_94_0 hV
            have hV34 : zV (ma_u (ma_u m 94 0 (0 : Int32)) 97 (m 94 7).toNatClampNeg nw) := ua_97 hV33 (by omega) (by omega)
            have hV35 : zV (ma_u (ma_u (ma_u m 94 0 (0 : Int32)) 97 (m 94 7).toNatClampNeg nw) 98 (m 94 7).toNatClampNeg rf) := ua_98 hV34 (by omega) (by omega)
            first | have e37 : ((m 94 7) + (1 : Int32)).toInt = (m 94 7).toInt + (1) := i_addk rfl (by omega) (by omega) | have b38 := i_bd ((m 94 7) + (1 : Int32))
            have hV36 : zV (ma_u (ma_u (ma_u (ma_u m 94 0 (0 : Int32)) 97 (m 94 7).toNatClampNeg nw) 98 (m 94 7).toNatClampNeg rf) 94 7 ((m 94 7) + (1 : Int32))) := us_94_7 hV35 (by omega) (by omega)
            first | have e39 : (((m 94 7) + (1 : Int32)) - (1 : Int32)).toInt = ((m 94 7) + (1 : Int32)).toInt - (1) := i_subk rfl (by omega) (by omega) | have b40 := i_bd (((m 94 7) + (1 : Int32)) - (1 : Int32))
            exact K ((((m 94 7) + (1 : Int32)) - (1 : Int32))) _ (zF_u (zF_u (zF_u (zF_u zF_rfl rfl) rfl) rfl) rfl) hV36 (show zW ((m 94 7) + (1 : Int32)) ((ma_u m 98 (m 94 7).toNatClampNeg rf) 98) (m 101) (m 102) (m 108) from by first | (exact W_same r_W (by omega) (zrf_kind r_W (tn_cast (by omega)) (fun t ht => (ra_101 hV ht).1))) | (exfalso; omega; done) | (exfalso; contradiction; done)) r_GW r_GU r_OW (show zDX (m 94 10) (m 99) (m 112) (m 113) (m 114) (m 94 55) ((ma_u m 98 (m 94 7).toNatClampNeg rf) 98) (m 101) (m 102) (m 108) from by first | (exact DX_same r_DX (zrf_kind r_W (tn_cast (by omega)) (fun t ht => (ra_101 hV ht).1))) | (exfalso; omega; done) | (exfalso; contradiction; done)) r_GG (show zHA (m 94 10) (m 94 11) (m 94 13) (m 94 14) (m 94 16) (m 94 61) (m 94 59) (m 94 60) (m 99) (m 102) (m 103) (m 111) (m 117) ((ma_u m 98 (m 94 7).toNatClampNeg rf) 98) (m 101) (m 108) from by first | (exact HA_same r_HA (zrf_kind r_W (tn_cast (by omega)) (fun t ht => (ra_101 hV ht).1))) | (exfalso; omega; done) | (exfalso; contradiction; done)) r_RGc (show (m 94 58).toInt = 0 ∨ (m 94 10).toInt = 5 from by omega) (show ((nw.toInt < 0 ∨ 8 < nw.toInt ∨ rf.toInt < 0 ∨ ((1 : Int32) <<< (nw &&& 31)).toInt ≤ rf.toInt) ∧ (0 : Int32).toInt = 1 ∧ ((m 94 7) + (1 : Int32)).toInt = (m 94 7).toInt) ∨ (¬ (nw.toInt < 0 ∨ 8 < nw.toInt ∨ rf.toInt < 0 ∨ ((1 : Int32) <<< (nw &&& 31)).toInt ≤ rf.toInt) ∧ (m 94 7).toInt = 16 ∧ (0 : Int32).toInt = 2 ∧ ((m 94 7) + (1 : Int32)).toInt = (m 94 7).toInt) ∨ (¬ (nw.toInt < 0 ∨ 8 < nw.toInt ∨ rf.toInt < 0 ∨ ((1 : Int32) <<< (nw &&& 31)).toInt ≤ rf.toInt) ∧ (m 94 7).toInt < 16 ∧ (0 : Int32).toInt = 0 ∧ ((m 94 7) + (1 : Int32)).toInt = (m 94 7).toInt + 1 ∧ (((m 94 7) + (1 : Int32)) - (1 : Int32)).toInt = (m 94 7).toInt) from by omega) (show (((m 94 7) + (1 : Int32)).toInt = (m 94 7).toInt ∧ ((ma_u m 97 (m 94 7).toNatClampNeg nw) 97) = (m 97) ∧ ((ma_u m 98 (m 94 7).toNatClampNeg rf) 98) = (m 98)) ∨ (((m 94 7) + (1 : Int32)).toInt = (m 94 7).toInt + 1 ∧ ((ma_u m 97 (m 94 7).toNatClampNeg nw) 97) = zUp (m 97) (m 94 7).toNatClampNeg nw ∧ ((ma_u m 98 (m 94 7).toNatClampNeg rf) 98) = zUp (m 98) (m 94 7).toNatClampNeg rf) from by first | (exact Or.inr ⟨by omega, mu_up, mu_up⟩) | (exfalso; omega; done) | (exfalso; contradiction; done))
        · skip
          have g41 := i_nlt h22
          have hV42 : zV (ma_u m 94 0 (1 : Int32)) := uf_94_0 hV
          have li43 : (1 : Int32).toInt = 1 := rfl
          have f44 : 0 ≤ (m 94 7).toInt ∧ (m 94 7).toInt ≤ 16 := rs_94_7 (m := m) hV
          exact K ((0 : Int32)) _ (zF_u zF_rfl rfl) hV42 r_W r_GW r_GU r_OW r_DX r_GG r_HA r_RGc (show (m 94 58).toInt = 0 ∨ (m 94 10).toInt = 5 from by omega) (show ((nw.toInt < 0 ∨ 8 < nw.toInt ∨ rf.toInt < 0 ∨ ((1 : Int32) <<< (nw &&& 31)).toInt ≤ rf.toInt) ∧ (1 : Int32).toInt = 1 ∧ (m 94 7).toInt = (m 94 7).toInt) ∨ (¬ (nw.toInt < 0 ∨ 8 < nw.toInt ∨ rf.toInt < 0 ∨ ((1 : Int32) <<< (nw &&& 31)).toInt ≤ rf.toInt) ∧ (m 94 7).toInt = 16 ∧ (1 : Int32).toInt = 2 ∧ (m 94 7).toInt = (m 94 7).toInt) ∨ (¬ (nw.toInt < 0 ∨ 8 < nw.toInt ∨ rf.toInt < 0 ∨ ((1 : Int32) <<< (nw &&& 31)).toInt ≤ rf.toInt) ∧ (m 94 7).toInt < 16 ∧ (1 : Int32).toInt = 0 ∧ (m 94 7).toInt = (m 94 7).toInt + 1 ∧ (0 : Int32).toInt = (m 94 7).toInt) from by omega) (show ((m 94 7).toInt = (m 94 7).toInt ∧ (m 97) = (m 97) ∧ (m 98) = (m 98)) ∨ ((m 94 7).toInt = (m 94 7).toInt + 1 ∧ (m 97) = zUp (m 97) (m 94 7).toNatClampNeg nw ∧ (m 98) = zUp (m 98) (m 94 7).toNatClampNeg rf) from by first | (exact Or.inl ⟨rfl, rfl, rfl⟩) | (exfalso; omega; done) | (exfalso; contradiction; done))
    · skip
      have g45 := i_nle h12
      have hV46 : zV (ma_u m 94 0 (1 : Int32)) := uf_94_0 hV
      have li47 : (1 : Int32).toInt = 1 := rfl
      have f48 : 0 ≤ (m 94 7).toInt ∧ (m 94 7).toInt ≤ 16 := rs_94_7 (m := m) hV
      exact K ((0 : Int32)) _ (zF_u zF_rfl rfl) hV46 r_W r_GW r_GU r_OW r_DX r_GG r_HA r_RGc (show (m 94 58).toInt = 0 ∨ (m 94 10).toInt = 5 from by omega) (show ((nw.toInt < 0 ∨ 8 < nw.toInt ∨ rf.toInt < 0 ∨ ((1 : Int32) <<< (nw &&& 31)).toInt ≤ rf.toInt) ∧ (1 : Int32).toInt = 1 ∧ (m 94 7).toInt = (m 94 7).toInt) ∨ (¬ (nw.toInt < 0 ∨ 8 < nw.toInt ∨ rf.toInt < 0 ∨ ((1 : Int32) <<< (nw &&& 31)).toInt ≤ rf.toInt) ∧ (m 94 7).toInt = 16 ∧ (1 : Int32).toInt = 2 ∧ (m 94 7).toInt = (m 94 7).toInt) ∨ (¬ (nw.toInt < 0 ∨ 8 < nw.toInt ∨ rf.toInt < 0 ∨ ((1 : Int32) <<< (nw &&& 31)).toInt ≤ rf.toInt) ∧ (m 94 7).toInt < 16 ∧ (1 : Int32).toInt = 0 ∧ (m 94 7).toInt = (m 94 7).toInt + 1 ∧ (0 : Int32).toInt = (m 94 7).toInt) from by omega) (show ((m 94 7).toInt = (m 94 7).toInt ∧ (m 97) = (m 97) ∧ (m 98) = (m 98)) ∨ ((m 94 7).toInt = (m 94 7).toInt + 1 ∧ (m 97) = zUp (m 97) (m 94 7).toNatClampNeg nw ∧ (m 98) = zUp (m 98) (m 94 7).toNatClampNeg rf) from by first | (exact Or.inl ⟨rfl, rfl, rfl⟩) | (exfalso; omega; done) | (exfalso; contradiction; done))

/-! from 95.h49 -/
/-! the reference by numbers (written by wip/tools/gen18r.py) -/
theorem sp_170v {X : Nat × (Nat → Int32)} {P : Option ma_V → (Nat → Nat → Int32) → Prop} {T : Nat} {m : Nat → Nat → Int32} (nw : Int32) (rf : Int32) (hV : zV m) (hpre0 : (m 94 8).toInt = 0) (r_W : zW (m 94 7) (m 98) (m 101) (m 102) (m 108)) (r_GW : zGW T (m 94 55) (m 109)) (KZ : ∀ v m₉, zV (zov wr_170 m m₉) → ((m 94 8).toInt = 0) → (zW (m₉ 94 7) (m₉ 98) (m 101) (m 102) (m 108)) → (zGW T (m 94 55) (m 109)) → (((nw.toInt < 0 ∨ 8 < nw.toInt ∨ rf.toInt < 0 ∨ ((1 : Int32) <<< (nw &&& 31)).toInt ≤ rf.toInt) ∧ (m₉ 94 0).toInt = 1 ∧ (m₉ 94 7).toInt = (m 94 7).toInt) ∨ (¬ (nw.toInt < 0 ∨ 8 < nw.toInt ∨ rf.toInt < 0 ∨ ((1 : Int32) <<< (nw &&& 31)).toInt ≤ rf.toInt) ∧ (m 94 7).toInt = 16 ∧ (m₉ 94 0).toInt = 2 ∧ (m₉ 94 7).toInt = (m 94 7).toInt) ∨ (¬ (nw.toInt < 0 ∨ 8 < nw.toInt ∨ rf.toInt < 0 ∨ ((1 : Int32) <<< (nw &&& 31)).toInt ≤ rf.toInt) ∧ (m 94 7).toInt < 16 ∧ (m₉ 94 0).toInt = 0 ∧ (m₉ 94 7).toInt = (m 94 7).toInt + 1 ∧ v.toInt = (m 94 7).toInt)) → (((m₉ 94 7).toInt = (m 94 7).toInt ∧ (m₉ 97) = (m 97) ∧ (m₉ 98) = (m 98)) ∨ ((m₉ 94 7).toInt = (m 94 7).toInt + 1 ∧ (m₉ 97) = zUp (m 97) (m 94 7).toNatClampNeg nw ∧ (m₉ 98) = zUp (m 98) (m 94 7).toNatClampNeg rf)) → P (some (.inl v)) (zov wr_170 m m₉)) : zm X 1 21 170 0 [(0, .inr (.inr (some 94))), (1, .inl nw), (2, .inl rf)] m P := by
  have K : ∀ v m₉, zF wr_170 m m₉ → zV m₉ → ((m₉ 94 8).toInt = 0) → (zW (m₉ 94 7) (m₉ 98) (m₉ 101) (m₉ 102) (m₉ 108)) → (zGW T (m₉ 94 55) (m₉ 109)) → (((nw.toInt < 0 ∨ 8 < nw.toInt ∨ rf.toInt < 0 ∨ ((1 : Int32) <<< (nw &&& 31)).toInt ≤ rf.toInt) ∧ (m₉ 94 0).toInt = 1 ∧ (m₉ 94 7).toInt = (m 94 7).toInt) ∨ (¬ (nw.toInt < 0 ∨ 8 < nw.toInt ∨ rf.toInt < 0 ∨ ((1 : Int32) <<< (nw &&& 31)).toInt ≤ rf.toInt) ∧ (m 94 7).toInt = 16 ∧ (m₉ 94 0).toInt = 2 ∧ (m₉ 94 7).toInt = (m 94 7).toInt) ∨ (¬ (nw.toInt < 0 ∨ 8 < nw.toInt ∨ rf.toInt < 0 ∨ ((1 : Int32) <<< (nw &&& 31)).toInt ≤ rf.toInt) ∧ (m 94 7).toInt < 16 ∧ (m₉ 94 0).toInt = 0 ∧ (m₉ 94 7).toInt = (m 94 7).toInt + 1 ∧ v.toInt = (m 94 7).toInt)) → (((m₉ 94 7).toInt = (m 94 7).toInt ∧ (m₉ 97) = (m 97) ∧ (m₉ 98) = (m 98)) ∨ ((m₉ 94 7).toInt = (m 94 7).toInt + 1 ∧ (m₉ 97) = zUp (m 97) (m 94 7).toNatClampNeg nw ∧ (m₉ 98) = zUp (m 98) (m 94 7).toNatClampNeg rf)) → P (some (.inl v)) m₉ := by
    intro v m₉ hf z q0 q1 q2 q3 q4
    have e := zov_eq hf
    rw [e] at z ⊢
    try rw [e] at q0
    try rw [e] at q1
    try rw [e] at q2
    try rw [e] at q3
    try rw [e] at q4
    exact KZ v m₉ z q0 q1 q2 q3 q4
  refine g_170_0 nw rf ?_
  have f1 : 0 ≤ (m 94 8).toInt ∧ (m 94 8).toInt ≤ 1 := rs_94_8 (m := m) hV
  have b2 := i_bd nw
  have li3 : (0 : Int32).toInt = 0 := rfl
  refine zd (fun (h4 : nw < (0 : Int32)) => ?_) (fun (h4 : ¬ nw < (0 : Int32)) => ?_)
  · skip
    have g5 := i_lt h4
    have hV6 : zV (ma_u m 94 0 (1 : Int32)) := uf_94_0 hV
    have li7 : (1 : Int32).toInt = 1 := rfl
    have f8 : 0 ≤ (m 94 7).toInt ∧ (m 94 7).toInt ≤ 16 := rs_94_7 (m := m) hV
    exact K ((0 : Int32)) _ (zF_u zF_rfl rfl) hV6 (show (m 94 8).toInt = 0 from by omega) r_W r_GW (show ((nw.toInt < 0 ∨ 8 < nw.toInt ∨ rf.toInt < 0 ∨ ((1 : Int32) <<< (nw &&& 31)).toInt ≤ rf.toInt) ∧ (1 : Int32).toInt = 1 ∧ (m 94 7).toInt = (m 94 7).toInt) ∨ (¬ (nw.toInt < 0 ∨ 8 < nw.toInt ∨ rf.toInt < 0 ∨ ((1 : Int32) <<< (nw &&& 31)).toInt ≤ rf.toInt) ∧ (m 94 7).toInt = 16 ∧ (1 : Int32).toInt = 2 ∧ (m 94 7).toInt = (m 94 7).toInt) ∨ (¬ (nw.toInt < 0 ∨ 8 < nw.toInt ∨ rf.toInt < 0 ∨ ((1 : Int32) <<< (nw &&& 31)).toInt ≤ rf.toInt) ∧ (m 94 7).toInt < 16 ∧ (1 : Int32).toInt = 0 ∧ (m 94 7).toInt = (m 94 7).toInt + 1 ∧ (0 : Int32).toInt = (m 94 7).toInt) from by omega) (show ((m 94 7).toInt = (m 94 7).toInt ∧ (m 97) = (m 97) ∧ (m 98) = (m 98)) ∨ ((m 94 7).toInt = (m 94 7).toInt + 1 ∧ (m 97) = zUp (m 97) (m 94 7).toNatClampNeg nw ∧ (m 98) = zUp (m 98) (m 94 7).toNatClampNeg rf) from by first | (exact Or.inl ⟨rfl, rfl, rfl⟩) | (exfalso; omega; done) | (exfalso; contradiction; done))
  · skip
    have g9 := i_nlt h4
    have li10 : (8 : Int32).toInt = 8 := rfl
    refine zd (fun (h11 : nw ≤ (8 : Int32)) => ?_) (fun (h11 : ¬ nw ≤ (8 : Int32)) => ?_)
    · skip
      have g12 := i_le h11
      have b13 := i_bd rf
      refine zd (fun (h14 : rf < (0 : Int32)) => ?_) (fun (h14 : ¬ rf < (0 : Int32)) => ?_)
      · skip
        have g15 := i_lt h14
        have hV16 : zV (ma_u m 94 0 (1 : Int32)) := uf_94_0 hV
        have li17 : (1 : Int32).toInt = 1 := rfl
        have f18 : 0 ≤ (m 94 7).toInt ∧ (m 94 7).toInt ≤ 16 := rs_94_7 (m := m) hV
        exact K ((0 : Int32)) _ (zF_u zF_rfl rfl) hV16 (show (m 94 8).toInt = 0 from by omega) r_W r_GW (show ((nw.toInt < 0 ∨ 8 < nw.toInt ∨ rf.toInt < 0 ∨ ((1 : Int32) <<< (nw &&& 31)).toInt ≤ rf.toInt) ∧ (1 : Int32).toInt = 1 ∧ (m 94 7).toInt = (m 94 7).toInt) ∨ (¬ (nw.toInt < 0 ∨ 8 < nw.toInt ∨ rf.toInt < 0 ∨ ((1 : Int32) <<< (nw &&& 31)).toInt ≤ rf.toInt) ∧ (m 94 7).toInt = 16 ∧ (1 : Int32).toInt = 2 ∧ (m 94 7).toInt = (m 94 7).toInt) ∨ (¬ (nw.toInt < 0 ∨ 8 < nw.toInt ∨ rf.toInt < 0 ∨ ((1 : Int32) <<< (nw &&& 31)).toInt ≤ rf.toInt) ∧ (m 94 7).toInt < 16 ∧ (1 : Int32).toInt = 0 ∧ (m 94 7).toInt = (m 94 7).toInt + 1 ∧ (0 : Int32).toInt = (m 94 7).toInt) from by omega) (show ((m 94 7).toInt = (m 94 7).toInt ∧ (m 97) = (m 97) ∧ (m 98) = (m 98)) ∨ ((m 94 7).toInt = (m 94 7).toInt + 1 ∧ (m 97) = zUp (m 97) (m 94 7).toNatClampNeg nw ∧ (m 98) = zUp (m 98) (m 94 7).toNatClampNeg rf) from by first | (exact Or.inl ⟨rfl, rfl, rfl⟩) | (exfalso; omega; done) | (exfalso; contradiction; done))
      · skip
        have g19 := i_nlt h14
        have b20 := i_bd ((1 : Int32) <<< (nw &&& 31))
        refine zd (fun (h21 : rf < ((1 : Int32) <<< (nw &&& 31))) => ?_) (fun (h21 : ¬ rf < ((1 : Int32) <<< (nw &&& 31))) => ?_)
        · skip
          have g22 := i_lt h21
          have f23 : 0 ≤ (m 94 7).toInt ∧ (m 94 7).toInt ≤ 16 := rs_94_7 (m := m) hV
          have li24 : (16 : Int32).toInt = 16 := rfl
          refine zd (fun (h25 : (m 94 7) = (16 : Int32)) => ?_) (fun (h25 : ¬ (m 94 7) = (16 : Int32)) => ?_)
          · skip
            have g26 := i_eq h25
            have hV27 : zV (ma_u m 94 0 (2 : Int32)) := uf_94_0 hV
            have li28 : (2 : Int32).toInt = 2 := rfl
            exact K ((0 : Int32)) _ (zF_u zF_rfl rfl) hV27 (show (m 94 8).toInt = 0 from by omega) r_W r_GW (show ((nw.toInt < 0 ∨ 8 < nw.toInt ∨ rf.toInt < 0 ∨ ((1 : Int32) <<< (nw &&& 31)).toInt ≤ rf.toInt) ∧ (2 : Int32).toInt = 1 ∧ (m 94 7).toInt = (m 94 7).toInt) ∨ (¬ (nw.toInt < 0 ∨ 8 < nw.toInt ∨ rf.toInt < 0 ∨ ((1 : Int32) <<< (nw &&& 31)).toInt ≤ rf.toInt) ∧ (m 94 7).toInt = 16 ∧ (2 : Int32).toInt = 2 ∧ (m 94 7).toInt = (m 94 7).toInt) ∨ (¬ (nw.toInt < 0 ∨ 8 < nw.toInt ∨ rf.toInt < 0 ∨ ((1 : Int32) <<< (nw &&& 31)).toInt ≤ rf.toInt) ∧ (m 94 7).toInt < 16 ∧ (2 : Int32).toInt = 0 ∧ (m 94 7).toInt = (m 94 7).toInt + 1 ∧ (0 : Int32).toInt = (m 94 7).toInt) from by omega) (show ((m 94 7).toInt = (m 94 7).toInt ∧ (m 97) = (m 97) ∧ (m 98) = (m 98)) ∨ ((m 94 7).toInt = (m 94 7).toInt + 1 ∧ (m 97) = zUp (m 97) (m 94 7).toNatClampNeg nw ∧ (m 98) = zUp (m 98) (m 94 7).toNatClampNeg rf) from by first | (exact Or.inl ⟨rfl, rfl, rfl⟩) | (exfalso; omega; done) | (exfalso; contradiction; done))
          · skip
            have g29 := i_ne h25
            have hg30 : (0 ≤ (m 94 7) ∧ (m 94 7).toNatClampNeg < 16) := i_ix (by omega) (by omega)
            refine ⟨hg30, ?_⟩
            try have sh := i_shl8 (n := nw) (by omega) (by omega)
            have hg31 : (0 ≤ (m 94 7) ∧ (m 94 7).toNatClampNeg < 16) := i_ix (by omega) (by omega)
            refine ⟨hg31, ?_⟩
            have hV32 : zV (ma_u m 94 0 (0 : Int32)) := uf_94_0 hV
            have hV33 : zV (ma_u (ma_u m 94 0 (0 : Int32)) 97 (m 94 7).toNatClampNeg nw) := ua_97 hV32 (by omega) (by omega)
            have hV34 : zV (ma_u (ma_u (ma_u m 94 0 (0 : Int32)) 97 (m 94 7).toNatClampNeg nw) 98 (m 94 7).toNatClampNeg rf) := ua_98 hV33 (by omega) (by omega)
            first | have e36 : ((m 94 7) + (1 : Int32)).toInt = (m 94 7).toInt + (1) := i_addk rfl (by omega) (by omega) | have b37 := i_bd ((m 94 7) + (1 : Int32))
            have hV35 : zV (ma_u (ma_u (ma_u (ma_u m 94 0 (0 : Int32)) 97 (m 94 7).toNatClampNeg nw) 98 (m 94 7).toNatClampNeg rf) 94 7 ((m 94 7) + (1 : Int32))) := us_94_7 hV34 (by omega) (by omega)
            first | have e38 : (((m 94 7) + (1 : Int32)) - (1 : Int32)).toInt = ((m 94 7) + (1 : Int32)).toInt - (1) := i_subk rfl (by omega) (by omega) | have b39 := i_bd (((m 94 7) + (1 : Int32)) - (1 : Int32))
            exact K ((((m 94 7) + (1 : Int32)) - (1 : Int32))) _ (zF_u (zF_u (zF_u (zF_u zF_rfl rfl) rfl) rfl) rfl) hV35 (show (m 94 8).toInt = 0 from by omega) (show zW ((m 94 7) + (1 : Int32)) ((ma_u m 98 (m 94 7).toNatClampNeg rf) 98) (m 101) (m 102) (m 108) from by first | (exact W_same r_W (by omega) (zrf_kind r_W (tn_cast (by omega)) (fun t ht => (ra_101 hV ht).1))) | (exfalso; omega; done) | (exfalso; contradiction; done)) r_GW (show ((nw.toInt < 0 ∨ 8 < nw.toInt ∨ rf.toInt < 0 ∨ ((1 : Int32) <<< (nw &&& 31)).toInt ≤ rf.toInt) ∧ (0 : Int32).toInt = 1 ∧ ((m 94 7) + (1 : Int32)).toInt = (m 94 7).toInt) ∨ (¬ (nw.toInt < 0 ∨ 8 < nw.toInt ∨ rf.toInt < 0 ∨ ((1 : Int32) <<< (nw &&& 31)).toInt ≤ rf.toInt) ∧ (m 94 7).toInt = 16 ∧ (0 : Int32).toInt = 2 ∧ ((m 94 7) + (1 : Int32)).toInt = (m 94 7).toInt) ∨ (¬ (nw.toInt < 0 ∨ 8 < nw.toInt ∨ rf.toInt < 0 ∨ ((1 : Int32) <<< (nw &&& 31)).toInt ≤ rf.toInt) ∧ (m 94 7).toInt < 16 ∧ (0 : Int32).toInt = 0 ∧ ((m 94 7) + (1 : Int32)).toInt = (m 94 7).toInt + 1 ∧ (((m 94 7) + (1 : Int32)) - (1 : Int32)).toInt = (m 94 7).toInt) from by omega) (show (((m 94 7) + (1 : Int32)).toInt = (m 94 7).toInt ∧ ((ma_u m 97 (m 94 7).toNatClampNeg nw) 97) = (m 97) ∧ ((ma_u m 98 (m 94 7).toNatClampNeg rf) 98) = (m 98)) ∨ (((m 94 7) + (1 : Int32)).toInt = (m 94 7).toInt + 1 ∧ ((ma_u m 97 (m 94 7).toNatClampNeg nw) 97) = zUp (m 97) (m 94 7).toNatClampNeg nw ∧ ((ma_u m 98 (m 94 7).toNatClampNeg rf) 98) = zUp (m 98) (m 94 7).toNatClampNeg rf) from by first | (exact Or.inr ⟨by omega, mu_up, mu_up⟩) | (exfalso; omega; done) | (exfalso; contradiction; done))
        · skip
          have g40 := i_nlt h21
          have hV41 : zV (ma_u m 94 0 (1 : Int32)) := uf_94_0 hV
          have li42 : (1 : Int32).toInt = 1 := rfl
          have f43 : 0 ≤ (m 94 7).toInt ∧ (m 94 7).toInt ≤ 16 := rs_94_7 (m := m) hV
          exact K ((0 : Int32)) _ (zF_u zF_rfl rfl) hV41 (show (m 94 8).toInt = 0 from by omega) r_W r_GW (show ((nw.toInt < 0 ∨ 8 < nw.toInt ∨ rf.toInt < 0 ∨ ((1 : Int32) <<< (nw &&& 31)).toInt ≤ rf.toInt) ∧ (1 : Int32).toInt = 1 ∧ (m 94 7).toInt = (m 94 7).toInt) ∨ (¬ (nw.toInt < 0 ∨ 8 < nw.toInt ∨ rf.toInt < 0 ∨ ((1 : Int32) <<< (nw &&& 31)).toInt ≤ rf.toInt) ∧ (m 94 7).toInt = 16 ∧ (1 : Int32).toInt = 2 ∧ (m 94 7).toInt = (m 94 7).toInt) ∨ (¬ (nw.toInt < 0 ∨ 8 < nw.toInt ∨ rf.toInt < 0 ∨ ((1 : Int32) <<< (nw &&& 31)).toInt ≤ rf.toInt) ∧ (m 94 7).toInt < 16 ∧ (1 : Int32).toInt = 0 ∧ (m 94 7).toInt = (m 94 7).toInt + 1 ∧ (0 : Int32).toInt = (m 94 7).toInt) from by omega) (show ((m 94 7).toInt = (m 94 7).toInt ∧ (m 97) = (m 97) ∧ (m 98) = (m 98)) ∨ ((m 94 7).toInt = (m 94 7).toInt + 1 ∧ (m 97) = zUp (m 97) (m 94 7).toNatClampNeg nw ∧ (m 98) = zUp (m 98) (m 94 7).toNatClampNeg rf) from by first | (exact Or.inl ⟨rfl, rfl, rfl⟩) | (exfalso; omega; done) | (exfalso; contradiction; done))
    · skip
      have g44 := i_nle h11
      have hV45 : zV (ma_u m 94 0 (1 : Int32)) := uf_94_0 hV
      have li46 : (1 : Int32).toInt = 1 := rfl
      have f47 : 0 ≤ (m 94 7).toInt ∧ (m 94 7).toInt ≤ 16 := rs_94_7 (m := m) hV
      exact K ((0 : Int32)) _ (zF_u zF_rfl rfl) hV45 (show (m 94 8).toInt = 0 from by omega) r_W r_GW (show ((nw.toInt < 0 ∨ 8 < nw.toInt ∨ rf.toInt < 0 ∨ ((1 : Int32) <<< (nw &&& 31)).toInt ≤ rf.toInt) ∧ (1 : Int32).toInt = 1 ∧ (m 94 7).toInt = (m 94 7).toInt) ∨ (¬ (nw.toInt < 0 ∨ 8 < nw.toInt ∨ rf.toInt < 0 ∨ ((1 : Int32) <<< (nw &&& 31)).toInt ≤ rf.toInt) ∧ (m 94 7).toInt = 16 ∧ (1 : Int32).toInt = 2 ∧ (m 94 7).toInt = (m 94 7).toInt) ∨ (¬ (nw.toInt < 0 ∨ 8 < nw.toInt ∨ rf.toInt < 0 ∨ ((1 : Int32) <<< (nw &&& 31)).toInt ≤ rf.toInt) ∧ (m 94 7).toInt < 16 ∧ (1 : Int32).toInt = 0 ∧ (m 94 7).toInt = (m 94 7).toInt + 1 ∧ (0 : Int32).toInt = (m 94 7).toInt) from by omega) (show ((m 94 7).toInt = (m 94 7).toInt ∧ (m 97) = (m 97) ∧ (m 98) = (m 98)) ∨ ((m 94 7).toInt = (m 94 7).toInt + 1 ∧ (m 97) = zUp (m 97) (m 94 7).toNatClampNeg nw ∧ (m 98) = zUp (m 98) (m 94 7).toNatClampNeg rf) from by first | (exact Or.inl ⟨rfl, rfl, rfl⟩) | (exfalso; omega; done) | (exfalso; contradiction; done))
theorem sp_257w {X : Nat × (Nat → Int32)} {P : Option ma_V → (Nat → Nat → Int32) → Prop} {T : Nat} {m : Nat → Nat → Int32} (nn : Int32) (hV : zV m) (hpre0 : (m 94 8).toInt = 1) (hpre1 : (m 94 10).toInt ≠ 5) (r_W : zW (m 94 7) (m 98) (m 101) (m 102) (m 108)) (r_GW : zGW T (m 94 55) (m 109)) (r_GU : zGU T (m 94 46) (m 99)) (r_OW : zOw (m 99) (m 103) (m 111)) (r_DX : zDX (m 94 10) (m 99) (m 112) (m 113) (m 114) (m 94 55) (m 98) (m 101) (m 102) (m 108)) (r_GG : zGG (m 94 58) (m 94 56) (m 94 57) (m 106)) (r_HA : zHA (m 94 10) (m 94 11) (m 94 13) (m 94 14) (m 94 16) (m 94 61) (m 94 59) (m 94 60) (m 99) (m 102) (m 103) (m 111) (m 117) (m 98) (m 101) (m 108)) (r_RGc : zRG (m 94 10) (m 94 18) (m 94 64) (m 94 63) (m 99) (m 103) (m 102) (m 116)) (hpre10 : (m 94 58).toInt = 0 ∨ (m 94 10).toInt = 5) (KZ : ∀ v m₉, zV (zov wr_257 m m₉) → (zW (m 94 7) (m 98) (m 101) (m 102) (m 108)) → (zGW T (m₉ 94 55) (m₉ 109)) → (zGU T (m 94 46) (m₉ 99)) → (zOw (m₉ 99) (m 103) (m₉ 111)) → (zDX (m 94 10) (m₉ 99) (m 112) (m₉ 113) (m₉ 114) (m₉ 94 55) (m 98) (m 101) (m 102) (m 108)) → (zGG (m₉ 94 58) (m₉ 94 56) (m₉ 94 57) (m₉ 106)) → (zHA (m 94 10) (m 94 11) (m 94 13) (m 94 14) (m 94 16) (m 94 61) (m 94 59) (m 94 60) (m₉ 99) (m 102) (m 103) (m₉ 111) (m 117) (m 98) (m 101) (m 108)) → (zRG (m 94 10) (m 94 18) (m 94 64) (m 94 63) (m₉ 99) (m 103) (m 102) (m 116)) → ((m₉ 94 58).toInt = 0 ∨ (m 94 10).toInt = 5) → (((nn.toInt < 0 ∨ 1000 < nn.toInt) ∧ (m₉ 94 0).toInt = 1) ∨ ((0 ≤ nn.toInt ∧ nn.toInt ≤ 1000) ∧ (m₉ 94 0).toInt = 3)) → P (some (.inl v)) (zov wr_257 m m₉)) : zm X 5 109 257 0 [(0, .inr (.inr (some 94))), (1, .inl nn)] m P := by
  have K : ∀ v m₉, zF wr_257 m m₉ → zV m₉ → (zW (m₉ 94 7) (m₉ 98) (m₉ 101) (m₉ 102) (m₉ 108)) → (zGW T (m₉ 94 55) (m₉ 109)) → (zGU T (m₉ 94 46) (m₉ 99)) → (zOw (m₉ 99) (m₉ 103) (m₉ 111)) → (zDX (m₉ 94 10) (m₉ 99) (m₉ 112) (m₉ 113) (m₉ 114) (m₉ 94 55) (m₉ 98) (m₉ 101) (m₉ 102) (m₉ 108)) → (zGG (m₉ 94 58) (m₉ 94 56) (m₉ 94 57) (m₉ 106)) → (zHA (m₉ 94 10) (m₉ 94 11) (m₉ 94 13) (m₉ 94 14) (m₉ 94 16) (m₉ 94 61) (m₉ 94 59) (m₉ 94 60) (m₉ 99) (m₉ 102) (m₉ 103) (m₉ 111) (m₉ 117) (m₉ 98) (m₉ 101) (m₉ 108)) → (zRG (m₉ 94 10) (m₉ 94 18) (m₉ 94 64) (m₉ 94 63) (m₉ 99) (m₉ 103) (m₉ 102) (m₉ 116)) → ((m₉ 94 58).toInt = 0 ∨ (m₉ 94 10).toInt = 5) → (((nn.toInt < 0 ∨ 1000 < nn.toInt) ∧ (m₉ 94 0).toInt = 1) ∨ ((0 ≤ nn.toInt ∧ nn.toInt ≤ 1000) ∧ (m₉ 94 0).toInt = 3)) → P (some (.inl v)) m₉ := by
    intro v m₉ hf z q0 q1 q2 q3 q4 q5 q6 q7 q8 q9
    have e := zov_eq hf
    rw [e] at z ⊢
    try rw [e] at q0
    try rw [e] at q1
    try rw [e] at q2
    try rw [e] at q3
    try rw [e] at q4
    try rw [e] at q5
    try rw [e] at q6
    try rw [e] at q7
    try rw [e] at q8
    try rw [e] at q9
    exact KZ v m₉ z q0 q1 q2 q3 q4 q5 q6 q7 q8 q9
  refine g_257_0 nn ?_
  have f1 : 0 ≤ (m 94 8).toInt ∧ (m 94 8).toInt ≤ 1 := rs_94_8 (m := m) hV
  have f2 : 0 ≤ (m 94 10).toInt ∧ (m 94 10).toInt ≤ 6 := rs_94_10 (m := m) hV
  have f3 : 0 ≤ (m 94 58).toInt ∧ (m 94 58).toInt ≤ 1 := rs_94_58 (m := m) hV
  have b4 := i_bd nn
  have li5 : (0 : Int32).toInt = 0 := rfl
  refine zd (fun (h6 : nn < (0 : Int32)) => ?_) (fun (h6 : ¬ nn < (0 : Int32)) => ?_)
  · skip
    have g7 := i_lt h6
    have hV8 : zV (ma_u m 94 0 (1 : Int32)) := uf_94_0 hV
    have li9 : (1 : Int32).toInt = 1 := rfl
    exact K ((0 : Int32)) _ (zF_u zF_rfl rfl) hV8 r_W r_GW r_GU r_OW r_DX r_GG r_HA r_RGc (show (m 94 58).toInt = 0 ∨ (m 94 10).toInt = 5 from by omega) (show ((nn.toInt < 0 ∨ 1000 < nn.toInt) ∧ (1 : Int32).toInt = 1) ∨ ((0 ≤ nn.toInt ∧ nn.toInt ≤ 1000) ∧ (1 : Int32).toInt = 3) from by omega)
  · skip
    have g10 := i_nlt h6
    have li11 : (1000 : Int32).toInt = 1000 := rfl
    refine zd (fun (h12 : nn ≤ (1000 : Int32)) => ?_) (fun (h12 : ¬ nn ≤ (1000 : Int32)) => ?_)
    · skip
      have g13 := i_le h12
      refine zd (fun (h14 : (m 94 8) = (0 : Int32)) => ?_) (fun (h14 : ¬ (m 94 8) = (0 : Int32)) => ?_)
      · skip
        have g15 := i_eq h14
        have hV16 : zV (ma_u m 94 0 (2 : Int32)) := uf_94_0 hV
        have li17 : (2 : Int32).toInt = 2 := rfl
        exact K ((0 : Int32)) _ (zF_u zF_rfl rfl) hV16 r_W r_GW r_GU r_OW r_DX r_GG r_HA r_RGc (show (m 94 58).toInt = 0 ∨ (m 94 10).toInt = 5 from by omega) (show ((nn.toInt < 0 ∨ 1000 < nn.toInt) ∧ (2 : Int32).toInt = 1) ∨ ((0 ≤ nn.toInt ∧ nn.toInt ≤ 1000) ∧ (2 : Int32).toInt = 3) from by omega)
      · skip
        have g18 := i_ne h14
        have li19 : (5 : Int32).toInt = 5 := rfl
        refine zd (fun (h20 : (m 94 10) = (5 : Int32)) => ?_) (fun (h20 : ¬ (m 94 10) = (5 : Int32)) => ?_)
        · skip
          have g21 := i_eq h20
          refine zd (fun (h22 : (m 94 58) = (0 : Int32)) => ?_) (fun (h22 : ¬ (m 94 58) = (0 : Int32)) => ?_)
          · skip
            have g23 := i_eq h22
            have hV24 : zV (ma_u m 94 0 (0 : Int32)) := uf_94_0 hV
            exact K ((0 : Int32)) _ (zF_u zF_rfl rfl) hV24 r_W r_GW r_GU r_OW r_DX r_GG r_HA r_RGc (show (m 94 58).toInt = 0 ∨ (m 94 10).toInt = 5 from by omega) (show ((nn.toInt < 0 ∨ 1000 < nn.toInt) ∧ (0 : Int32).toInt = 1) ∨ ((0 ≤ nn.toInt ∧ nn.toInt ≤ 1000) ∧ (0 : Int32).toInt = 3) from by omega)
          · skip
            have g25 := i_ne h22
            have hV26 : zV (ma_u m 94 0 (0 : Int32)) := uf_94_0 hV
            refine sp_222 (nn) hV26 r_W (show zG1 (m 94 56) (m 94 57) (m 106) from by first | (exact G1_0 (by omega) (by omega)) | (exact r_GG (by omega)) | (exfalso; omega; done) | (exfalso; contradiction; done)) (fun v2 m1 hV_m1 p0_m1 p1_m1 p2_m1 => zmi_n ?_)
            have p0_m1 : zG1 (m1 94 56) (m1 94 57) (m1 106) := p0_m1
            have p1_m1 : (m 94 56).toInt ≤ (m1 94 56).toInt := p1_m1
            have p2_m1 : (m 94 57).toInt ≤ (m1 94 57).toInt ∧ ((m1 94 56).toInt ≤ (m1 94 57).toInt ∨ (m 94 57).toInt + nn.toInt ≤ (m1 94 57).toInt) := p2_m1
            have f27 : 0 ≤ (m 94 56).toInt ∧ (m 94 56).toInt ≤ 3100 := rs_94_56 (m := m) hV
            have f28 : 0 ≤ (m1 94 56).toInt ∧ (m1 94 56).toInt ≤ 3100 := rs_94_56 (m := (zov wr_222 (ma_u m 94 0 (0 : Int32)) m1)) hV_m1
            have f29 : 0 ≤ (m 94 57).toInt ∧ (m 94 57).toInt ≤ 3100 := rs_94_57 (m := m) hV
            have f30 : 0 ≤ (m1 94 57).toInt ∧ (m1 94 57).toInt ≤ 3100 := rs_94_57 (m := (zov wr_222 (ma_u m 94 0 (0 : Int32)) m1)) hV_m1
            refine sp_223  hV_m1 r_W r_GW r_GU r_OW r_DX p0_m1 (show (m 94 10).toInt = 5 from by omega) (show (m 94 58).toInt = 1 from by omega) (fun v4 m3 hV_m3 p0_m3 p1_m3 p2_m3 p3_m3 p4_m3 p5_m3 => zmi_n ?_)
            have p0_m3 : zGW T (m3 94 55) (m3 109) := p0_m3
            have p1_m3 : zGU T (m 94 46) (m3 99) := p1_m3
            have p2_m3 : zOw (m3 99) (m 103) (m3 111) := p2_m3
            have p3_m3 : zDX (m 94 10) (m3 99) (m 112) (m3 113) (m3 114) (m3 94 55) (m 98) (m 101) (m 102) (m 108) := p3_m3
            have p4_m3 : zGG (m3 94 58) (m3 94 56) (m1 94 57) (m3 106) := p4_m3
            have p5_m3 : (m3 94 58).toInt = 0 ∨ ((m3 94 58).toInt = 1 ∧ (m1 94 57).toInt < (m3 94 56).toInt ∧ (m1 94 57).toInt = (m1 94 57).toInt) := p5_m3
            have f31 : 0 ≤ (m3 94 58).toInt ∧ (m3 94 58).toInt ≤ 1 := rs_94_58 (m := (zov wr_223 (zov wr_222 (ma_u m 94 0 (0 : Int32)) m1) m3)) hV_m3
            have f32 : 0 ≤ (m3 94 56).toInt ∧ (m3 94 56).toInt ≤ 3100 := rs_94_56 (m := (zov wr_223 (zov wr_222 (ma_u m 94 0 (0 : Int32)) m1) m3)) hV_m3
            have b33 := i_bd v2
            exact K (v2) _ (zF_zov (zF_zov (zF_u zF_rfl rfl) ws_222_257) ws_223_257) hV_m3 r_W p0_m3 p1_m3 p2_m3 p3_m3 p4_m3 (show zHA (m 94 10) (m 94 11) (m 94 13) (m 94 14) (m 94 16) (m 94 61) (m 94 59) (m 94 60) (m3 99) (m 102) (m 103) (m3 111) (m 117) (m 98) (m 101) (m 108) from by first | (exfalso; omega; done) | (exfalso; contradiction; done)) (show zRG (m 94 10) (m 94 18) (m 94 64) (m 94 63) (m3 99) (m 103) (m 102) (m 116) from by first | (exfalso; omega; done) | (exfalso; contradiction; done)) (show (m3 94 58).toInt = 0 ∨ (m 94 10).toInt = 5 from by omega) (show ((nn.toInt < 0 ∨ 1000 < nn.toInt) ∧ (0 : Int32).toInt = 1) ∨ ((0 ≤ nn.toInt ∧ nn.toInt ≤ 1000) ∧ (0 : Int32).toInt = 3) from by omega)
        · skip
          have g34 := i_ne h20
          have hV35 : zV (ma_u m 94 0 (3 : Int32)) := uf_94_0 hV
          have li36 : (3 : Int32).toInt = 3 := rfl
          exact K ((0 : Int32)) _ (zF_u zF_rfl rfl) hV35 r_W r_GW r_GU r_OW r_DX r_GG r_HA r_RGc (show (m 94 58).toInt = 0 ∨ (m 94 10).toInt = 5 from by omega) (show ((nn.toInt < 0 ∨ 1000 < nn.toInt) ∧ (3 : Int32).toInt = 1) ∨ ((0 ≤ nn.toInt ∧ nn.toInt ≤ 1000) ∧ (3 : Int32).toInt = 3) from by omega)
    · skip
      have g37 := i_nle h12
      have hV38 : zV (ma_u m 94 0 (1 : Int32)) := uf_94_0 hV
      have li39 : (1 : Int32).toInt = 1 := rfl
      exact K ((0 : Int32)) _ (zF_u zF_rfl rfl) hV38 r_W r_GW r_GU r_OW r_DX r_GG r_HA r_RGc (show (m 94 58).toInt = 0 ∨ (m 94 10).toInt = 5 from by omega) (show ((nn.toInt < 0 ∨ 1000 < nn.toInt) ∧ (1 : Int32).toInt = 1) ∨ ((0 ≤ nn.toInt ∧ nn.toInt ≤ 1000) ∧ (1 : Int32).toInt = 3) from by omega)
theorem sp_257v {X : Nat × (Nat → Int32)} {P : Option ma_V → (Nat → Nat → Int32) → Prop} {T : Nat} {m : Nat → Nat → Int32} (nn : Int32) (hV : zV m) (hpre0 : (m 94 8).toInt = 0) (r_W : zW (m 94 7) (m 98) (m 101) (m 102) (m 108)) (r_GW : zGW T (m 94 55) (m 109)) (KZ : ∀ v m₉, zV (zov wr_257 m m₉) → ((m 94 8).toInt = 0) → (zW (m 94 7) (m 98) (m 101) (m 102) (m 108)) → (zGW T (m₉ 94 55) (m₉ 109)) → (((nn.toInt < 0 ∨ 1000 < nn.toInt) ∧ (m₉ 94 0).toInt = 1) ∨ ((0 ≤ nn.toInt ∧ nn.toInt ≤ 1000) ∧ (m₉ 94 0).toInt = 2)) → P (some (.inl v)) (zov wr_257 m m₉)) : zm X 5 109 257 0 [(0, .inr (.inr (some 94))), (1, .inl nn)] m P := by
  have K : ∀ v m₉, zF wr_257 m m₉ → zV m₉ → ((m₉ 94 8).toInt = 0) → (zW (m₉ 94 7) (m₉ 98) (m₉ 101) (m₉ 102) (m₉ 108)) → (zGW T (m₉ 94 55) (m₉ 109)) → (((nn.toInt < 0 ∨ 1000 < nn.toInt) ∧ (m₉ 94 0).toInt = 1) ∨ ((0 ≤ nn.toInt ∧ nn.toInt ≤ 1000) ∧ (m₉ 94 0).toInt = 2)) → P (some (.inl v)) m₉ := by
    intro v m₉ hf z q0 q1 q2 q3
    have e := zov_eq hf
    rw [e] at z ⊢
    try rw [e] at q0
    try rw [e] at q1
    try rw [e] at q2
    try rw [e] at q3
    exact KZ v m₉ z q0 q1 q2 q3
  refine g_257_0 nn ?_
  have f1 : 0 ≤ (m 94 8).toInt ∧ (m 94 8).toInt ≤ 1 := rs_94_8 (m := m) hV
  have b2 := i_bd nn
  have li3 : (0 : Int32).toInt = 0 := rfl
  refine zd (fun (h4 : nn < (0 : Int32)) => ?_) (fun (h4 : ¬ nn < (0 : Int32)) => ?_)
  · skip
    have g5 := i_lt h4
    have hV6 : zV (ma_u m 94 0 (1 : Int32)) := uf_94_0 hV
    have li7 : (1 : Int32).toInt = 1 := rfl
    exact K ((0 : Int32)) _ (zF_u zF_rfl rfl) hV6 (show (m 94 8).toInt = 0 from by omega) r_W r_GW (show ((nn.toInt < 0 ∨ 1000 < nn.toInt) ∧ (1 : Int32).toInt = 1) ∨ ((0 ≤ nn.toInt ∧ nn.toInt ≤ 1000) ∧ (1 : Int32).toInt = 2) from by omega)
  · skip
    have g8 := i_nlt h4
    have li9 : (1000 : Int32).toInt = 1000 := rfl
    refine zd (fun (h10 : nn ≤ (1000 : Int32)) => ?_) (fun (h10 : ¬ nn ≤ (1000 : Int32)) => ?_)
    · skip
      have g11 := i_le h10
      refine zd (fun (h12 : (m 94 8) = (0 : Int32)) => ?_) (fun (h12 : ¬ (m 94 8) = (0 : Int32)) => ?_)
      · skip
        have g13 := i_eq h12
        have hV14 : zV (ma_u m 94 0 (2 : Int32)) := uf_94_0 hV
        have li15 : (2 : Int32).toInt = 2 := rfl
        exact K ((0 : Int32)) _ (zF_u zF_rfl rfl) hV14 (show (m 94 8).toInt = 0 from by omega) r_W r_GW (show ((nn.toInt < 0 ∨ 1000 < nn.toInt) ∧ (2 : Int32).toInt = 1) ∨ ((0 ≤ nn.toInt ∧ nn.toInt ≤ 1000) ∧ (2 : Int32).toInt = 2) from by omega)
      · skip
        have g16 := i_ne h12
        have f17 : 0 ≤ (m 94 10).toInt ∧ (m 94 10).toInt ≤ 6 := rs_94_10 (m := m) hV
        have li18 : (5 : Int32).toInt = 5 := rfl
        refine zd (fun (h19 : (m 94 10) = (5 : Int32)) => ?_) (fun (h19 : ¬ (m 94 10) = (5 : Int32)) => ?_)
        · skip
          have g20 := i_eq h19
          have f21 : 0 ≤ (m 94 58).toInt ∧ (m 94 58).toInt ≤ 1 := rs_94_58 (m := m) hV
          refine zd (fun (h22 : (m 94 58) = (0 : Int32)) => ?_) (fun (h22 : ¬ (m 94 58) = (0 : Int32)) => ?_)
          · skip
            have g23 := i_eq h22
            have hV24 : zV (ma_u m 94 0 (0 : Int32)) := uf_94_0 hV
            exact K ((0 : Int32)) _ (zF_u zF_rfl rfl) hV24 (show (m 94 8).toInt = 0 from by omega) r_W r_GW (show ((nn.toInt < 0 ∨ 1000 < nn.toInt) ∧ (0 : Int32).toInt = 1) ∨ ((0 ≤ nn.toInt ∧ nn.toInt ≤ 1000) ∧ (0 : Int32).toInt = 2) from by omega)
          · skip
            have g25 := i_ne h22
            have hV26 : zV (ma_u m 94 0 (0 : Int32)) := uf_94_0 hV
            refine sp_222 (nn) hV26 r_W (show zG1 (m 94 56) (m 94 57) (m 106) from by first | (exact G1_0 (by omega) (by omega)) | (exfalso; omega; done) | (exfalso; contradiction; done)) (fun v2 m1 hV_m1 p0_m1 p1_m1 p2_m1 => zmi_n ?_)
            have p0_m1 : zG1 (m1 94 56) (m1 94 57) (m1 106) := p0_m1
            have p1_m1 : (m 94 56).toInt ≤ (m1 94 56).toInt := p1_m1
            have p2_m1 : (m 94 57).toInt ≤ (m1 94 57).toInt ∧ ((m1 94 56).toInt ≤ (m1 94 57).toInt ∨ (m 94 57).toInt + nn.toInt ≤ (m1 94 57).toInt) := p2_m1
            have f27 : 0 ≤ (m 94 56).toInt ∧ (m 94 56).toInt ≤ 3100 := rs_94_56 (m := m) hV
            have f28 : 0 ≤ (m1 94 56).toInt ∧ (m1 94 56).toInt ≤ 3100 := rs_94_56 (m := (zov wr_222 (ma_u m 94 0 (0 : Int32)) m1)) hV_m1
            have f29 : 0 ≤ (m 94 57).toInt ∧ (m 94 57).toInt ≤ 3100 := rs_94_57 (m := m) hV
            have f30 : 0 ≤ (m1 94 57).toInt ∧ (m1 94 57).toInt ≤ 3100 := rs_94_57 (m := (zov wr_222 (ma_u m 94 0 (0 : Int32)) m1)) hV_m1
            refine sp_223  hV_m1 r_W r_GW (show zGU T (m 94 46) (m 99) from by first | (exfalso; omega; done) | (exfalso; contradiction; done)) (show zOw (m 99) (m 103) (m 111) from by first | (exfalso; omega; done) | (exfalso; contradiction; done)) (show zDX (m 94 10) (m 99) (m 112) (m 113) (m 114) (m 94 55) (m 98) (m 101) (m 102) (m 108) from by first | (exfalso; omega; done) | (exfalso; contradiction; done)) p0_m1 (show (m 94 10).toInt = 5 from by omega) (show (m 94 58).toInt = 1 from by omega) (fun v4 m3 hV_m3 p0_m3 p1_m3 p2_m3 p3_m3 p4_m3 p5_m3 => zmi_n ?_)
            have p0_m3 : zGW T (m3 94 55) (m3 109) := p0_m3
            have p1_m3 : zGU T (m 94 46) (m3 99) := p1_m3
            have p2_m3 : zOw (m3 99) (m 103) (m3 111) := p2_m3
            have p3_m3 : zDX (m 94 10) (m3 99) (m 112) (m3 113) (m3 114) (m3 94 55) (m 98) (m 101) (m 102) (m 108) := p3_m3
            have p4_m3 : zGG (m3 94 58) (m3 94 56) (m1 94 57) (m3 106) := p4_m3
            have p5_m3 : (m3 94 58).toInt = 0 ∨ ((m3 94 58).toInt = 1 ∧ (m1 94 57).toInt < (m3 94 56).toInt ∧ (m1 94 57).toInt = (m1 94 57).toInt) := p5_m3
            have f31 : 0 ≤ (m3 94 58).toInt ∧ (m3 94 58).toInt ≤ 1 := rs_94_58 (m := (zov wr_223 (zov wr_222 (ma_u m 94 0 (0 : Int32)) m1) m3)) hV_m3
            have f32 : 0 ≤ (m3 94 56).toInt ∧ (m3 94 56).toInt ≤ 3100 := rs_94_56 (m := (zov wr_223 (zov wr_222 (ma_u m 94 0 (0 : Int32)) m1) m3)) hV_m3
            have b33 := i_bd v2
            exact K (v2) _ (zF_zov (zF_zov (zF_u zF_rfl rfl) ws_222_257) ws_223_257) hV_m3 (show (m 94 8).toInt = 0 from by omega) r_W p0_m3 (show ((nn.toInt < 0 ∨ 1000 < nn.toInt) ∧ (0 : Int32).toInt = 1) ∨ ((0 ≤ nn.toInt ∧ nn.toInt ≤ 1000) ∧ (0 : Int32).toInt = 2) from by omega)
        · skip
          have g34 := i_ne h19
          have hV35 : zV (ma_u m 94 0 (3 : Int32)) := uf_94_0 hV
          have li36 : (3 : Int32).toInt = 3 := rfl
          exact K ((0 : Int32)) _ (zF_u zF_rfl rfl) hV35 (show (m 94 8).toInt = 0 from by omega) r_W r_GW (show ((nn.toInt < 0 ∨ 1000 < nn.toInt) ∧ (3 : Int32).toInt = 1) ∨ ((0 ≤ nn.toInt ∧ nn.toInt ≤ 1000) ∧ (3 : Int32).toInt = 2) from by omega)
    · skip
      have g37 := i_nle h10
      have hV38 : zV (ma_u m 94 0 (1 : Int32)) := uf_94_0 hV
      have li39 : (1 : Int32).toInt = 1 := rfl
      exact K ((0 : Int32)) _ (zF_u zF_rfl rfl) hV38 (show (m 94 8).toInt = 0 from by omega) r_W r_GW (show ((nn.toInt < 0 ∨ 1000 < nn.toInt) ∧ (1 : Int32).toInt = 1) ∨ ((0 ≤ nn.toInt ∧ nn.toInt ≤ 1000) ∧ (1 : Int32).toInt = 2) from by omega)

