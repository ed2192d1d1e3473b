/-! from 95.t08 -/
/-! REGIONS, the reference (written by wip/tools/gen15t.py) -/
set_option maxHeartbeats 8000000 in
theorem sp_181rz {X : Nat × (Nat → Int32)} {P : Option ma_V → (Nat → Nat → Int32) → Prop} {T : Nat} {aa : Nat→Nat→Int32} {ro : Int32} {LL : Int64} {m : Nat → Nat → Int32} (kk : Int32) (r1 : Int32) (hV : zV m) (hpre0 : T + 1 ≤ 512) (hpre1 : T ≤ 512) (r_W : zW (m 94 7) (m 98) (m 101) (m 102) (m 108)) (r_GW : zGW T (m 94 55) (m 109)) (r_GU : zGU T (m 94 46) (m 99)) (r_OW : zOw (m 99) (m 103) (m 111)) (r_GG : zGG (m 94 58) (m 94 56) (m 94 57) (m 106)) (hpre7 : (m 94 10).toInt = 6 ∧ (m 94 58).toInt = 0) (hpre8 : (m 94 8).toInt = 1) (r_RB : qRB (m 99) (m 100) (m 98) (m 101) (m 102) (m 103) (m 107) (m 108) (m 109) (m 111) (m 112) (m 113) (m 114) (m 94 55) (m 94 46) ro 0 0 0 1 aa) (r_RV : qRv aa) (r_RL : qRL aa (m 94 18) (m 94 64) (m 94 19) (m 94 63) (m 116)) (r_MG : qMG (m 94 58) (m 106) (m 115) (m 94 57) (m 94 56) (m 99) (m 100) aa) (r_MK : aa 87 8 = (m 94 58)) (r_WTS : (m 94 45).toInt = sm (zbU (m 99)) (m 102) 3100) (r_BT1 : (0 ≤ kk.toInt ∧ kk.toInt < (m 94 7).toInt) → ∀ j : Nat, (j : Int) < ((m 97) kk.toNatClampNeg).toInt → (zbit LL (Int32.ofNat j) ≠ 0 ↔ (kk = 16 ∨ (kk < 16 ∧ (((m 98) kk.toNatClampNeg >>> (Int32.ofNat j &&& 31)) &&& 1) = 1)))) (KZ : ∀ v m₉, zV (zov wr_181 m m₉) → (zW (m 94 7) (m 98) (m₉ 101) (m₉ 102) (m₉ 108)) → (zGW (T + 1) (m₉ 94 55) (m₉ 109)) → (zGU (T + 1) (m₉ 94 46) (m₉ 99)) → (zOw (m₉ 99) (m₉ 103) (m₉ 111)) → (zGG (m₉ 94 58) (m₉ 94 56) (m₉ 94 57) (m₉ 106)) → (qRB (m₉ 99) (m₉ 100) (m 98) (m₉ 101) (m₉ 102) (m₉ 103) (m₉ 107) (m₉ 108) (m₉ 109) (m₉ 111) (m₉ 112) (m₉ 113) (m₉ 114) (m₉ 94 55) (m₉ 94 46) ro 0 0 0 1 (qIf (0 ≤ kk.toInt ∧ kk.toInt < (m 94 7).toInt ∧ zSl r1) (rMk aa kk ((m 97) kk.toNatClampNeg) LL r1) aa)) → (qMG (m₉ 94 58) (m₉ 106) (m₉ 115) (m₉ 94 57) (m₉ 94 56) (m₉ 99) (m₉ 100) (qIf (0 ≤ kk.toInt ∧ kk.toInt < (m 94 7).toInt ∧ zSl r1) (rMk aa kk ((m 97) kk.toNatClampNeg) LL r1) aa)) → ((qIf (0 ≤ kk.toInt ∧ kk.toInt < (m 94 7).toInt ∧ zSl r1) (rMk aa kk ((m 97) kk.toNatClampNeg) LL r1) aa) 87 8 = (m₉ 94 58)) → ((m₉ 94 45).toInt = sm (zbU (m₉ 99)) (m₉ 102) 3100) → ((m₉ 94 58).toInt = 0) → (qRv (qIf (0 ≤ kk.toInt ∧ kk.toInt < (m 94 7).toInt ∧ zSl r1) (rMk aa kk ((m 97) kk.toNatClampNeg) LL r1) aa)) → (qRL (qIf (0 ≤ kk.toInt ∧ kk.toInt < (m 94 7).toInt ∧ zSl r1) (rMk aa kk ((m 97) kk.toNatClampNeg) LL r1) aa) (m 94 18) (m 94 64) (m 94 19) (m₉ 94 63) (m₉ 116)) → P (some (.inl v)) (zov wr_181 m m₉)) : zm X 10 224 181 0 [(0, .inr (.inr (some 94))), (1, .inl kk), (2, .inl r1)] m P := by
  have K : ∀ v m₉, zF wr_181 m m₉ → zV m₉ → (zW (m₉ 94 7) (m₉ 98) (m₉ 101) (m₉ 102) (m₉ 108)) → (zGW (T + 1) (m₉ 94 55) (m₉ 109)) → (zGU (T + 1) (m₉ 94 46) (m₉ 99)) → (zOw (m₉ 99) (m₉ 103) (m₉ 111)) → (zGG (m₉ 94 58) (m₉ 94 56) (m₉ 94 57) (m₉ 106)) → (qRB (m₉ 99) (m₉ 100) (m₉ 98) (m₉ 101) (m₉ 102) (m₉ 103) (m₉ 107) (m₉ 108) (m₉ 109) (m₉ 111) (m₉ 112) (m₉ 113) (m₉ 114) (m₉ 94 55) (m₉ 94 46) ro 0 0 0 1 (qIf (0 ≤ kk.toInt ∧ kk.toInt < (m₉ 94 7).toInt ∧ zSl r1) (rMk aa kk ((m₉ 97) kk.toNatClampNeg) LL r1) aa)) → (qMG (m₉ 94 58) (m₉ 106) (m₉ 115) (m₉ 94 57) (m₉ 94 56) (m₉ 99) (m₉ 100) (qIf (0 ≤ kk.toInt ∧ kk.toInt < (m₉ 94 7).toInt ∧ zSl r1) (rMk aa kk ((m₉ 97) kk.toNatClampNeg) LL r1) aa)) → ((qIf (0 ≤ kk.toInt ∧ kk.toInt < (m₉ 94 7).toInt ∧ zSl r1) (rMk aa kk ((m₉ 97) kk.toNatClampNeg) LL r1) aa) 87 8 = (m₉ 94 58)) → ((m₉ 94 45).toInt = sm (zbU (m₉ 99)) (m₉ 102) 3100) → ((m₉ 94 58).toInt = 0) → (qRv (qIf (0 ≤ kk.toInt ∧ kk.toInt < (m₉ 94 7).toInt ∧ zSl r1) (rMk aa kk ((m₉ 97) kk.toNatClampNeg) LL r1) aa)) → (qRL (qIf (0 ≤ kk.toInt ∧ kk.toInt < (m₉ 94 7).toInt ∧ zSl r1) (rMk aa kk ((m₉ 97) kk.toNatClampNeg) LL r1) aa) (m₉ 94 18) (m₉ 94 64) (m₉ 94 19) (m₉ 94 63) (m₉ 116)) → P (some (.inl v)) m₉ := by
    intro v m₉ hf z q0 q1 q2 q3 q4 q5 q6 q7 q8 q9 q10 q11
    have e := zov_eq hf
    rw [e] at z ⊢
    try rw [e] at q0
    try rw [e] at q1
    try rw [e] at q2
    try rw [e] at q3
    try rw [e] at q4
    try rw [e] at q5
    try rw [e] at q6
    try rw [e] at q7
    try rw [e] at q8
    try rw [e] at q9
    try rw [e] at q10
    try rw [e] at q11
    exact KZ v m₉ z q0 q1 q2 q3 q4 q5 q6 q7 q8 q9 q10 q11
  refine g_181_0 kk r1 ?_
  have f1 : 0 ≤ (m 94 10).toInt ∧ (m 94 10).toInt ≤ 6 := rs_94_10 (m := m) hV
  have f2 : 0 ≤ (m 94 58).toInt ∧ (m 94 58).toInt ≤ 1 := rs_94_58 (m := m) hV
  have f3 : 0 ≤ (m 94 8).toInt ∧ (m 94 8).toInt ≤ 1 := rs_94_8 (m := m) hV
  have b4 := i_bd kk
  have li5 : (0 : Int32).toInt = 0 := rfl
  refine zd (fun (h6 : kk < (0 : Int32)) => ?_) (fun (h6 : ¬ kk < (0 : Int32)) => ?_)
  · skip
    have g7 := i_lt h6
    have hV8 : zV (ma_u m 94 0 (1 : Int32)) := uf_94_0 hV
    exact K ((0 : Int32)) _ (zF_u zF_rfl rfl) hV8 r_W (show zGW (T + 1) (m 94 55) (m 109) from by first | (exact GW_up r_GW (by omega)) | (exfalso; omega; done) | (exfalso; contradiction; done)) (show zGU (T + 1) (m 94 46) (m 99) from by first | (exact GU_up r_GU (by omega)) | (exact GU_0 r_GU) | (exfalso; omega; done) | (exfalso; contradiction; done)) r_OW r_GG (show qRB (m 99) (m 100) (m 98) (m 101) (m 102) (m 103) (m 107) (m 108) (m 109) (m 111) (m 112) (m 113) (m 114) (m 94 55) (m 94 46) ro 0 0 0 1 (qIf (0 ≤ kk.toInt ∧ kk.toInt < (m 94 7).toInt ∧ zSl r1) (rMk aa kk ((m 97) kk.toNatClampNeg) LL r1) aa) from by first | (rw [qIf_n (fun w => by have w1 := w.1; have w2 := w.2.1; have w3 := w.2.2.1; have w4 := w.2.2.2; omega)]; exact r_RB; done) | (exfalso; omega; done) | (exfalso; contradiction; done)) (show qMG (m 94 58) (m 106) (m 115) (m 94 57) (m 94 56) (m 99) (m 100) (qIf (0 ≤ kk.toInt ∧ kk.toInt < (m 94 7).toInt ∧ zSl r1) (rMk aa kk ((m 97) kk.toNatClampNeg) LL r1) aa) from by first | (rw [qIf_n (fun w => by have w1 := w.1; have w2 := w.2.1; have w3 := w.2.2.1; have w4 := w.2.2.2; omega)]; exact r_MG; done) | (exfalso; omega; done) | (exfalso; contradiction; done)) (show (qIf (0 ≤ kk.toInt ∧ kk.toInt < (m 94 7).toInt ∧ zSl r1) (rMk aa kk ((m 97) kk.toNatClampNeg) LL r1) aa) 87 8 = (m 94 58) from by first | (rw [qIf_n (fun w => by have w1 := w.1; have w2 := w.2.1; have w3 := w.2.2.1; have w4 := w.2.2.2; omega)]; exact r_MK; done) | (exfalso; omega; done) | (exfalso; contradiction; done)) r_WTS (show (m 94 58).toInt = 0 from by omega) (show qRv (qIf (0 ≤ kk.toInt ∧ kk.toInt < (m 94 7).toInt ∧ zSl r1) (rMk aa kk ((m 97) kk.toNatClampNeg) LL r1) aa) from by first | (rw [qIf_n (fun w => by have w1 := w.1; have w2 := w.2.1; have w3 := w.2.2.1; have w4 := w.2.2.2; omega)]; exact r_RV; done) | (exact r_RV) | (exfalso; omega; done) | (exfalso; contradiction; done)) (show qRL (qIf (0 ≤ kk.toInt ∧ kk.toInt < (m 94 7).toInt ∧ zSl r1) (rMk aa kk ((m 97) kk.toNatClampNeg) LL r1) aa) (m 94 18) (m 94 64) (m 94 19) (m 94 63) (m 116) from by first | (rw [qIf_n (fun w => by have w1 := w.1; have w2 := w.2.1; have w3 := w.2.2.1; have w4 := w.2.2.2; omega)]; exact r_RL; done) | (exact r_RL) | (exfalso; omega; done) | (exfalso; contradiction; done))
  · skip
    have g9 := i_nlt h6
    have f10 : 0 ≤ (m 94 7).toInt ∧ (m 94 7).toInt ≤ 16 := rs_94_7 (m := m) hV
    refine zd (fun (h11 : (m 94 7) ≤ kk) => ?_) (fun (h11 : ¬ (m 94 7) ≤ kk) => ?_)
    · skip
      have g12 := i_le h11
      have hV13 : zV (ma_u m 94 0 (1 : Int32)) := uf_94_0 hV
      exact K ((0 : Int32)) _ (zF_u zF_rfl rfl) hV13 r_W (show zGW (T + 1) (m 94 55) (m 109) from by first | (exact GW_up r_GW (by omega)) | (exfalso; omega; done) | (exfalso; contradiction; done)) (show zGU (T + 1) (m 94 46) (m 99) from by first | (exact GU_up r_GU (by omega)) | (exact GU_0 r_GU) | (exfalso; omega; done) | (exfalso; contradiction; done)) r_OW r_GG (show qRB (m 99) (m 100) (m 98) (m 101) (m 102) (m 103) (m 107) (m 108) (m 109) (m 111) (m 112) (m 113) (m 114) (m 94 55) (m 94 46) ro 0 0 0 1 (qIf (0 ≤ kk.toInt ∧ kk.toInt < (m 94 7).toInt ∧ zSl r1) (rMk aa kk ((m 97) kk.toNatClampNeg) LL r1) aa) from by first | (rw [qIf_n (fun w => by have w1 := w.1; have w2 := w.2.1; have w3 := w.2.2.1; have w4 := w.2.2.2; omega)]; exact r_RB; done) | (exfalso; omega; done) | (exfalso; contradiction; done)) (show qMG (m 94 58) (m 106) (m 115) (m 94 57) (m 94 56) (m 99) (m 100) (qIf (0 ≤ kk.toInt ∧ kk.toInt < (m 94 7).toInt ∧ zSl r1) (rMk aa kk ((m 97) kk.toNatClampNeg) LL r1) aa) from by first | (rw [qIf_n (fun w => by have w1 := w.1; have w2 := w.2.1; have w3 := w.2.2.1; have w4 := w.2.2.2; omega)]; exact r_MG; done) | (exfalso; omega; done) | (exfalso; contradiction; done)) (show (qIf (0 ≤ kk.toInt ∧ kk.toInt < (m 94 7).toInt ∧ zSl r1) (rMk aa kk ((m 97) kk.toNatClampNeg) LL r1) aa) 87 8 = (m 94 58) from by first | (rw [qIf_n (fun w => by have w1 := w.1; have w2 := w.2.1; have w3 := w.2.2.1; have w4 := w.2.2.2; omega)]; exact r_MK; done) | (exfalso; omega; done) | (exfalso; contradiction; done)) r_WTS (show (m 94 58).toInt = 0 from by omega) (show qRv (qIf (0 ≤ kk.toInt ∧ kk.toInt < (m 94 7).toInt ∧ zSl r1) (rMk aa kk ((m 97) kk.toNatClampNeg) LL r1) aa) from by first | (rw [qIf_n (fun w => by have w1 := w.1; have w2 := w.2.1; have w3 := w.2.2.1; have w4 := w.2.2.2; omega)]; exact r_RV; done) | (exact r_RV) | (exfalso; omega; done) | (exfalso; contradiction; done)) (show qRL (qIf (0 ≤ kk.toInt ∧ kk.toInt < (m 94 7).toInt ∧ zSl r1) (rMk aa kk ((m 97) kk.toNatClampNeg) LL r1) aa) (m 94 18) (m 94 64) (m 94 19) (m 94 63) (m 116) from by first | (rw [qIf_n (fun w => by have w1 := w.1; have w2 := w.2.1; have w3 := w.2.2.1; have w4 := w.2.2.2; omega)]; exact r_RL; done) | (exact r_RL) | (exfalso; omega; done) | (exfalso; contradiction; done))
    · skip
      have g14 := i_nle h11
      have b15 := i_bd r1
      refine zd (fun (h16 : r1 < (0 : Int32)) => ?_) (fun (h16 : ¬ r1 < (0 : Int32)) => ?_)
      · skip
        have g17 := i_lt h16
        have hV18 : zV (ma_u m 94 0 (1 : Int32)) := uf_94_0 hV
        exact K ((0 : Int32)) _ (zF_u zF_rfl rfl) hV18 r_W (show zGW (T + 1) (m 94 55) (m 109) from by first | (exact GW_up r_GW (by omega)) | (exfalso; omega; done) | (exfalso; contradiction; done)) (show zGU (T + 1) (m 94 46) (m 99) from by first | (exact GU_up r_GU (by omega)) | (exact GU_0 r_GU) | (exfalso; omega; done) | (exfalso; contradiction; done)) r_OW r_GG (show qRB (m 99) (m 100) (m 98) (m 101) (m 102) (m 103) (m 107) (m 108) (m 109) (m 111) (m 112) (m 113) (m 114) (m 94 55) (m 94 46) ro 0 0 0 1 (qIf (0 ≤ kk.toInt ∧ kk.toInt < (m 94 7).toInt ∧ zSl r1) (rMk aa kk ((m 97) kk.toNatClampNeg) LL r1) aa) from by first | (rw [qIf_n (fun w => by have w1 := w.1; have w2 := w.2.1; have w3 := w.2.2.1; have w4 := w.2.2.2; omega)]; exact r_RB; done) | (exfalso; omega; done) | (exfalso; contradiction; done)) (show qMG (m 94 58) (m 106) (m 115) (m 94 57) (m 94 56) (m 99) (m 100) (qIf (0 ≤ kk.toInt ∧ kk.toInt < (m 94 7).toInt ∧ zSl r1) (rMk aa kk ((m 97) kk.toNatClampNeg) LL r1) aa) from by first | (rw [qIf_n (fun w => by have w1 := w.1; have w2 := w.2.1; have w3 := w.2.2.1; have w4 := w.2.2.2; omega)]; exact r_MG; done) | (exfalso; omega; done) | (exfalso; contradiction; done)) (show (qIf (0 ≤ kk.toInt ∧ kk.toInt < (m 94 7).toInt ∧ zSl r1) (rMk aa kk ((m 97) kk.toNatClampNeg) LL r1) aa) 87 8 = (m 94 58) from by first | (rw [qIf_n (fun w => by have w1 := w.1; have w2 := w.2.1; have w3 := w.2.2.1; have w4 := w.2.2.2; omega)]; exact r_MK; done) | (exfalso; omega; done) | (exfalso; contradiction; done)) r_WTS (show (m 94 58).toInt = 0 from by omega) (show qRv (qIf (0 ≤ kk.toInt ∧ kk.toInt < (m 94 7).toInt ∧ zSl r1) (rMk aa kk ((m 97) kk.toNatClampNeg) LL r1) aa) from by first | (rw [qIf_n (fun w => by have w1 := w.1; have w2 := w.2.1; have w3 := w.2.2.1; have w4 := w.2.2.2; omega)]; exact r_RV; done) | (exact r_RV) | (exfalso; omega; done) | (exfalso; contradiction; done)) (show qRL (qIf (0 ≤ kk.toInt ∧ kk.toInt < (m 94 7).toInt ∧ zSl r1) (rMk aa kk ((m 97) kk.toNatClampNeg) LL r1) aa) (m 94 18) (m 94 64) (m 94 19) (m 94 63) (m 116) from by first | (rw [qIf_n (fun w => by have w1 := w.1; have w2 := w.2.1; have w3 := w.2.2.1; have w4 := w.2.2.2; omega)]; exact r_RL; done) | (exact r_RL) | (exfalso; omega; done) | (exfalso; contradiction; done))
      · skip
        have g19 := i_nlt h16
        have li20 : (16 : Int32).toInt = 16 := rfl
        refine zd (fun (h21 : (16 : Int32) ≤ r1) => ?_) (fun (h21 : ¬ (16 : Int32) ≤ r1) => ?_)
        · skip
          have g22 := i_le h21
          have hV23 : zV (ma_u m 94 0 (1 : Int32)) := uf_94_0 hV
          exact K ((0 : Int32)) _ (zF_u zF_rfl rfl) hV23 r_W (show zGW (T + 1) (m 94 55) (m 109) from by first | (exact GW_up r_GW (by omega)) | (exfalso; omega; done) | (exfalso; contradiction; done)) (show zGU (T + 1) (m 94 46) (m 99) from by first | (exact GU_up r_GU (by omega)) | (exact GU_0 r_GU) | (exfalso; omega; done) | (exfalso; contradiction; done)) r_OW r_GG (show qRB (m 99) (m 100) (m 98) (m 101) (m 102) (m 103) (m 107) (m 108) (m 109) (m 111) (m 112) (m 113) (m 114) (m 94 55) (m 94 46) ro 0 0 0 1 (qIf (0 ≤ kk.toInt ∧ kk.toInt < (m 94 7).toInt ∧ zSl r1) (rMk aa kk ((m 97) kk.toNatClampNeg) LL r1) aa) from by first | (rw [qIf_n (fun w => by have w1 := w.1; have w2 := w.2.1; have w3 := w.2.2.1; have w4 := w.2.2.2; omega)]; exact r_RB; done) | (exfalso; omega; done) | (exfalso; contradiction; done)) (show qMG (m 94 58) (m 106) (m 115) (m 94 57) (m 94 56) (m 99) (m 100) (qIf (0 ≤ kk.toInt ∧ kk.toInt < (m 94 7).toInt ∧ zSl r1) (rMk aa kk ((m 97) kk.toNatClampNeg) LL r1) aa) from by first | (rw [qIf_n (fun w => by have w1 := w.1; have w2 := w.2.1; have w3 := w.2.2.1; have w4 := w.2.2.2; omega)]; exact r_MG; done) | (exfalso; omega; done) | (exfalso; contradiction; done)) (show (qIf (0 ≤ kk.toInt ∧ kk.toInt < (m 94 7).toInt ∧ zSl r1) (rMk aa kk ((m 97) kk.toNatClampNeg) LL r1) aa) 87 8 = (m 94 58) from by first | (rw [qIf_n (fun w => by have w1 := w.1; have w2 := w.2.1; have w3 := w.2.2.1; have w4 := w.2.2.2; omega)]; exact r_MK; done) | (exfalso; omega; done) | (exfalso; contradiction; done)) r_WTS (show (m 94 58).toInt = 0 from by omega) (show qRv (qIf (0 ≤ kk.toInt ∧ kk.toInt < (m 94 7).toInt ∧ zSl r1) (rMk aa kk ((m 97) kk.toNatClampNeg) LL r1) aa) from by first | (rw [qIf_n (fun w => by have w1 := w.1; have w2 := w.2.1; have w3 := w.2.2.1; have w4 := w.2.2.2; omega)]; exact r_RV; done) | (exact r_RV) | (exfalso; omega; done) | (exfalso; contradiction; done)) (show qRL (qIf (0 ≤ kk.toInt ∧ kk.toInt < (m 94 7).toInt ∧ zSl r1) (rMk aa kk ((m 97) kk.toNatClampNeg) LL r1) aa) (m 94 18) (m 94 64) (m 94 19) (m 94 63) (m 116) from by first | (rw [qIf_n (fun w => by have w1 := w.1; have w2 := w.2.1; have w3 := w.2.2.1; have w4 := w.2.2.2; omega)]; exact r_RL; done) | (exact r_RL) | (exfalso; omega; done) | (exfalso; contradiction; done))
        · skip
          have g24 := i_nle h21
          refine zd (fun (h25 : (m 94 8) = (0 : Int32)) => ?_) (fun (h25 : ¬ (m 94 8) = (0 : Int32)) => ?_)
          · skip
            have g26 := i_eq h25
            exfalso; omega
          · skip
            have g27 := i_ne h25
            have hg28 : (0 ≤ kk ∧ kk.toNatClampNeg < 16) := i_ix (by omega) (by omega)
            refine ⟨hg28, ?_⟩
            first | have f29 : 0 ≤ (m 97 kk.toNatClampNeg).toInt ∧ (m 97 kk.toNatClampNeg).toInt ≤ 8 := ra_97 (m := m) hV (k := kk.toNatClampNeg) (i_ix (n := 16) (by omega) (by omega)).2 | have b30 := i_bd (m 97 kk.toNatClampNeg)
            have hV31 : zV (ma_u m 94 0 (0 : Int32)) := uf_94_0 hV
            refine sp_183rz (LL := LL) (kk) ((m 97 kk.toNatClampNeg)) (r1) hV31 (by omega) (by omega) (by omega) (by omega) (by omega) (by omega) (by omega) (show 16 ≤ kk.toInt ∨ kk.toInt < (m 94 7).toInt from by omega) (by omega) r_W r_GW r_GU r_OW r_GG (show (m 94 10).toInt = 6 ∧ (m 94 58).toInt = 0 from by omega) (show (m 94 8).toInt = 1 from by omega) r_RB r_RV r_RL r_MG r_MK r_WTS (show ∀ j : Nat, (j : Int) < (m 97 kk.toNatClampNeg).toInt → (zbit LL (Int32.ofNat j) ≠ 0 ↔ (kk = 16 ∨ (kk < 16 ∧ (((m 98) kk.toNatClampNeg >>> (Int32.ofNat j &&& 31)) &&& 1) = 1))) from by first | (exact r_BT1 ⟨by omega, by omega⟩) | (exfalso; omega; done) | (exfalso; contradiction; done)) (fun v2 m1 hV_m1 p0_m1 p1_m1 p2_m1 p3_m1 p4_m1 p5_m1 p6_m1 p7_m1 p8_m1 p9_m1 p10_m1 p11_m1 p12_m1 => zmi_n ?_)
            have p0_m1 : zW (m 94 7) (m 98) (m1 101) (m1 102) (m1 108) := p0_m1
            have p1_m1 : zGW (T + 1) (m1 94 55) (m1 109) := p1_m1
            have p2_m1 : zGU (T + 1) (m1 94 46) (m1 99) := p2_m1
            have p3_m1 : zOw (m1 99) (m1 103) (m1 111) := p3_m1
            have p4_m1 : zGG (m1 94 58) (m1 94 56) (m1 94 57) (m1 106) := p4_m1
            have p5_m1 : qRB (m1 99) (m1 100) (m 98) (m1 101) (m1 102) (m1 103) (m1 107) (m1 108) (m1 109) (m1 111) (m1 112) (m1 113) (m1 114) (m1 94 55) (m1 94 46) ro 0 0 0 1 (rMk aa kk (m 97 kk.toNatClampNeg) LL r1) := p5_m1
            have p6_m1 : qMG (m1 94 58) (m1 106) (m1 115) (m1 94 57) (m1 94 56) (m1 99) (m1 100) (rMk aa kk (m 97 kk.toNatClampNeg) LL r1) := p6_m1
            have p7_m1 : (rMk aa kk (m 97 kk.toNatClampNeg) LL r1) 87 8 = (m1 94 58) := p7_m1
            have p8_m1 : (m1 94 45).toInt = sm (zbU (m1 99)) (m1 102) 3100 := p8_m1
            have p9_m1 : (m1 94 58).toInt = 0 := p9_m1
            have p10_m1 : v2 = rMn aa (m 97 kk.toNatClampNeg) := p10_m1
            have p11_m1 : qRv (rMk aa kk (m 97 kk.toNatClampNeg) LL r1) := p11_m1
            have p12_m1 : qRL (rMk aa kk (m 97 kk.toNatClampNeg) LL r1) (m 94 18) (m 94 64) (m 94 19) (m1 94 63) (m1 116) := p12_m1
            have f32 : 0 ≤ (m1 94 58).toInt ∧ (m1 94 58).toInt ≤ 1 := rs_94_58 (m := (zov wr_183 (ma_u m 94 0 (0 : Int32)) m1)) hV_m1
            have b33 := i_bd v2
            exact K (v2) _ (zF_zov (zF_u zF_rfl rfl) ws_183_181) hV_m1 p0_m1 p1_m1 p2_m1 p3_m1 p4_m1 (show qRB (m1 99) (m1 100) (m 98) (m1 101) (m1 102) (m1 103) (m1 107) (m1 108) (m1 109) (m1 111) (m1 112) (m1 113) (m1 114) (m1 94 55) (m1 94 46) ro 0 0 0 1 (qIf (0 ≤ kk.toInt ∧ kk.toInt < (m 94 7).toInt ∧ zSl r1) (rMk aa kk ((m 97) kk.toNatClampNeg) LL r1) aa) from by first | (rw [qIf_y ⟨by omega, by omega, by omega, by omega⟩]; exact p5_m1; done) | (exfalso; omega; done) | (exfalso; contradiction; done)) (show qMG (m1 94 58) (m1 106) (m1 115) (m1 94 57) (m1 94 56) (m1 99) (m1 100) (qIf (0 ≤ kk.toInt ∧ kk.toInt < (m 94 7).toInt ∧ zSl r1) (rMk aa kk ((m 97) kk.toNatClampNeg) LL r1) aa) from by first | (rw [qIf_y ⟨by omega, by omega, by omega, by omega⟩]; exact p6_m1; done) | (exfalso; omega; done) | (exfalso; contradiction; done)) (show (qIf (0 ≤ kk.toInt ∧ kk.toInt < (m 94 7).toInt ∧ zSl r1) (rMk aa kk ((m 97) kk.toNatClampNeg) LL r1) aa) 87 8 = (m1 94 58) from by first | (rw [qIf_y ⟨by omega, by omega, by omega, by omega⟩]; exact p7_m1; done) | (exfalso; omega; done) | (exfalso; contradiction; done)) p8_m1 (show (m1 94 58).toInt = 0 from by omega) (show qRv (qIf (0 ≤ kk.toInt ∧ kk.toInt < (m 94 7).toInt ∧ zSl r1) (rMk aa kk ((m 97) kk.toNatClampNeg) LL r1) aa) from by first | (rw [qIf_y ⟨by omega, by omega, by omega, by omega⟩]; exact p11_m1; done) | (exact p11_m1) | (exfalso; omega; done) | (exfalso; contradiction; done)) (show qRL (qIf (0 ≤ kk.toInt ∧ kk.toInt < (m 94 7).toInt ∧ zSl r1) (rMk aa kk ((m 97) kk.toNatClampNeg) LL r1) aa) (m 94 18) (m 94 64) (m 94 19) (m1 94 63) (m1 116) from by first | (rw [qIf_y ⟨by omega, by omega, by omega, by omega⟩]; exact p12_m1; done) | (exact p12_m1) | (exfalso; omega; done) | (exfalso; contradiction; done))

/-! from 95.t09 -/
/-! REGIONS, the reference (written by wip/tools/gen15t.py) -/
set_option maxHeartbeats 8000000 in
theorem sp_243rz {X : Nat × (Nat → Int32)} {P : Option ma_V → (Nat → Nat → Int32) → Prop} {T : Nat} {aa : Nat→Nat→Int32} {ro : Int32} {m : Nat → Nat → Int32} (rf : Int32) (nn : Int32) (r1 : Int32) (hV : zV m) (hpre0 : T + 1 ≤ 512) (hpre1 : 0 ≤ rf.toInt) (hpre2 : rf.toInt ≤ 1) (hpre3 : T ≤ 512) (r_W : zW (m 94 7) (m 98) (m 101) (m 102) (m 108)) (r_GW : zGW T (m 94 55) (m 109)) (r_GU : zGU T (m 94 46) (m 99)) (r_OW : zOw (m 99) (m 103) (m 111)) (r_GG : zGG (m 94 58) (m 94 56) (m 94 57) (m 106)) (hpre9 : (m 94 10).toInt = 6 ∧ (m 94 58).toInt = 0) (hpre10 : (m 94 8).toInt = 1) (r_RB : qRB (m 99) (m 100) (m 98) (m 101) (m 102) (m 103) (m 107) (m 108) (m 109) (m 111) (m 112) (m 113) (m 114) (m 94 55) (m 94 46) ro 0 0 0 1 aa) (r_RV : qRv aa) (r_RL : qRL aa (m 94 18) (m 94 64) (m 94 19) (m 94 63) (m 116)) (r_MG : qMG (m 94 58) (m 106) (m 115) (m 94 57) (m 94 56) (m 99) (m 100) aa) (r_MK : aa 87 8 = (m 94 58)) (r_WTS : (m 94 45).toInt = sm (zbU (m 99)) (m 102) 3100) (KZ : ∀ v m₉, zV (zov wr_243 m m₉) → (zW (m 94 7) (m 98) (m₉ 101) (m₉ 102) (m₉ 108)) → (zGW (T + 1) (m₉ 94 55) (m₉ 109)) → (zGU (T + 1) (m₉ 94 46) (m₉ 99)) → (zOw (m₉ 99) (m₉ 103) (m₉ 111)) → (zGG (m₉ 94 58) (m₉ 94 56) (m₉ 94 57) (m₉ 106)) → (qRB (m₉ 99) (m₉ 100) (m 98) (m₉ 101) (m₉ 102) (m₉ 103) (m₉ 107) (m₉ 108) (m₉ 109) (m₉ 111) (m₉ 112) (m₉ 113) (m₉ 114) (m₉ 94 55) (m₉ 94 46) ro 0 0 0 1 (qIf (0 ≤ nn.toInt ∧ nn.toInt ≤ 60 ∧ zSl r1) (if rf = 0 then rMk aa 17 nn 0 r1 else rMk aa 16 nn (-1) r1) aa)) → (qMG (m₉ 94 58) (m₉ 106) (m₉ 115) (m₉ 94 57) (m₉ 94 56) (m₉ 99) (m₉ 100) (qIf (0 ≤ nn.toInt ∧ nn.toInt ≤ 60 ∧ zSl r1) (if rf = 0 then rMk aa 17 nn 0 r1 else rMk aa 16 nn (-1) r1) aa)) → ((qIf (0 ≤ nn.toInt ∧ nn.toInt ≤ 60 ∧ zSl r1) (if rf = 0 then rMk aa 17 nn 0 r1 else rMk aa 16 nn (-1) r1) aa) 87 8 = (m₉ 94 58)) → ((m₉ 94 45).toInt = sm (zbU (m₉ 99)) (m₉ 102) 3100) → ((m₉ 94 58).toInt = 0) → (qRv (qIf (0 ≤ nn.toInt ∧ nn.toInt ≤ 60 ∧ zSl r1) (if rf = 0 then rMk aa 17 nn 0 r1 else rMk aa 16 nn (-1) r1) aa)) → (qRL (qIf (0 ≤ nn.toInt ∧ nn.toInt ≤ 60 ∧ zSl r1) (if rf = 0 then rMk aa 17 nn 0 r1 else rMk aa 16 nn (-1) r1) aa) (m 94 18) (m 94 64) (m 94 19) (m₉ 94 63) (m₉ 116)) → P (some (.inl v)) (zov wr_243 m m₉)) : zm X 10 224 243 0 [(0, .inr (.inr (some 94))), (1, .inl rf), (2, .inl nn), (3, .inl r1)] m P := by
  have K : ∀ v m₉, zF wr_243 m m₉ → zV m₉ → (zW (m₉ 94 7) (m₉ 98) (m₉ 101) (m₉ 102) (m₉ 108)) → (zGW (T + 1) (m₉ 94 55) (m₉ 109)) → (zGU (T + 1) (m₉ 94 46) (m₉ 99)) → (zOw (m₉ 99) (m₉ 103) (m₉ 111)) → (zGG (m₉ 94 58) (m₉ 94 56) (m₉ 94 57) (m₉ 106)) → (qRB (m₉ 99) (m₉ 100) (m₉ 98) (m₉ 101) (m₉ 102) (m₉ 103) (m₉ 107) (m₉ 108) (m₉ 109) (m₉ 111) (m₉ 112) (m₉ 113) (m₉ 114) (m₉ 94 55) (m₉ 94 46) ro 0 0 0 1 (qIf (0 ≤ nn.toInt ∧ nn.toInt ≤ 60 ∧ zSl r1) (if rf = 0 then rMk aa 17 nn 0 r1 else rMk aa 16 nn (-1) r1) aa)) → (qMG (m₉ 94 58) (m₉ 106) (m₉ 115) (m₉ 94 57) (m₉ 94 56) (m₉ 99) (m₉ 100) (qIf (0 ≤ nn.toInt ∧ nn.toInt ≤ 60 ∧ zSl r1) (if rf = 0 then rMk aa 17 nn 0 r1 else rMk aa 16 nn (-1) r1) aa)) → ((qIf (0 ≤ nn.toInt ∧ nn.toInt ≤ 60 ∧ zSl r1) (if rf = 0 then rMk aa 17 nn 0 r1 else rMk aa 16 nn (-1) r1) aa) 87 8 = (m₉ 94 58)) → ((m₉ 94 45).toInt = sm (zbU (m₉ 99)) (m₉ 102) 3100) → ((m₉ 94 58).toInt = 0) → (qRv (qIf (0 ≤ nn.toInt ∧ nn.toInt ≤ 60 ∧ zSl r1) (if rf = 0 then rMk aa 17 nn 0 r1 else rMk aa 16 nn (-1) r1) aa)) → (qRL (qIf (0 ≤ nn.toInt ∧ nn.toInt ≤ 60 ∧ zSl r1) (if rf = 0 then rMk aa 17 nn 0 r1 else rMk aa 16 nn (-1) r1) aa) (m₉ 94 18) (m₉ 94 64) (m₉ 94 19) (m₉ 94 63) (m₉ 116)) → P (some (.inl v)) m₉ := by
    intro v m₉ hf z q0 q1 q2 q3 q4 q5 q6 q7 q8 q9 q10 q11
    have e := zov_eq hf
    rw [e] at z ⊢
    try rw [e] at q0
    try rw [e] at q1
    try rw [e] at q2
    try rw [e] at q3
    try rw [e] at q4
    try rw [e] at q5
    try rw [e] at q6
    try rw [e] at q7
    try rw [e] at q8
    try rw [e] at q9
    try rw [e] at q10
    try rw [e] at q11
    exact KZ v m₉ z q0 q1 q2 q3 q4 q5 q6 q7 q8 q9 q10 q11
  refine g_243_0 rf nn r1 ?_
  have f1 : 0 ≤ (m 94 10).toInt ∧ (m 94 10).toInt ≤ 6 := rs_94_10 (m := m) hV
  have f2 : 0 ≤ (m 94 58).toInt ∧ (m 94 58).toInt ≤ 1 := rs_94_58 (m := m) hV
  have f3 : 0 ≤ (m 94 8).toInt ∧ (m 94 8).toInt ≤ 1 := rs_94_8 (m := m) hV
  have b4 := i_bd nn
  have li5 : (0 : Int32).toInt = 0 := rfl
  refine zd (fun (h6 : nn < (0 : Int32)) => ?_) (fun (h6 : ¬ nn < (0 : Int32)) => ?_)
  · skip
    have g7 := i_lt h6
    have hV8 : zV (ma_u m 94 0 (1 : Int32)) := uf_94_0 hV
    exact K ((0 : Int32)) _ (zF_u zF_rfl rfl) hV8 r_W (show zGW (T + 1) (m 94 55) (m 109) from by first | (exact GW_up r_GW (by omega)) | (exfalso; omega; done) | (exfalso; contradiction; done)) (show zGU (T + 1) (m 94 46) (m 99) from by first | (exact GU_up r_GU (by omega)) | (exact GU_0 r_GU) | (exfalso; omega; done) | (exfalso; contradiction; done)) r_OW r_GG (show qRB (m 99) (m 100) (m 98) (m 101) (m 102) (m 103) (m 107) (m 108) (m 109) (m 111) (m 112) (m 113) (m 114) (m 94 55) (m 94 46) ro 0 0 0 1 (qIf (0 ≤ nn.toInt ∧ nn.toInt ≤ 60 ∧ zSl r1) (if rf = 0 then rMk aa 17 nn 0 r1 else rMk aa 16 nn (-1) r1) aa) from by first | (rw [qIf_n (fun w => by have w1 := w.1; have w2 := w.2.1; have w3 := w.2.2.1; have w4 := w.2.2.2; omega)]; exact r_RB; done) | (exfalso; omega; done) | (exfalso; contradiction; done)) (show qMG (m 94 58) (m 106) (m 115) (m 94 57) (m 94 56) (m 99) (m 100) (qIf (0 ≤ nn.toInt ∧ nn.toInt ≤ 60 ∧ zSl r1) (if rf = 0 then rMk aa 17 nn 0 r1 else rMk aa 16 nn (-1) r1) aa) from by first | (rw [qIf_n (fun w => by have w1 := w.1; have w2 := w.2.1; have w3 := w.2.2.1; have w4 := w.2.2.2; omega)]; exact r_MG; done) | (exfalso; omega; done) | (exfalso; contradiction; done)) (show (qIf (0 ≤ nn.toInt ∧ nn.toInt ≤ 60 ∧ zSl r1) (if rf = 0 then rMk aa 17 nn 0 r1 else rMk aa 16 nn (-1) r1) aa) 87 8 = (m 94 58) from by first | (rw [qIf_n (fun w => by have w1 := w.1; have w2 := w.2.1; have w3 := w.2.2.1; have w4 := w.2.2.2; omega)]; exact r_MK; done) | (exfalso; omega; done) | (exfalso; contradiction; done)) r_WTS (show (m 94 58).toInt = 0 from by omega) (show qRv (qIf (0 ≤ nn.toInt ∧ nn.toInt ≤ 60 ∧ zSl r1) (if rf = 0 then rMk aa 17 nn 0 r1 else rMk aa 16 nn (-1) r1) aa) from by first | (rw [qIf_n (fun w => by have w1 := w.1; have w2 := w.2.1; have w3 := w.2.2.1; have w4 := w.2.2.2; omega)]; exact r_RV; done) | (exact r_RV) | (exfalso; omega; done) | (exfalso; contradiction; done)) (show qRL (qIf (0 ≤ nn.toInt ∧ nn.toInt ≤ 60 ∧ zSl r1) (if rf = 0 then rMk aa 17 nn 0 r1 else rMk aa 16 nn (-1) r1) aa) (m 94 18) (m 94 64) (m 94 19) (m 94 63) (m 116) from by first | (rw [qIf_n (fun w => by have w1 := w.1; have w2 := w.2.1; have w3 := w.2.2.1; have w4 := w.2.2.2; omega)]; exact r_RL; done) | (exact r_RL) | (exfalso; omega; done) | (exfalso; contradiction; done))
  · skip
    have g9 := i_nlt h6
    have li10 : (60 : Int32).toInt = 60 := rfl
    refine zd (fun (h11 : (60 : Int32) < nn) => ?_) (fun (h11 : ¬ (60 : Int32) < nn) => ?_)
    · skip
      have g12 := i_lt h11
      have hV13 : zV (ma_u m 94 0 (1 : Int32)) := uf_94_0 hV
      exact K ((0 : Int32)) _ (zF_u zF_rfl rfl) hV13 r_W (show zGW (T + 1) (m 94 55) (m 109) from by first | (exact GW_up r_GW (by omega)) | (exfalso; omega; done) | (exfalso; contradiction; done)) (show zGU (T + 1) (m 94 46) (m 99) from by first | (exact GU_up r_GU (by omega)) | (exact GU_0 r_GU) | (exfalso; omega; done) | (exfalso; contradiction; done)) r_OW r_GG (show qRB (m 99) (m 100) (m 98) (m 101) (m 102) (m 103) (m 107) (m 108) (m 109) (m 111) (m 112) (m 113) (m 114) (m 94 55) (m 94 46) ro 0 0 0 1 (qIf (0 ≤ nn.toInt ∧ nn.toInt ≤ 60 ∧ zSl r1) (if rf = 0 then rMk aa 17 nn 0 r1 else rMk aa 16 nn (-1) r1) aa) from by first | (rw [qIf_n (fun w => by have w1 := w.1; have w2 := w.2.1; have w3 := w.2.2.1; have w4 := w.2.2.2; omega)]; exact r_RB; done) | (exfalso; omega; done) | (exfalso; contradiction; done)) (show qMG (m 94 58) (m 106) (m 115) (m 94 57) (m 94 56) (m 99) (m 100) (qIf (0 ≤ nn.toInt ∧ nn.toInt ≤ 60 ∧ zSl r1) (if rf = 0 then rMk aa 17 nn 0 r1 else rMk aa 16 nn (-1) r1) aa) from by first | (rw [qIf_n (fun w => by have w1 := w.1; have w2 := w.2.1; have w3 := w.2.2.1; have w4 := w.2.2.2; omega)]; exact r_MG; done) | (exfalso; omega; done) | (exfalso; contradiction; done)) (show (qIf (0 ≤ nn.toInt ∧ nn.toInt ≤ 60 ∧ zSl r1) (if rf = 0 then rMk aa 17 nn 0 r1 else rMk aa 16 nn (-1) r1) aa) 87 8 = (m 94 58) from by first | (rw [qIf_n (fun w => by have w1 := w.1; have w2 := w.2.1; have w3 := w.2.2.1; have w4 := w.2.2.2; omega)]; exact r_MK; done) | (exfalso; omega; done) | (exfalso; contradiction; done)) r_WTS (show (m 94 58).toInt = 0 from by omega) (show qRv (qIf (0 ≤ nn.toInt ∧ nn.toInt ≤ 60 ∧ zSl r1) (if rf = 0 then rMk aa 17 nn 0 r1 else rMk aa 16 nn (-1) r1) aa) from by first | (rw [qIf_n (fun w => by have w1 := w.1; have w2 := w.2.1; have w3 := w.2.2.1; have w4 := w.2.2.2; omega)]; exact r_RV; done) | (exact r_RV) | (exfalso; omega; done) | (exfalso; contradiction; done)) (show qRL (qIf (0 ≤ nn.toInt ∧ nn.toInt ≤ 60 ∧ zSl r1) (if rf = 0 then rMk aa 17 nn 0 r1 else rMk aa 16 nn (-1) r1) aa) (m 94 18) (m 94 64) (m 94 19) (m 94 63) (m 116) from by first | (rw [qIf_n (fun w => by have w1 := w.1; have w2 := w.2.1; have w3 := w.2.2.1; have w4 := w.2.2.2; omega)]; exact r_RL; done) | (exact r_RL) | (exfalso; omega; done) | (exfalso; contradiction; done))
    · skip
      have g14 := i_nlt h11
      have b15 := i_bd r1
      refine zd (fun (h16 : r1 < (0 : Int32)) => ?_) (fun (h16 : ¬ r1 < (0 : Int32)) => ?_)
      · skip
        have g17 := i_lt h16
        have hV18 : zV (ma_u m 94 0 (1 : Int32)) := uf_94_0 hV
        exact K ((0 : Int32)) _ (zF_u zF_rfl rfl) hV18 r_W (show zGW (T + 1) (m 94 55) (m 109) from by first | (exact GW_up r_GW (by omega)) | (exfalso; omega; done) | (exfalso; contradiction; done)) (show zGU (T + 1) (m 94 46) (m 99) from by first | (exact GU_up r_GU (by omega)) | (exact GU_0 r_GU) | (exfalso; omega; done) | (exfalso; contradiction; done)) r_OW r_GG (show qRB (m 99) (m 100) (m 98) (m 101) (m 102) (m 103) (m 107) (m 108) (m 109) (m 111) (m 112) (m 113) (m 114) (m 94 55) (m 94 46) ro 0 0 0 1 (qIf (0 ≤ nn.toInt ∧ nn.toInt ≤ 60 ∧ zSl r1) (if rf = 0 then rMk aa 17 nn 0 r1 else rMk aa 16 nn (-1) r1) aa) from by first | (rw [qIf_n (fun w => by have w1 := w.1; have w2 := w.2.1; have w3 := w.2.2.1; have w4 := w.2.2.2; omega)]; exact r_RB; done) | (exfalso; omega; done) | (exfalso; contradiction; done)) (show qMG (m 94 58) (m 106) (m 115) (m 94 57) (m 94 56) (m 99) (m 100) (qIf (0 ≤ nn.toInt ∧ nn.toInt ≤ 60 ∧ zSl r1) (if rf = 0 then rMk aa 17 nn 0 r1 else rMk aa 16 nn (-1) r1) aa) from by first | (rw [qIf_n (fun w => by have w1 := w.1; have w2 := w.2.1; have w3 := w.2.2.1; have w4 := w.2.2.2; omega)]; exact r_MG; done) | (exfalso; omega; done) | (exfalso; contradiction; done)) (show (qIf (0 ≤ nn.toInt ∧ nn.toInt ≤ 60 ∧ zSl r1) (if rf = 0 then rMk aa 17 nn 0 r1 else rMk aa 16 nn (-1) r1) aa) 87 8 = (m 94 58) from by first | (rw [qIf_n (fun w => by have w1 := w.1; have w2 := w.2.1; have w3 := w.2.2.1; have w4 := w.2.2.2; omega)]; exact r_MK; done) | (exfalso; omega; done) | (exfalso; contradiction; done)) r_WTS (show (m 94 58).toInt = 0 from by omega) (show qRv (qIf (0 ≤ nn.toInt ∧ nn.toInt ≤ 60 ∧ zSl r1) (if rf = 0 then rMk aa 17 nn 0 r1 else rMk aa 16 nn (-1) r1) aa) from by first | (rw [qIf_n (fun w => by have w1 := w.1; have w2 := w.2.1; have w3 := w.2.2.1; have w4 := w.2.2.2; omega)]; exact r_RV; done) | (exact r_RV) | (exfalso; omega; done) | (exfalso; contradiction; done)) (show qRL (qIf (0 ≤ nn.toInt ∧ nn.toInt ≤ 60 ∧ zSl r1) (if rf = 0 then rMk aa 17 nn 0 r1 else rMk aa 16 nn (-1) r1) aa) (m 94 18) (m 94 64) (m 94 19) (m 94 63) (m 116) from by first | (rw [qIf_n (fun w => by have w1 := w.1; have w2 := w.2.1; have w3 := w.2.2.1; have w4 := w.2.2.2; omega)]; exact r_RL; done) | (exact r_RL) | (exfalso; omega; done) | (exfalso; contradiction; done))
      · skip
        have g19 := i_nlt h16
        have li20 : (16 : Int32).toInt = 16 := rfl
        refine zd (fun (h21 : (16 : Int32) ≤ r1) => ?_) (fun (h21 : ¬ (16 : Int32) ≤ r1) => ?_)
        · skip
          have g22 := i_le h21
          have hV23 : zV (ma_u m 94 0 (1 : Int32)) := uf_94_0 hV
          exact K ((0 : Int32)) _ (zF_u zF_rfl rfl) hV23 r_W (show zGW (T + 1) (m 94 55) (m 109) from by first | (exact GW_up r_GW (by omega)) | (exfalso; omega; done) | (exfalso; contradiction; done)) (show zGU (T + 1) (m 94 46) (m 99) from by first | (exact GU_up r_GU (by omega)) | (exact GU_0 r_GU) | (exfalso; omega; done) | (exfalso; contradiction; done)) r_OW r_GG (show qRB (m 99) (m 100) (m 98) (m 101) (m 102) (m 103) (m 107) (m 108) (m 109) (m 111) (m 112) (m 113) (m 114) (m 94 55) (m 94 46) ro 0 0 0 1 (qIf (0 ≤ nn.toInt ∧ nn.toInt ≤ 60 ∧ zSl r1) (if rf = 0 then rMk aa 17 nn 0 r1 else rMk aa 16 nn (-1) r1) aa) from by first | (rw [qIf_n (fun w => by have w1 := w.1; have w2 := w.2.1; have w3 := w.2.2.1; have w4 := w.2.2.2; omega)]; exact r_RB; done) | (exfalso; omega; done) | (exfalso; contradiction; done)) (show qMG (m 94 58) (m 106) (m 115) (m 94 57) (m 94 56) (m 99) (m 100) (qIf (0 ≤ nn.toInt ∧ nn.toInt ≤ 60 ∧ zSl r1) (if rf = 0 then rMk aa 17 nn 0 r1 else rMk aa 16 nn (-1) r1) aa) from by first | (rw [qIf_n (fun w => by have w1 := w.1; have w2 := w.2.1; have w3 := w.2.2.1; have w4 := w.2.2.2; omega)]; exact r_MG; done) | (exfalso; omega; done) | (exfalso; contradiction; done)) (show (qIf (0 ≤ nn.toInt ∧ nn.toInt ≤ 60 ∧ zSl r1) (if rf = 0 then rMk aa 17 nn 0 r1 else rMk aa 16 nn (-1) r1) aa) 87 8 = (m 94 58) from by first | (rw [qIf_n (fun w => by have w1 := w.1; have w2 := w.2.1; have w3 := w.2.2.1; have w4 := w.2.2.2; omega)]; exact r_MK; done) | (exfalso; omega; done) | (exfalso; contradiction; done)) r_WTS (show (m 94 58).toInt = 0 from by omega) (show qRv (qIf (0 ≤ nn.toInt ∧ nn.toInt ≤ 60 ∧ zSl r1) (if rf = 0 then rMk aa 17 nn 0 r1 else rMk aa 16 nn (-1) r1) aa) from by first | (rw [qIf_n (fun w => by have w1 := w.1; have w2 := w.2.1; have w3 := w.2.2.1; have w4 := w.2.2.2; omega)]; exact r_RV; done) | (exact r_RV) | (exfalso; omega; done) | (exfalso; contradiction; done)) (show qRL (qIf (0 ≤ nn.toInt ∧ nn.toInt ≤ 60 ∧ zSl r1) (if rf = 0 then rMk aa 17 nn 0 r1 else rMk aa 16 nn (-1) r1) aa) (m 94 18) (m 94 64) (m 94 19) (m 94 63) (m 116) from by first | (rw [qIf_n (fun w => by have w1 := w.1; have w2 := w.2.1; have w3 := w.2.2.1; have w4 := w.2.2.2; omega)]; exact r_RL; done) | (exact r_RL) | (exfalso; omega; done) | (exfalso; contradiction; done))
        · skip
          have g24 := i_nle h21
          refine zd (fun (h25 : (m 94 8) = (0 : Int32)) => ?_) (fun (h25 : ¬ (m 94 8) = (0 : Int32)) => ?_)
          · skip
            have g26 := i_eq h25
            exfalso; omega
          · skip
            have g27 := i_ne h25
            have b28 := i_bd rf
            refine zd (fun (h29 : rf = (0 : Int32)) => ?_) (fun (h29 : ¬ rf = (0 : Int32)) => ?_)
            · skip
              have g30 := i_eq h29
              have li31 : (17 : Int32).toInt = 17 := rfl
              have hV32 : zV (ma_u m 94 0 (0 : Int32)) := uf_94_0 hV
              have f33 : 0 ≤ (m 94 7).toInt ∧ (m 94 7).toInt ≤ 16 := rs_94_7 (m := m) hV
              refine sp_183rz (LL := (0 : Int64)) ((17 : Int32)) (nn) (r1) hV32 (by omega) (by omega) (by omega) (by omega) (by omega) (by omega) (by omega) (show 16 ≤ (17 : Int32).toInt ∨ (17 : Int32).toInt < (m 94 7).toInt from by omega) (by omega) r_W r_GW r_GU r_OW r_GG (show (m 94 10).toInt = 6 ∧ (m 94 58).toInt = 0 from by omega) (show (m 94 8).toInt = 1 from by omega) r_RB r_RV r_RL r_MG r_MK r_WTS (show ∀ j : Nat, (j : Int) < nn.toInt → (zbit (0 : Int64) (Int32.ofNat j) ≠ 0 ↔ ((17 : Int32) = 16 ∨ ((17 : Int32) < 16 ∧ (((m 98) (17 : Int32).toNatClampNeg >>> (Int32.ofNat j &&& 31)) &&& 1) = 1))) from by first | (exact fun j hj => ⟨fun _ => Or.inl rfl, fun _ => zb_all j (by omega)⟩) | (exact fun j hj => ⟨fun w => absurd (zb_non j (by omega)) w, fun w => w.elim (fun z => absurd z (by decide)) (fun z => absurd z.1 (by decide))⟩) | (exfalso; omega; done) | (exfalso; contradiction; done)) (fun v2 m1 hV_m1 p0_m1 p1_m1 p2_m1 p3_m1 p4_m1 p5_m1 p6_m1 p7_m1 p8_m1 p9_m1 p10_m1 p11_m1 p12_m1 => zmi_n ?_)
              have p0_m1 : zW (m 94 7) (m 98) (m1 101) (m1 102) (m1 108) := p0_m1
              have p1_m1 : zGW (T + 1) (m1 94 55) (m1 109) := p1_m1
              have p2_m1 : zGU (T + 1) (m1 94 46) (m1 99) := p2_m1
              have p3_m1 : zOw (m1 99) (m1 103) (m1 111) := p3_m1
              have p4_m1 : zGG (m1 94 58) (m1 94 56) (m1 94 57) (m1 106) := p4_m1
              have p5_m1 : qRB (m1 99) (m1 100) (m 98) (m1 101) (m1 102) (m1 103) (m1 107) (m1 108) (m1 109) (m1 111) (m1 112) (m1 113) (m1 114) (m1 94 55) (m1 94 46) ro 0 0 0 1 (rMk aa (17 : Int32) nn (0 : Int64) r1) := p5_m1
              have p6_m1 : qMG (m1 94 58) (m1 106) (m1 115) (m1 94 57) (m1 94 56) (m1 99) (m1 100) (rMk aa (17 : Int32) nn (0 : Int64) r1) := p6_m1
              have p7_m1 : (rMk aa (17 : Int32) nn (0 : Int64) r1) 87 8 = (m1 94 58) := p7_m1
              have p8_m1 : (m1 94 45).toInt = sm (zbU (m1 99)) (m1 102) 3100 := p8_m1
              have p9_m1 : (m1 94 58).toInt = 0 := p9_m1
              have p10_m1 : v2 = rMn aa nn := p10_m1
              have p11_m1 : qRv (rMk aa (17 : Int32) nn (0 : Int64) r1) := p11_m1
              have p12_m1 : qRL (rMk aa (17 : Int32) nn (0 : Int64) r1) (m 94 18) (m 94 64) (m 94 19) (m1 94 63) (m1 116) := p12_m1
              have f34 : 0 ≤ (m1 94 58).toInt ∧ (m1 94 58).toInt ≤ 1 := rs_94_58 (m := (zov wr_183 (ma_u m 94 0 (0 : Int32)) m1)) hV_m1
              have b35 := i_bd v2
              exact K (v2) _ (zF_zov (zF_u zF_rfl rfl) ws_183_243) hV_m1 p0_m1 p1_m1 p2_m1 p3_m1 p4_m1 (show qRB (m1 99) (m1 100) (m 98) (m1 101) (m1 102) (m1 103) (m1 107) (m1 108) (m1 109) (m1 111) (m1 112) (m1 113) (m1 114) (m1 94 55) (m1 94 46) ro 0 0 0 1 (qIf (0 ≤ nn.toInt ∧ nn.toInt ≤ 60 ∧ zSl r1) (if rf = 0 then rMk aa 17 nn 0 r1 else rMk aa 16 nn (-1) r1) aa) from by first | (rw [qIf_y ⟨by omega, by omega, by omega, by omega⟩, if_pos (i_zer (by omega))]; exact p5_m1; done) | (exfalso; omega; done) | (exfalso; contradiction; done)) (show qMG (m1 94 58) (m1 106) (m1 115) (m1 94 57) (m1 94 56) (m1 99) (m1 100) (qIf (0 ≤ nn.toInt ∧ nn.toInt ≤ 60 ∧ zSl r1) (if rf = 0 then rMk aa 17 nn 0 r1 else rMk aa 16 nn (-1) r1) aa) from by first | (rw [qIf_y ⟨by omega, by omega, by omega, by omega⟩, if_pos (i_zer (by omega))]; exact p6_m1; done) | (exfalso; omega; done) | (exfalso; contradiction; done)) (show (qIf (0 ≤ nn.toInt ∧ nn.toInt ≤ 60 ∧ zSl r1) (if rf = 0 then rMk aa 17 nn 0 r1 else rMk aa 16 nn (-1) r1) aa) 87 8 = (m1 94 58) from by first | (rw [qIf_y ⟨by omega, by omega, by omega, by omega⟩, if_pos (i_zer (by omega))]; exact p7_m1; done) | (exfalso; omega; done) | (exfalso; contradiction; done)) p8_m1 (show (m1 94 58).toInt = 0 from by omega) (show qRv (qIf (0 ≤ nn.toInt ∧ nn.toInt ≤ 60 ∧ zSl r1) (if rf = 0 then rMk aa 17 nn 0 r1 else rMk aa 16 nn (-1) r1) aa) from by first | (rw [qIf_y ⟨by omega, by omega, by omega, by omega⟩, if_pos (i_zer (by omega))]; exact p11_m1; done) | (exact p11_m1) | (exfalso; omega; done) | (exfalso; contradiction; done)) (show qRL (qIf (0 ≤ nn.toInt ∧ nn.toInt ≤ 60 ∧ zSl r1) (if rf = 0 then rMk aa 17 nn 0 r1 else rMk aa 16 nn (-1) r1) aa) (m 94 18) (m 94 64) (m 94 19) (m1 94 63) (m1 116) from by first | (rw [qIf_y ⟨by omega, by omega, by omega, by omega⟩, if_pos (i_zer (by omega))]; exact p12_m1; done) | (exact p12_m1) | (exfalso; omega; done) | (exfalso; contradiction; done))
            · skip
              have g36 := i_ne h29
              have hV37 : zV (ma_u m 94 0 (0 : Int32)) := uf_94_0 hV
              have f38 : 0 ≤ (m 94 7).toInt ∧ (m 94 7).toInt ≤ 16 := rs_94_7 (m := m) hV
              refine sp_183rz (LL := (-1 : Int64)) ((16 : Int32)) (nn) (r1) hV37 (by omega) (by omega) (by omega) (by omega) (by omega) (by omega) (by omega) (show 16 ≤ (16 : Int32).toInt ∨ (16 : Int32).toInt < (m 94 7).toInt from by omega) (by omega) r_W r_GW r_GU r_OW r_GG (show (m 94 10).toInt = 6 ∧ (m 94 58).toInt = 0 from by omega) (show (m 94 8).toInt = 1 from by omega) r_RB r_RV r_RL r_MG r_MK r_WTS (show ∀ j : Nat, (j : Int) < nn.toInt → (zbit (-1 : Int64) (Int32.ofNat j) ≠ 0 ↔ ((16 : Int32) = 16 ∨ ((16 : Int32) < 16 ∧ (((m 98) (16 : Int32).toNatClampNeg >>> (Int32.ofNat j &&& 31)) &&& 1) = 1))) from by first | (exact fun j hj => ⟨fun _ => Or.inl rfl, fun _ => zb_all j (by omega)⟩) | (exact fun j hj => ⟨fun w => absurd (zb_non j (by omega)) w, fun w => w.elim (fun z => absurd z (by decide)) (fun z => absurd z.1 (by decide))⟩) | (exfalso; omega; done) | (exfalso; contradiction; done)) (fun v4 m3 hV_m3 p0_m3 p1_m3 p2_m3 p3_m3 p4_m3 p5_m3 p6_m3 p7_m3 p8_m3 p9_m3 p10_m3 p11_m3 p12_m3 => zmi_n ?_)
              have p0_m3 : zW (m 94 7) (m 98) (m3 101) (m3 102) (m3 108) := p0_m3
              have p1_m3 : zGW (T + 1) (m3 94 55) (m3 109) := p1_m3
              have p2_m3 : zGU (T + 1) (m3 94 46) (m3 99) := p2_m3
              have p3_m3 : zOw (m3 99) (m3 103) (m3 111) := p3_m3
              have p4_m3 : zGG (m3 94 58) (m3 94 56) (m3 94 57) (m3 106) := p4_m3
              have p5_m3 : qRB (m3 99) (m3 100) (m 98) (m3 101) (m3 102) (m3 103) (m3 107) (m3 108) (m3 109) (m3 111) (m3 112) (m3 113) (m3 114) (m3 94 55) (m3 94 46) ro 0 0 0 1 (rMk aa (16 : Int32) nn (-1 : Int64) r1) := p5_m3
              have p6_m3 : qMG (m3 94 58) (m3 106) (m3 115) (m3 94 57) (m3 94 56) (m3 99) (m3 100) (rMk aa (16 : Int32) nn (-1 : Int64) r1) := p6_m3
              have p7_m3 : (rMk aa (16 : Int32) nn (-1 : Int64) r1) 87 8 = (m3 94 58) := p7_m3
              have p8_m3 : (m3 94 45).toInt = sm (zbU (m3 99)) (m3 102) 3100 := p8_m3
              have p9_m3 : (m3 94 58).toInt = 0 := p9_m3
              have p10_m3 : v4 = rMn aa nn := p10_m3
              have p11_m3 : qRv (rMk aa (16 : Int32) nn (-1 : Int64) r1) := p11_m3
              have p12_m3 : qRL (rMk aa (16 : Int32) nn (-1 : Int64) r1) (m 94 18) (m 94 64) (m 94 19) (m3 94 63) (m3 116) := p12_m3
              have f39 : 0 ≤ (m3 94 58).toInt ∧ (m3 94 58).toInt ≤ 1 := rs_94_58 (m := (zov wr_183 (ma_u m 94 0 (0 : Int32)) m3)) hV_m3
              have b40 := i_bd v4
              exact K (v4) _ (zF_zov (zF_u zF_rfl rfl) ws_183_243) hV_m3 p0_m3 p1_m3 p2_m3 p3_m3 p4_m3 (show qRB (m3 99) (m3 100) (m 98) (m3 101) (m3 102) (m3 103) (m3 107) (m3 108) (m3 109) (m3 111) (m3 112) (m3 113) (m3 114) (m3 94 55) (m3 94 46) ro 0 0 0 1 (qIf (0 ≤ nn.toInt ∧ nn.toInt ≤ 60 ∧ zSl r1) (if rf = 0 then rMk aa 17 nn 0 r1 else rMk aa 16 nn (-1) r1) aa) from by first | (rw [qIf_y ⟨by omega, by omega, by omega, by omega⟩, if_neg (i_nz2 (by omega))]; exact p5_m3; done) | (exfalso; omega; done) | (exfalso; contradiction; done)) (show qMG (m3 94 58) (m3 106) (m3 115) (m3 94 57) (m3 94 56) (m3 99) (m3 100) (qIf (0 ≤ nn.toInt ∧ nn.toInt ≤ 60 ∧ zSl r1) (if rf = 0 then rMk aa 17 nn 0 r1 else rMk aa 16 nn (-1) r1) aa) from by first | (rw [qIf_y ⟨by omega, by omega, by omega, by omega⟩, if_neg (i_nz2 (by omega))]; exact p6_m3; done) | (exfalso; omega; done) | (exfalso; contradiction; done)) (show (qIf (0 ≤ nn.toInt ∧ nn.toInt ≤ 60 ∧ zSl r1) (if rf = 0 then rMk aa 17 nn 0 r1 else rMk aa 16 nn (-1) r1) aa) 87 8 = (m3 94 58) from by first | (rw [qIf_y ⟨by omega, by omega, by omega, by omega⟩, if_neg (i_nz2 (by omega))]; exact p7_m3; done) | (exfalso; omega; done) | (exfalso; contradiction; done)) p8_m3 (show (m3 94 58).toInt = 0 from by omega) (show qRv (qIf (0 ≤ nn.toInt ∧ nn.toInt ≤ 60 ∧ zSl r1) (if rf = 0 then rMk aa 17 nn 0 r1 else rMk aa 16 nn (-1) r1) aa) from by first | (rw [qIf_y ⟨by omega, by omega, by omega, by omega⟩, if_neg (i_nz2 (by omega))]; exact p11_m3; done) | (exact p11_m3) | (exfalso; omega; done) | (exfalso; contradiction; done)) (show qRL (qIf (0 ≤ nn.toInt ∧ nn.toInt ≤ 60 ∧ zSl r1) (if rf = 0 then rMk aa 17 nn 0 r1 else rMk aa 16 nn (-1) r1) aa) (m 94 18) (m 94 64) (m 94 19) (m3 94 63) (m3 116) from by first | (rw [qIf_y ⟨by omega, by omega, by omega, by omega⟩, if_neg (i_nz2 (by omega))]; exact p12_m3; done) | (exact p12_m3) | (exfalso; omega; done) | (exfalso; contradiction; done))

/-! from 95.u10 -/
/-! AGES, the class (written by wip/tools/gen15y.py) -/
/-! AGES: the class, by numbers (87: 0 all words, 3 where the half begins, 4 the top, 5 YOUNG, 9 OLD, 10 OLD's top, 11 the last age, 12 the card; 83 dirty cards; 131 ages) -/
def zfG (I : Nat → Nat → Int32) (k : Nat) : Int32 := if k = 0 then I 82 3 + (I 82 2 + I 82 2) else if k = 3 then I 82 7 else if k = 4 then I 82 8 else if k = 5 then I 82 2 else if k = 9 then I 82 3 else if k = 10 then I 82 6 else if k = 11 then I 82 4 else if k = 12 then I 82 5 else 0
def aG (S : ma_S) : Nat → Nat → Int32 := fun c k => if c = 83 then mI S 83 k else aM (zfG (mI S)) S c k
/-- words that would grow OLD, of the first n -/
def gGr (a : Nat → Nat → Int32) : Nat → Int
  | 0 => 0
  | n + 1 => gGr a n + (if a 126 n ≠ 0 ∧ (a 87 9).toInt ≤ (a 130 n).toInt ∧ (a 87 11).toInt ≤ (a 131 n).toInt + 1 then (a 128 n).toInt else 0)
/-- the card of a word -/
def gCx (a : Nat → Nat → Int32) (n : Nat) (i : Int) : Int := ((a 130 n).toInt + 1 + i) / (a 87 12).toInt
def gDy (a : Nat → Nat → Int32) (n : Nat) (i : Int) : Prop := 0 < (a 87 12).toInt ∧ gCx a n i < 375 ∧ a 83 (gCx a n i).toNat ≠ 0
/-- what lies on dirty cards comes: one's words -/
def gDc (n : Nat) : Nat → Int32 → (Nat → Nat → Int32) → Nat → Nat → Int32
  | 0, _, a => a
  | f + 1, i, a => gDc n f (i + 1) (if 0 < (a 87 12).toInt ∧ gCx a n i.toInt < 375 ∧ a 83 (gCx a n i.toInt).toNat ≠ 0 then aCm a (aRef a n i) else a)
def gDw (a : Nat → Nat → Int32) (n : Nat) (i : Int32) : Nat → Nat → Int32 := gDc n ((a 128 n).toInt - 1 - i.toInt).toNat i a
/-- by place -/
def gDf (e : Int) : Nat → (Nat → Nat → Int32) → Int → Nat → Nat → Int32
  | 0, a, _ => a
  | f + 1, a, p => if p < e then (if (zOb a p).toInt < 0 then gDf e f a (p + 1) else gDf e f (gDw a (zOb a p).toNatClampNeg 0) (p + (a 128 (zOb a p).toNatClampNeg).toInt)) else a
def gDp (a : Nat → Nat → Int32) (e p : Int) : Nat → Nat → Int32 := gDf e (e - p).toNat a p
/-- one grows older and moves -/
def gM1 (a : Nat → Nat → Int32) (n : Nat) : Nat → Nat → Int32 := if (a 87 11).toInt ≤ (a 131 n + 1).toInt then ma_u (aMo (ma_u a 131 n (a 131 n + 1)) n (a 87 10)) 87 10 (a 87 10 + a 128 n) else ma_u (aMo (ma_u a 131 n (a 131 n + 1)) n (a 87 4)) 87 4 (a 87 4 + a 128 n)
def gMf : Nat → Nat → (Nat → Nat → Int32) → Nat → Nat → Int32
  | 0, _, a => a
  | f + 1, j, a => if 0 ≤ (a 76 j).toInt ∧ (a 76 j).toInt < 512 ∧ a 126 (a 76 j).toNatClampNeg ≠ 0 then gMf f (j + 1) (gM1 a (a 76 j).toNatClampNeg) else gMf f (j + 1) a
/-- dirty cards: one's first i words; the first n -/
def gRw (a : Nat → Nat → Int32) (n : Nat) (i : Int32) : Prop := 0 ≤ (aRef a n i).toInt ∧ (aRef a n i).toInt < 512 ∧ a 126 (aRef a n i).toNatClampNeg ≠ 0 ∧ (a 87 9).toInt ≤ (a 130 (aRef a n i).toNatClampNeg).toInt
def gWk (a : Nat → Nat → Int32) (k n : Nat) : Nat → Int32
  | 0 => 0
  | i + 1 => if (0 ≤ (aRef a n (Int32.ofNat i)).toInt ∧ (aRef a n (Int32.ofNat i)).toInt < 512 ∧ a 126 (aRef a n (Int32.ofNat i)).toNatClampNeg ≠ 0 ∧ (a 87 9).toInt ≤ (a 130 (aRef a n (Int32.ofNat i)).toNatClampNeg).toInt) ∧ 0 < (a 87 12).toInt ∧ gCx a n (i : Int) = (k : Int) then 1 else gWk a k n i
def gNk (a : Nat → Nat → Int32) (k : Nat) : Nat → Int32
  | 0 => 0
  | n + 1 => if (a 126 n ≠ 0 ∧ (a 130 n).toInt < (a 87 9).toInt) ∧ gWk a k n ((a 128 n).toInt - 1).toNat ≠ 0 then 1 else gNk a k n
def gFd (a : Nat → Nat → Int32) : Nat → Nat → Int32 := fun c k => if c = 83 ∧ k < 375 then gNk a k 512 else a c k
/-- the major cleaning -/
def gSd (a : Nat → Nat → Int32) : (Nat → Nat → Int32) × Int := zSd (aSw a) (a 87 9).toInt 0 0
def gMa (a : Nat → Nat → Int32) : Nat → Nat → Int32 := gFd (ma_u (gSd a).1 87 10 (Int32.ofInt (gSd a).2))
/-- the minor one: what is kept; who moves -/
def gKp (a : Nat → Nat → Int32) : Nat → Nat → Int32 := aGw (aSp 512 (gDp (aRo (aWh a (a 87 9)) 0) (a 87 10).toInt 0)) 0
def gMk0 (a : Nat → Nat → Int32) : Nat → Nat → Int32 := aMv (gKp a) 0
def gMk1 (a : Nat → Nat → Int32) : Nat → Nat → Int32 := ma_u (ma_u (gMk0 a) 87 3 (a 87 9 + a 87 5 + a 87 9 - a 87 3)) 87 4 (a 87 9 + a 87 5 + a 87 9 - a 87 3)
def gMv (a : Nat → Nat → Int32) : Nat → Nat → Int32 := gFd (gMf (gMk1 a 75 4).toInt.toNat 0 (gMk1 a))
def gFu (a : Nat → Nat → Int32) : Prop := (a 87 9).toInt < (a 87 10).toInt + gGr a 512
def gM0 (a : Nat → Nat → Int32) : Nat → Nat → Int32 := if (a 87 9).toInt < (a 87 10).toInt + gGr a 512 then gMa a else a
def gMi (a : Nat → Nat → Int32) : Nat → Nat → Int32 := if (gM0 a 87 9).toInt < (gM0 a 87 10).toInt + gGr (gM0 a) 512 then gM0 a else gMv (gM0 a)
/-- how many words got free -/
def gV0 (a : Nat → Nat → Int32) : Int32 := if (a 87 9).toInt < (a 87 10).toInt + gGr a 512 then aSv a else 0
def gVi (a : Nat → Nat → Int32) : Int32 := if (gM0 a 87 9).toInt < (gM0 a 87 10).toInt + gGr (gM0 a) 512 then gV0 a else gV0 a + (gMk0 (gM0 a) 69 11 - gKp (gM0 a) 69 11)
/-- room -/
def gHs (a : Nat → Nat → Int32) (z : Int) : Prop := (a 87 4).toInt + z ≤ (a 87 3).toInt + (a 87 5).toInt
def gRo (a : Nat → Nat → Int32) (z : Int) : Nat → Nat → Int32 := if (a 87 9).toInt < (a 87 10).toInt + z then gMa a else a
def gR1 (a : Nat → Nat → Int32) (z : Int) : Nat → Nat → Int32 := if (a 87 4).toInt + z ≤ (a 87 3).toInt + (a 87 5).toInt then a else gMi a
def gR2 (a : Nat → Nat → Int32) (z : Int) : Nat → Nat → Int32 := if (a 87 4).toInt + z ≤ (a 87 3).toInt + (a 87 5).toInt then a else gMi (gMa a)
def gRs (a : Nat → Nat → Int32) (z : Int) : Nat → Nat → Int32 := if (a 87 5).toInt / 2 < z then gRo a z else gR2 (gR1 a z) z
def gRp (a : Nat → Nat → Int32) (z : Int) : Int := if (a 87 5).toInt / 2 < z then (if (gRs a z 87 9).toInt < (gRs a z 87 10).toInt + z then -1 else (gRs a z 87 10).toInt) else (if (gRs a z 87 4).toInt + z ≤ (gRs a z 87 3).toInt + (gRs a z 87 5).toInt then (gRs a z 87 4).toInt else -1)
/-- what holds of a heap of ages -/
def gSy (a : Nat → Nat → Int32) : Nat → Int
  | 0 => 0
  | n + 1 => gSy a n + (if a 126 n ≠ 0 ∧ (a 87 9).toInt ≤ (a 130 n).toInt then (a 128 n).toInt else 0)
def qAv (a : Nat → Nat → Int32) : Prop := qI a ∧ a 87 2 = 0 ∧ ((0 ≤ (a 87 5).toInt ∧ (a 87 5).toInt ≤ 1500) ∧ (0 ≤ (a 87 9).toInt ∧ (a 87 9).toInt ≤ 1500) ∧ (a 87 0).toInt = (a 87 9).toInt + 2 * (a 87 5).toInt ∧ (1 ≤ (a 87 11).toInt ∧ (a 87 11).toInt ≤ 1000) ∧ 4 ≤ (a 87 12).toInt) ∧ ((a 87 3).toInt = (a 87 9).toInt ∨ (a 87 3).toInt = (a 87 9).toInt + (a 87 5).toInt) ∧ ((a 87 3).toInt ≤ (a 87 4).toInt ∧ (a 87 4).toInt ≤ (a 87 3).toInt + (a 87 5).toInt ∧ gSy a 512 ≤ (a 87 4).toInt - (a 87 3).toInt) ∧ (0 ≤ (a 87 10).toInt ∧ (a 87 10).toInt ≤ (a 87 9).toInt) ∧ (∀ n, xAl a n → (0 ≤ (a 131 n).toInt ∧ (a 131 n).toInt ≤ (a 87 11).toInt) ∧ ((a 130 n).toInt < (a 87 9).toInt → (a 130 n).toInt + (a 128 n).toInt ≤ (a 87 10).toInt) ∧ ((a 87 9).toInt ≤ (a 130 n).toInt → ((a 87 3).toInt ≤ (a 130 n).toInt ∧ (a 130 n).toInt + (a 128 n).toInt ≤ (a 87 4).toInt) ∧ (a 131 n).toInt < (a 87 11).toInt ∧ a 133 n = 0)) ∧ ∀ n, xAl a n → (a 130 n).toInt < (a 87 9).toInt → ∀ i : Nat, (i : Int) < (a 128 n).toInt - 1 → gRw a n (Int32.ofNat i) → a 83 (gCx a n (i : Int)).toNat ≠ 0
section F20
variable {a b ab : Nat → Nat → Int32} {S S₉ : ma_S} {R : Nat → Option Nat} {x y i to : Int32} {c k n f j : Nat} {p e : Int} {F : Nat → Int32} {L : Int64}
theorem aG_o (h : c ≠ 87) (h2 : c ≠ 83) : aG S c k = aS 75 S c k := (if_neg h2).trans (aM_o h)
theorem aG_7 : aG S 87 k = zfG (mI S) k := (if_neg (by decide)).trans aM_7
theorem aG_8 : aG S 83 k = mI S 83 k := if_pos rfl
theorem G_of (h : ∀ c k, c ≠ 87 → c ≠ 83 → aS 75 S₉ c k = b c k) (h7 : ∀ k, b 87 k = zfG (mI S₉) k) (h8 : ∀ k, b 83 k = mI S₉ 83 k) : aG S₉ = b := by
  funext c k
  by_cases w : c = 87
  · rw [w, aG_7, h7]
  · by_cases w2 : c = 83
    · rw [w2, aG_8, h8]
    · rw [aG_o w w2]
      exact h c k w w2
theorem G_g {f : (Nat → Nat → Int32) → Nat → Nat → Int32} (h : ∀ c k, c ≠ 87 → c ≠ 83 → aS 75 S₉ c k = f (aG S) c k) (h7 : ∀ k, f (aG S) 87 k = aG S 87 k) (h8 : ∀ k, f (aG S) 83 k = aG S 83 k) (e1 : mI S₉ 82 = mI S 82) (e2 : mI S₉ 83 = mI S 83) : aG S₉ = f (aG S) := by
  refine G_of h (fun k => ?_) (fun k => ?_)
  · rw [h7, aG_7]
    unfold zfG
    rw [e1]
  · rw [h8, aG_8, e2]
theorem G_o9 : zO9 (aS 75 S) (aG S) := fun c k w => (aG_o (by omega) (by omega)).symm
theorem G_f {f : (Nat → Nat → Int32) → Nat → Nat → Int32} (ho : zO9 (f (aS 75 S)) (f (aG S))) (hr : ∀ a c k, 82 ≤ c ∧ c ≤ 93 → f a c k = a c k) (h : aS 75 S₉ = f (aS 75 S)) (e1 : mI S₉ 82 = mI S 82) (e2 : mI S₉ 83 = mI S 83) : aG S₉ = f (aG S) := by
  refine G_g (f := f) (fun c k h1 h2 => ?_) (fun k => hr _ _ _ (by omega)) (fun k => hr _ _ _ (by omega)) e1 e2
  rw [h]
  by_cases w : c < 82 ∨ 93 < c
  · exact ho c k w
  · rw [hr _ _ _ (by omega), hr _ _ _ (by omega), aG_o h1 h2]
theorem G_id (h : aS 75 S₉ = aS 75 S) (e1 : mI S₉ 82 = mI S 82) (e2 : mI S₉ 83 = mI S 83) : aG S₉ = aG S := G_f (f := fun a => a) G_o9 (fun _ _ _ _ => rfl) h e1 e2
theorem G_mo (h : aS 75 S₉ = aMo (aS 75 S) n to) (e1 : mI S₉ 82 = mI S 82) (e2 : mI S₉ 83 = mI S 83) : aG S₉ = aMo (aG S) n to := by
  refine G_g (f := fun a => aMo a n to) (fun c k h1 h2 => ?_) (fun k => Mo_r (by decide) (by decide)) (fun k => Mo_r (by decide) (by decide)) e1 e2
  rw [h]
  unfold aMo
  rw [aG_o (c := 128) (by decide) (by decide), aG_o (c := 130) (by decide) (by decide), aG_o (c := 71) (by decide) (by decide), aG_o (c := 71) (by decide) (by decide), aG_o h1 h2]
theorem G_sw (h : aS 75 S₉ = aSw (aS 75 S)) (e1 : mI S₉ 82 = mI S 82) (e2 : mI S₉ 83 = mI S 83) : aG S₉ = aSw (aG S) := G_f (f := aSw) (o9_sw G_o9) (fun _ _ _ w => sw_9 w) h e1 e2
theorem G_sv : aSv (aS 75 S) = aSv (aG S) := sv_9 G_o9
theorem wh_9 (h : 82 ≤ c ∧ c ≤ 93) : aWh a x c k = a c k := by
  unfold aWh
  rw [xu_o (by omega), xu_o (by omega), xu_o (by omega)]
  unfold zFl
  rw [if_neg (by omega)]
theorem o9_wh (h : zO9 a b) : zO9 (aWh a x) (aWh b x) := by
  unfold aWh
  refine o9_u (o9_u (o9_u (fun c₉ k₉ q => ?_)))
  unfold zFl
  rw [h c₉ k₉ q]
theorem G_wh (h : aS 75 S₉ = aWh (aS 75 S) x) (e1 : mI S₉ 82 = mI S 82) (e2 : mI S₉ 83 = mI S 83) : aG S₉ = aWh (aG S) x := G_f (f := fun a => aWh a x) (o9_wh G_o9) (fun _ _ _ w => wh_9 w) h e1 e2
theorem G_ro (h : aS 75 S₉ = aRo (aS 75 S) 0) (e1 : mI S₉ 82 = mI S 82) (e2 : mI S₉ 83 = mI S 83) : aG S₉ = aRo (aG S) 0 := G_f (f := fun a => aRo a 0) (o9_rf _ _ _ _ G_o9) (fun _ _ _ w => aRo_o ⟨by omega, by omega, by omega⟩) h e1 e2
theorem G_sp (h : aS 75 S₉ = aSp f (aS 75 S)) (e1 : mI S₉ 82 = mI S 82) (e2 : mI S₉ 83 = mI S 83) : aG S₉ = aSp f (aG S) := G_f (f := fun a => aSp f a) (o9_sp _ _ _ G_o9) (fun _ _ _ w => aSp_o ⟨by omega, by omega, by omega⟩ _ _) h e1 e2
theorem G_gw (h : aS 75 S₉ = aGw (aS 75 S) 0) (e1 : mI S₉ 82 = mI S 82) (e2 : mI S₉ 83 = mI S 83) : aG S₉ = aGw (aG S) 0 := G_f (f := fun a => aGw a 0) (o9_gw G_o9) (fun _ _ _ w => gf_9 w _ _ _) h e1 e2
theorem o9_mv (h : zO9 a b) : zO9 (aMv a 0) (aMv b 0) := by
  unfold aMv
  rw [h 69 6 (by decide)]
  exact o9_mf _ _ _ _ h
theorem G_mv (h : aS 75 S₉ = aMv (aS 75 S) 0) (e1 : mI S₉ 82 = mI S 82) (e2 : mI S₉ 83 = mI S 83) : aG S₉ = aMv (aG S) 0 := G_f (f := fun a => aMv a 0) (o9_mv G_o9) (fun _ _ _ w => mf_9 w _ _ _) h e1 e2
theorem G_ad (h : aS 75 S₉ = aAd (aS 75 S) y F L) (e1 : mI S₉ 82 = mI S 82) (e2 : mI S₉ 83 = mI S 83) : aG S₉ = aAd (aG S) y F L := G_f (f := fun a => aAd a y F L) (o9_ad G_o9) (fun _ _ _ w => ad_9 w) h e1 e2
theorem G_r0 (h : aS 75 S₉ = aR0 (aS 75 S) i y) (e1 : mI S₉ 82 = mI S 82) (e2 : mI S₉ 83 = mI S 83) : aG S₉ = aR0 (aG S) i y := G_f (f := fun a => aR0 a i y) (o9_r0 G_o9) (fun _ _ _ w => xu_o (by omega)) h e1 e2
theorem G_th {nu kd sz pl : Int32} {rr : Int64} (hN : 126 ≤ mN S) (hr : ∀ n c, mR S 70 n = some c → c < mN S) : aG (zTh S nu kd sz rr pl) = aG S := G_id (mk_a (Or.inl rfl) hN hr) (funext (fun _ => zTh_lo (by decide) hN)) (funext (fun _ => zTh_lo (by decide) hN))
/-! writes -/
theorem G_p8 (hR : xB S R) : aG (ma_put S 83 n (.inl x)) = ma_u (aG S) 83 n x := by
  have e := (xC_n (W := 75) (c := 83) (k := n) (x := x) (xC_o hR) ⟨by decide, Or.inl ⟨rfl, by first | rfl | (cases n <;> rfl)⟩⟩).1
  refine G_of (fun c₉ k w w2 => ?_) (fun k => ?_) (fun k => ?_)
  · rw [e, xu_o (fun z => by omega), aG_o w w2]
  · rw [xu_o (fun z => by omega), aG_7]
    unfold zfG
    have r : ∀ j, mI (ma_put S 83 n (.inl x)) 82 j = mI S 82 j := fun j => by
      show (if (82 : Nat) = 83 ∧ j = n then x else mI S 82 j) = _
      rw [if_neg (fun z => by omega)]
    simp only [r]
  · show (if (83 : Nat) = 83 ∧ k = n then x else aG S 83 k) = (if (83 : Nat) = 83 ∧ k = n then x else mI S 83 k)
    rw [aG_8]
theorem G_pk (hR : xB S R) (hk : (n = 6 ∧ k = 10) ∨ (n = 7 ∧ k = 3) ∨ (n = 8 ∧ k = 4)) : aG (ma_put S 82 n (.inl x)) = ma_u (aG S) 87 k x := by
  have e := (xC_n (W := 75) (c := 82) (k := n) (x := x) (xC_o hR) ⟨by decide, Or.inl ⟨rfl, by first | rfl | (cases n <;> rfl)⟩⟩).1
  refine G_of (fun c₉ k₉ w w2 => ?_) (fun k₉ => ?_) (fun k₉ => ?_)
  · rw [e, xu_o (fun z => by omega), aG_o w w2]
  · have r : ∀ j, mI (ma_put S 82 n (.inl x)) 82 j = if j = n then x else mI S 82 j := fun j => by
      show (if (82 : Nat) = 82 ∧ j = n then x else mI S 82 j) = _
      by_cases w : j = n
      · rw [if_pos ⟨rfl, w⟩, if_pos w]
      · rw [if_neg (fun z => w z.2), if_neg w]
    show (if (87 : Nat) = 87 ∧ k₉ = k then x else aG S 87 k₉) = zfG (mI (ma_put S 82 n (.inl x))) k₉
    rw [aG_7]
    unfold zfG
    simp only [r]
    rcases hk with ⟨h1, h2⟩ | ⟨h1, h2⟩ | ⟨h1, h2⟩ <;> (subst h1; subst h2; by_cases w : k₉ = 10 <;> by_cases w3 : k₉ = 3 <;> by_cases w4 : k₉ = 4 <;> simp [w, w3, w4] <;> omega)
  · rw [xu_o (fun z => by omega), aG_8]
    show _ = (if (83 : Nat) = 82 ∧ k₉ = n then x else mI S 83 k₉)
    rw [if_neg (fun z => by omega)]
theorem G_p5 (hR : xB S R) (e : zTa R y = some c) : aG (ma_put S c 5 (.inl x)) = ma_u (aG S) 131 y.toNatClampNeg x := by
  have q := (xC_t (W := 75) (x := x) (xC_o hR) xW75 e (k := 5) rfl).1
  have h6 := (xB_th (W := 75) hR e).1
  have h126 : 126 ≤ c := (hR.2 _ c (zTa_n e) (zTa_p e).2.2).1
  have r : ∀ d j, d < 126 → mI (ma_put S c 5 (.inl x)) d j = mI S d j := fun d j hd => if_neg (fun z => by omega)
  refine G_of (fun c₉ k₉ w w2 => ?_) (fun k₉ => ?_) (fun k₉ => ?_)
  · rw [q]
    show (if c₉ = 131 ∧ k₉ = y.toNatClampNeg then x else aS 75 S c₉ k₉) = (if c₉ = 131 ∧ k₉ = y.toNatClampNeg then x else aG S c₉ k₉)
    rw [aG_o w w2]
  · rw [xu_o (fun z => by omega), aG_7]
    unfold zfG
    rw [r 82 _ (by decide), r 82 _ (by decide), r 82 _ (by decide), r 82 _ (by decide), r 82 _ (by decide), r 82 _ (by decide), r 82 _ (by decide)]
  · rw [xu_o (fun z => by omega), aG_8, r 83 _ (by decide)]
theorem xB_5 (hR : xB S R) (e : zTa R y = some c) : mI S c 5 = aG S 131 y.toNatClampNeg := by
  have p := zTa_p e
  have hn := zTa_n e
  have h : mR S 70 y.toNatClampNeg = some c := by rw [hR.1]; exact p.2.2
  rw [aG_o (by decide) (by decide)]
  exact (aTf_c hn h).symm
end F20

