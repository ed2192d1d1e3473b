/-! from 95.v07 -/
/-! AGES, the reference (written by wip/tools/gen15v.py) -/
theorem lp_212ry_55 {X : Nat × (Nat → Int32)} {P : Option ma_V → (Nat → Nat → Int32) → Prop} {aa : Nat→Nat→Int32} {ro : Int32} {m0 : Nat → Nat → Int32} (h0 : zV m0) (K : ∀ m₉, zF wr_212 m0 m₉ → zV m₉ → (qDt (m₉ 117) (gFd aa)) → P none m₉) {n26 : Nat} (OUT26 : ∀ (m₉ : Nat → Nat → Int32) (l1 : Int32), (3100 - l1.toInt).toNat < n26 → zF wr_212 m0 m₉ → zV m₉ → (0 ≤ l1.toInt) → (l1.toInt ≤ 3100) → (zW (m₉ 94 7) (m₉ 98) (m₉ 101) (m₉ 102) (m₉ 108)) → (4 ≤ (m₉ 94 16).toInt) → (qRB (m₉ 99) (m₉ 100) (m₉ 98) (m₉ 101) (m₉ 102) (m₉ 103) (m₉ 107) (m₉ 108) (m₉ 109) (m₉ 111) (m₉ 112) (m₉ 113) (m₉ 114) (m₉ 94 55) (m₉ 94 46) ro 0 0 0 1 aa) → (qAX aa (m₉ 94 13) (m₉ 94 14) (m₉ 94 15) (m₉ 94 16)) → (qDo (m₉ 99) (m₉ 102) (m₉ 103) (m₉ 98) (m₉ 101) (m₉ 108) (m₉ 94 14) (m₉ 94 16) (m₉ 117) l1.toNatClampNeg) → zm X 2 44 212 26 [(0, .inr (.inr (some 94))), (1, .inl l1)] m₉ P) : ∀ (n : Nat) (m : Nat → Nat → Int32) (l1 : Int32) (l2 : Int32), (61 - l2.toInt).toNat = n → zF wr_212 m0 m → zV m → (0 ≤ l1.toInt) → (l1.toInt ≤ 3099) → (0 ≤ l2.toInt) → ((3100 - l1.toInt).toNat = n26) → (zW (m 94 7) (m 98) (m 101) (m 102) (m 108)) → (4 ≤ (m 94 16).toInt) → (qRB (m 99) (m 100) (m 98) (m 101) (m 102) (m 103) (m 107) (m 108) (m 109) (m 111) (m 112) (m 113) (m 114) (m 94 55) (m 94 46) ro 0 0 0 1 aa) → (qAX aa (m 94 13) (m 94 14) (m 94 15) (m 94 16)) → ((m 99) l1.toNatClampNeg ≠ 0) → ((m 103 l1.toNatClampNeg).toInt < (m 94 14).toInt) → (qDj (m 99) (m 102) (m 103) (m 98) (m 101) (m 108) (m 94 14) (m 94 16) (m 117) l1.toNatClampNeg l2.toNatClampNeg) → zm X 2 44 212 55 [(0, .inr (.inr (some 94))), (1, .inl l1), (2, .inl l2)] m P := by
  intro n
  induction n using Nat.strongRecOn with
  | _ n IH =>
    intro m l1 l2 hmu hF hV hi0 hi1 hi2 hi3 r_W hi5 r_RB r_AX3 r_UO hi9 r_DJ
    refine g_212_55 l1 l2 ?_
    have f1 : 0 ≤ (m 94 16).toInt ∧ (m 94 16).toInt ≤ 64 := rs_94_16 (m := m) hV
    have b2 := i_bd l1
    first | have f3 : 0 ≤ (m 103 l1.toNatClampNeg).toInt ∧ (m 103 l1.toNatClampNeg).toInt ≤ 4599 := ra_103 (m := m) hV (k := l1.toNatClampNeg) (i_ix (n := 3100) (by omega) (by omega)).2 | have b4 := i_bd (m 103 l1.toNatClampNeg)
    have f5 : 0 ≤ (m 94 14).toInt ∧ (m 94 14).toInt ≤ 1500 := rs_94_14 (m := m) hV
    have hg6 : (0 ≤ l1 ∧ l1.toNatClampNeg < 3100) := i_ix (by omega) (by omega)
    refine ⟨hg6, ?_⟩
    first | have f7 : 0 ≤ (m 102 l1.toNatClampNeg).toInt ∧ (m 102 l1.toNatClampNeg).toInt ≤ 60 := ra_102 (m := m) hV (k := l1.toNatClampNeg) (i_ix (n := 3100) (by omega) (by omega)).2 | have b8 := i_bd (m 102 l1.toNatClampNeg)
    have b9 := i_bd l2
    refine zd (fun (h10 : (m 102 l1.toNatClampNeg) ≤ l2) => ?_) (fun (h10 : ¬ (m 102 l1.toNatClampNeg) ≤ l2) => ?_)
    · skip
      have g11 := i_le h10
      first | have e12 : (l1 + (1 : Int32)).toInt = l1.toInt + (1) := i_addk rfl (by omega) (by omega) | have b13 := i_bd (l1 + (1 : Int32))
      exact OUT26 _ ((l1 + (1 : Int32))) (show (3100 - (l1 + (1 : Int32)).toInt).toNat < n26 from by omega) hF hV (by omega) (by omega) r_W (show 4 ≤ (m 94 16).toInt from by omega) r_RB r_AX3 (show qDo (m 99) (m 102) (m 103) (m 98) (m 101) (m 108) (m 94 14) (m 94 16) (m 117) (l1 + (1 : Int32)).toNatClampNeg from by first | (exact Dj_e r_DJ (by rw [tn_cast (x := l2) (by omega)]; omega) (tn_succ (by omega) (by omega))) | (exfalso; omega; done) | (exfalso; contradiction; done))
    · skip
      have g14 := i_nle h10
      refine sp_192 (l1) (l2) hV (by omega) (by omega) (by omega) (show l2.toInt < (m 102 l1.toNatClampNeg).toInt from by omega) (fun v2 m1 hV_m1 p0_m1 => zmi_n ?_)
      have p0_m1 : v2 = zrf (m 98) (m 101) (m 108) l1.toNatClampNeg l2.toNatClampNeg := p0_m1
      try have := W_ref r_W (by omega) (by omega) (by omega) (by omega) p0_m1
      have b15 := i_bd v2
      have li16 : (0 : Int32).toInt = 0 := rfl
      refine zd (fun (h17 : v2 < (0 : Int32)) => ?_) (fun (h17 : ¬ v2 < (0 : Int32)) => ?_)
      · skip
        have g18 := i_lt h17
        first | have e19 : (l2 + (1 : Int32)).toInt = l2.toInt + (1) := i_addk rfl (by omega) (by omega) | have b20 := i_bd (l2 + (1 : Int32))
        exact IH (61 - (l2 + (1 : Int32)).toInt).toNat (by omega) _ (l1) ((l2 + (1 : Int32))) rfl (zF_zov hF ws_192_212) hV_m1 (by omega) (by omega) (by omega) (show (3100 - l1.toInt).toNat = n26 from by omega) r_W (show 4 ≤ (m 94 16).toInt from by omega) r_RB r_AX3 r_UO (show (m 103 l1.toNatClampNeg).toInt < (m 94 14).toInt from by omega) (show qDj (m 99) (m 102) (m 103) (m 98) (m 101) (m 108) (m 94 14) (m 94 16) (m 117) l1.toNatClampNeg (l2 + (1 : Int32)).toNatClampNeg from by first | (exact Dj_no r_DJ (Or.inl (by rw [← p0_m1]; omega)) (tn_succ (by omega) (by omega))) | (exact Dj_no r_DJ (Or.inr (by rw [← p0_m1]; omega)) (tn_succ (by omega) (by omega))) | (exact Dj_ye r_DJ r_UO (by omega) (by rw [tn_cast (x := l2) (by omega)]; omega) (by rw [← p0_m1]; omega) (by rw [← p0_m1]; omega) (card_i2 (by omega) (by omega) (by omega) (by omega) (by omega)) (fun t => mu_at t) (tn_succ (by omega) (by omega))) | (exfalso; omega; done) | (exfalso; contradiction; done))
      · skip
        have g21 := i_nlt h17
        have hg22 : (0 ≤ v2 ∧ v2.toNatClampNeg < 3100) := i_ix (by omega) (by omega)
        refine ⟨hg22, ?_⟩
        first | have f23 : 0 ≤ (m 103 v2.toNatClampNeg).toInt ∧ (m 103 v2.toNatClampNeg).toInt ≤ 4599 := ra_103 (m := m) hV (k := v2.toNatClampNeg) (i_ix (n := 3100) (by omega) (by omega)).2 | have b24 := i_bd (m 103 v2.toNatClampNeg)
        refine zd (fun (h25 : (m 94 14) ≤ (m 103 v2.toNatClampNeg)) => ?_) (fun (h25 : ¬ (m 94 14) ≤ (m 103 v2.toNatClampNeg)) => ?_)
        · skip
          have g26 := i_le h25
          have hg27 : (0 ≤ l1 ∧ l1.toNatClampNeg < 3100) := i_ix (by omega) (by omega)
          refine ⟨hg27, ?_⟩
          have hg28 : (m 94 16) ≠ 0 := i_nz (by omega)
          refine ⟨hg28, ?_⟩
          first | have e29 : ((m 103 l1.toNatClampNeg) + (1 : Int32)).toInt = (m 103 l1.toNatClampNeg).toInt + (1) := i_addk rfl (by omega) (by omega) | have b30 := i_bd ((m 103 l1.toNatClampNeg) + (1 : Int32))
          first | have e31 : (((m 103 l1.toNatClampNeg) + (1 : Int32)) + l2).toInt = ((m 103 l1.toNatClampNeg) + (1 : Int32)).toInt + l2.toInt := i_add (by omega) (by omega) | have b32 := i_bd (((m 103 l1.toNatClampNeg) + (1 : Int32)) + l2)
          first | have f33 := i_div (x := (((m 103 l1.toNatClampNeg) + (1 : Int32)) + l2)) (y := (m 94 16)) (by omega) (by omega) | have b34 := i_bd ((((m 103 l1.toNatClampNeg) + (1 : Int32)) + l2) / (m 94 16))
          try have dv : 0 ≤ (((((m 103 l1.toNatClampNeg) + (1 : Int32)) + l2) / (m 94 16))).toInt ∧ (((((m 103 l1.toNatClampNeg) + (1 : Int32)) + l2) / (m 94 16))).toInt ≤ 499 := i_div4 (by omega) (by omega) (by omega)
          have hg35 : (0 ≤ ((((m 103 l1.toNatClampNeg) + (1 : Int32)) + l2) / (m 94 16)) ∧ ((((m 103 l1.toNatClampNeg) + (1 : Int32)) + l2) / (m 94 16)).toNatClampNeg < 512) := i_ix (by omega) (by omega)
          refine ⟨hg35, ?_⟩
          have li37 : (1 : Int32).toInt = 1 := rfl
          have hV36 : zV (ma_u (zov wr_192 m m1) 117 ((((m 103 l1.toNatClampNeg) + (1 : Int32)) + l2) / (m 94 16)).toNatClampNeg (1 : Int32)) := ua_117 hV_m1 (by omega) (by omega)
          first | have e38 : (l2 + (1 : Int32)).toInt = l2.toInt + (1) := i_addk rfl (by omega) (by omega) | have b39 := i_bd (l2 + (1 : Int32))
          exact IH (61 - (l2 + (1 : Int32)).toInt).toNat (by omega) _ (l1) ((l2 + (1 : Int32))) rfl (zF_u (zF_zov hF ws_192_212) rfl) hV36 (by omega) (by omega) (by omega) (show (3100 - l1.toInt).toNat = n26 from by omega) r_W (show 4 ≤ (m 94 16).toInt from by omega) r_RB r_AX3 r_UO (show (m 103 l1.toNatClampNeg).toInt < (m 94 14).toInt from by omega) (show qDj (m 99) (m 102) (m 103) (m 98) (m 101) (m 108) (m 94 14) (m 94 16) ((ma_u m 117 ((((m 103 l1.toNatClampNeg) + (1 : Int32)) + l2) / (m 94 16)).toNatClampNeg (1 : Int32)) 117) l1.toNatClampNeg (l2 + (1 : Int32)).toNatClampNeg from by first | (exact Dj_no r_DJ (Or.inl (by rw [← p0_m1]; omega)) (tn_succ (by omega) (by omega))) | (exact Dj_no r_DJ (Or.inr (by rw [← p0_m1]; omega)) (tn_succ (by omega) (by omega))) | (exact Dj_ye r_DJ r_UO (by omega) (by rw [tn_cast (x := l2) (by omega)]; omega) (by rw [← p0_m1]; omega) (by rw [← p0_m1]; omega) (card_i2 (by omega) (by omega) (by omega) (by omega) (by omega)) (fun t => mu_at t) (tn_succ (by omega) (by omega))) | (exfalso; omega; done) | (exfalso; contradiction; done))
        · skip
          have g40 := i_nle h25
          first | have e41 : (l2 + (1 : Int32)).toInt = l2.toInt + (1) := i_addk rfl (by omega) (by omega) | have b42 := i_bd (l2 + (1 : Int32))
          exact IH (61 - (l2 + (1 : Int32)).toInt).toNat (by omega) _ (l1) ((l2 + (1 : Int32))) rfl (zF_zov hF ws_192_212) hV_m1 (by omega) (by omega) (by omega) (show (3100 - l1.toInt).toNat = n26 from by omega) r_W (show 4 ≤ (m 94 16).toInt from by omega) r_RB r_AX3 r_UO (show (m 103 l1.toNatClampNeg).toInt < (m 94 14).toInt from by omega) (show qDj (m 99) (m 102) (m 103) (m 98) (m 101) (m 108) (m 94 14) (m 94 16) (m 117) l1.toNatClampNeg (l2 + (1 : Int32)).toNatClampNeg from by first | (exact Dj_no r_DJ (Or.inl (by rw [← p0_m1]; omega)) (tn_succ (by omega) (by omega))) | (exact Dj_no r_DJ (Or.inr (by rw [← p0_m1]; omega)) (tn_succ (by omega) (by omega))) | (exact Dj_ye r_DJ r_UO (by omega) (by rw [tn_cast (x := l2) (by omega)]; omega) (by rw [← p0_m1]; omega) (by rw [← p0_m1]; omega) (card_i2 (by omega) (by omega) (by omega) (by omega) (by omega)) (fun t => mu_at t) (tn_succ (by omega) (by omega))) | (exfalso; omega; done) | (exfalso; contradiction; done))
theorem lp_212ry_26 {X : Nat × (Nat → Int32)} {P : Option ma_V → (Nat → Nat → Int32) → Prop} {aa : Nat→Nat→Int32} {ro : Int32} {m0 : Nat → Nat → Int32} (h0 : zV m0) (K : ∀ m₉, zF wr_212 m0 m₉ → zV m₉ → (qDt (m₉ 117) (gFd aa)) → P none m₉) : ∀ (n : Nat) (m : Nat → Nat → Int32) (l1 : Int32), (3100 - l1.toInt).toNat = n → zF wr_212 m0 m → zV m → (0 ≤ l1.toInt) → (l1.toInt ≤ 3100) → (zW (m 94 7) (m 98) (m 101) (m 102) (m 108)) → (4 ≤ (m 94 16).toInt) → (qRB (m 99) (m 100) (m 98) (m 101) (m 102) (m 103) (m 107) (m 108) (m 109) (m 111) (m 112) (m 113) (m 114) (m 94 55) (m 94 46) ro 0 0 0 1 aa) → (qAX aa (m 94 13) (m 94 14) (m 94 15) (m 94 16)) → (qDo (m 99) (m 102) (m 103) (m 98) (m 101) (m 108) (m 94 14) (m 94 16) (m 117) l1.toNatClampNeg) → zm X 2 44 212 26 [(0, .inr (.inr (some 94))), (1, .inl l1)] m P := by
  intro n
  induction n using Nat.strongRecOn with
  | _ n IH =>
    intro m l1 hmu hF hV hi0 hi1 r_W hi3 r_RB r_AX3 r_DO
    refine g_212_26 l1 ?_
    have f1 : 0 ≤ (m 94 16).toInt ∧ (m 94 16).toInt ≤ 64 := rs_94_16 (m := m) hV
    have li2 : (3100 : Int32).toInt = 3100 := rfl
    have b3 := i_bd l1
    refine zd (fun (h4 : (3100 : Int32) ≤ l1) => ?_) (fun (h4 : ¬ (3100 : Int32) ≤ l1) => ?_)
    · skip
      have g5 := i_le h4
      exact K _ hF hV (show qDt (m 117) (gFd aa) from by first | (exact Do_e r_DO (by omega) r_RB r_AX3 (by omega)) | (exfalso; omega; done) | (exfalso; contradiction; done))
    · skip
      have g6 := i_nle h4
      have hg7 : (0 ≤ l1 ∧ l1.toNatClampNeg < 3100) := i_ix (by omega) (by omega)
      refine ⟨hg7, ?_⟩
      first | have f8 : 0 ≤ (m 99 l1.toNatClampNeg).toInt ∧ (m 99 l1.toNatClampNeg).toInt ≤ 1 := ra_99 (m := m) hV (k := l1.toNatClampNeg) (i_ix (n := 3100) (by omega) (by omega)).2 | have b9 := i_bd (m 99 l1.toNatClampNeg)
      have li10 : (0 : Int32).toInt = 0 := rfl
      refine zd (fun (h11 : (m 99 l1.toNatClampNeg) = (0 : Int32)) => ?_) (fun (h11 : ¬ (m 99 l1.toNatClampNeg) = (0 : Int32)) => ?_)
      · skip
        have g12 := i_eq h11
        first | have e13 : (l1 + (1 : Int32)).toInt = l1.toInt + (1) := i_addk rfl (by omega) (by omega) | have b14 := i_bd (l1 + (1 : Int32))
        exact IH (3100 - (l1 + (1 : Int32)).toInt).toNat (by omega) _ ((l1 + (1 : Int32))) rfl hF hV (by omega) (by omega) r_W (show 4 ≤ (m 94 16).toInt from by omega) r_RB r_AX3 (show qDo (m 99) (m 102) (m 103) (m 98) (m 101) (m 108) (m 94 14) (m 94 16) (m 117) (l1 + (1 : Int32)).toNatClampNeg from by first | (exact Do_sk r_DO (Or.inl (by assumption)) (tn_succ (by omega) (by omega))) | (exact Do_sk r_DO (Or.inr (by omega)) (tn_succ (by omega) (by omega))) | (exfalso; omega; done) | (exfalso; contradiction; done))
      · skip
        have g15 := i_ne h11
        have hg16 : (0 ≤ l1 ∧ l1.toNatClampNeg < 3100) := i_ix (by omega) (by omega)
        refine ⟨hg16, ?_⟩
        have f17 : 0 ≤ (m 94 14).toInt ∧ (m 94 14).toInt ≤ 1500 := rs_94_14 (m := m) hV
        first | have f18 : 0 ≤ (m 103 l1.toNatClampNeg).toInt ∧ (m 103 l1.toNatClampNeg).toInt ≤ 4599 := ra_103 (m := m) hV (k := l1.toNatClampNeg) (i_ix (n := 3100) (by omega) (by omega)).2 | have b19 := i_bd (m 103 l1.toNatClampNeg)
        refine zd (fun (h20 : (m 94 14) ≤ (m 103 l1.toNatClampNeg)) => ?_) (fun (h20 : ¬ (m 94 14) ≤ (m 103 l1.toNatClampNeg)) => ?_)
        · skip
          have g21 := i_le h20
          first | have e22 : (l1 + (1 : Int32)).toInt = l1.toInt + (1) := i_addk rfl (by omega) (by omega) | have b23 := i_bd (l1 + (1 : Int32))
          exact IH (3100 - (l1 + (1 : Int32)).toInt).toNat (by omega) _ ((l1 + (1 : Int32))) rfl hF hV (by omega) (by omega) r_W (show 4 ≤ (m 94 16).toInt from by omega) r_RB r_AX3 (show qDo (m 99) (m 102) (m 103) (m 98) (m 101) (m 108) (m 94 14) (m 94 16) (m 117) (l1 + (1 : Int32)).toNatClampNeg from by first | (exact Do_sk r_DO (Or.inl (by assumption)) (tn_succ (by omega) (by omega))) | (exact Do_sk r_DO (Or.inr (by omega)) (tn_succ (by omega) (by omega))) | (exfalso; omega; done) | (exfalso; contradiction; done))
        · skip
          have g24 := i_nle h20
          exact lp_212ry_55 h0 K (fun _ _ z1 z2 z3 y0 y1 y2 y3 y4 y5 y6 => IH _ z1 _ _ rfl z2 z3 y0 y1 y2 y3 y4 y5 y6) _ _ (l1) ((0 : Int32)) rfl hF hV (by omega) (by omega) (by omega) (show (3100 - l1.toInt).toNat = n from by omega) r_W (show 4 ≤ (m 94 16).toInt from by omega) r_RB r_AX3 (show (m 99) l1.toNatClampNeg ≠ 0 from by first | (assumption; done) | (exfalso; omega; done) | (exfalso; contradiction; done)) (show (m 103 l1.toNatClampNeg).toInt < (m 94 14).toInt from by omega) (show qDj (m 99) (m 102) (m 103) (m 98) (m 101) (m 108) (m 94 14) (m 94 16) (m 117) l1.toNatClampNeg (0 : Int32).toNatClampNeg from by first | (exact Dj_0 r_DO) | (exfalso; omega; done) | (exfalso; contradiction; done))
theorem lp_212ry_2 {X : Nat × (Nat → Int32)} {P : Option ma_V → (Nat → Nat → Int32) → Prop} {aa : Nat→Nat→Int32} {ro : Int32} {m0 : Nat → Nat → Int32} (h0 : zV m0) (K : ∀ m₉, zF wr_212 m0 m₉ → zV m₉ → (qDt (m₉ 117) (gFd aa)) → P none m₉) : ∀ (n : Nat) (m : Nat → Nat → Int32) (l1 : Int32), (512 - l1.toInt).toNat = n → zF wr_212 m0 m → zV m → (0 ≤ l1.toInt) → (zW (m 94 7) (m 98) (m 101) (m 102) (m 108)) → (4 ≤ (m 94 16).toInt) → (qRB (m 99) (m 100) (m 98) (m 101) (m 102) (m 103) (m 107) (m 108) (m 109) (m 111) (m 112) (m 113) (m 114) (m 94 55) (m 94 46) ro 0 0 0 1 aa) → (qAX aa (m 94 13) (m 94 14) (m 94 15) (m 94 16)) → (∀ k : Nat, (k : Int) < l1.toInt → (m 117) k = 0) → zm X 2 44 212 2 [(0, .inr (.inr (some 94))), (1, .inl l1)] m P := by
  intro n
  induction n using Nat.strongRecOn with
  | _ n IH =>
    intro m l1 hmu hF hV hi0 r_W hi2 r_RB r_AX3 r_DZ
    refine g_212_2 l1 ?_
    have f1 : 0 ≤ (m 94 16).toInt ∧ (m 94 16).toInt ≤ 64 := rs_94_16 (m := m) hV
    have li2 : (512 : Int32).toInt = 512 := rfl
    have b3 := i_bd l1
    refine zd (fun (h4 : (512 : Int32) ≤ l1) => ?_) (fun (h4 : ¬ (512 : Int32) ≤ l1) => ?_)
    · skip
      have g5 := i_le h4
      have li6 : (0 : Int32).toInt = 0 := rfl
      exact lp_212ry_26 h0 K _ _ ((0 : Int32)) rfl hF hV (by omega) (by omega) r_W (show 4 ≤ (m 94 16).toInt from by omega) r_RB r_AX3 (show qDo (m 99) (m 102) (m 103) (m 98) (m 101) (m 108) (m 94 14) (m 94 16) (m 117) (0 : Int32).toNatClampNeg from by first | (exact Do_0 (fun k hk => r_DZ k (by omega))) | (exfalso; omega; done) | (exfalso; contradiction; done))
    · skip
      have g7 := i_nle h4
      try have dv : 0 ≤ (l1).toInt ∧ (l1).toInt ≤ 499 := i_div4 (by omega) (by omega) (by omega)
      have hg8 : (0 ≤ l1 ∧ l1.toNatClampNeg < 512) := i_ix (by omega) (by omega)
      refine ⟨hg8, ?_⟩
      have li10 : (0 : Int32).toInt = 0 := rfl
      have hV9 : zV (ma_u m 117 l1.toNatClampNeg (0 : Int32)) := ua_117 hV (by omega) (by omega)
      first | have e11 : (l1 + (1 : Int32)).toInt = l1.toInt + (1) := i_addk rfl (by omega) (by omega) | have b12 := i_bd (l1 + (1 : Int32))
      exact IH (512 - (l1 + (1 : Int32)).toInt).toNat (by omega) _ ((l1 + (1 : Int32))) rfl (zF_u hF rfl) hV9 (by omega) r_W (show 4 ≤ (m 94 16).toInt from by omega) r_RB r_AX3 (show ∀ k : Nat, (k : Int) < (l1 + (1 : Int32)).toInt → ((ma_u m 117 l1.toNatClampNeg (0 : Int32)) 117) k = 0 from by first | (intro k hk; rw [mu_at]; by_cases w : k = l1.toNatClampNeg; (rw [if_pos w]); (rw [if_neg w]; exact r_DZ k (by have := tn_cast (x := l1) (by omega); omega)); done) | (exfalso; omega; done) | (exfalso; contradiction; done))
theorem sp_212ry {X : Nat × (Nat → Int32)} {P : Option ma_V → (Nat → Nat → Int32) → Prop} {aa : Nat→Nat→Int32} {ro : Int32} {m : Nat → Nat → Int32}  (hV : zV m) (r_W : zW (m 94 7) (m 98) (m 101) (m 102) (m 108)) (hpre1 : 4 ≤ (m 94 16).toInt) (r_RB : qRB (m 99) (m 100) (m 98) (m 101) (m 102) (m 103) (m 107) (m 108) (m 109) (m 111) (m 112) (m 113) (m 114) (m 94 55) (m 94 46) ro 0 0 0 1 aa) (r_AX3 : qAX aa (m 94 13) (m 94 14) (m 94 15) (m 94 16)) (KZ : ∀ m₉, zV (zov wr_212 m m₉) → (qDt (m₉ 117) (gFd aa)) → P none (zov wr_212 m m₉)) : zm X 2 44 212 0 [(0, .inr (.inr (some 94)))] m P := by
  have K : ∀ m₉, zF wr_212 m m₉ → zV m₉ → (qDt (m₉ 117) (gFd aa)) → P none m₉ := by
    intro m₉ hf z q0
    have e := zov_eq hf
    rw [e] at z ⊢
    try rw [e] at q0
    exact KZ m₉ z q0
  refine g_212_0  ?_
  have f1 : 0 ≤ (m 94 16).toInt ∧ (m 94 16).toInt ≤ 64 := rs_94_16 (m := m) hV
  have li2 : (0 : Int32).toInt = 0 := rfl
  exact lp_212ry_2 hV K _ _ ((0 : Int32)) rfl zF_rfl hV (by omega) r_W (show 4 ≤ (m 94 16).toInt from by omega) r_RB r_AX3 (show ∀ k : Nat, (k : Int) < (0 : Int32).toInt → (m 117) k = 0 from by first | (intro k hk; exact absurd hk (by have z0 : (0 : Int32).toInt = 0 := rfl; omega); done) | (exfalso; omega; done) | (exfalso; contradiction; done))
theorem sp_187ry {X : Nat × (Nat → Int32)} {P : Option ma_V → (Nat → Nat → Int32) → Prop} {T : Nat} {aa : Nat→Nat→Int32} {ro : Int32} {m : Nat → Nat → Int32}  (hV : zV m) (hpre0 : T ≤ 512) (r_W : zW (m 94 7) (m 98) (m 101) (m 102) (m 108)) (r_GW : zGW T (m 94 55) (m 109)) (r_GU : zGU T (m 94 46) (m 99)) (r_OW : zOw (m 99) (m 103) (m 111)) (hpre5 : (m 94 10).toInt ≠ 4) (r_RB : qRB (m 99) (m 100) (m 98) (m 101) (m 102) (m 103) (m 107) (m 108) (m 109) (m 111) (m 112) (m 113) (m 114) (m 94 55) (m 94 46) ro 0 0 0 1 aa) (r_QI : qI aa) (r_WTS : (m 94 45).toInt = sm (zbU (m 99)) (m 102) 3100) (KZ : ∀ v m₉, zV (zov wr_187 m m₉) → (zGW T (m₉ 94 55) (m₉ 109)) → (zGU T (m 94 46) (m₉ 99)) → (zOw (m₉ 99) (m 103) (m₉ 111)) → (qRB (m₉ 99) (m 100) (m 98) (m 101) (m 102) (m 103) (m 107) (m 108) (m₉ 109) (m₉ 111) (m 112) (m₉ 113) (m₉ 114) (m₉ 94 55) (m 94 46) ro 0 0 0 1 (aSw aa)) → (qI (aSw aa)) → ((m₉ 94 45).toInt = sm (zbU (m₉ 99)) (m 102) 3100) → (∀ s, s < 3100 → (m₉ 99) s ≠ 0 → (m 99) s ≠ 0) → P (some (.inl v)) (zov wr_187 m m₉)) : zm X 4 88 187 0 [(0, .inr (.inr (some 94)))] m P := by
  have K : ∀ v m₉, zF wr_187 m m₉ → zV m₉ → (zGW T (m₉ 94 55) (m₉ 109)) → (zGU T (m₉ 94 46) (m₉ 99)) → (zOw (m₉ 99) (m₉ 103) (m₉ 111)) → (qRB (m₉ 99) (m₉ 100) (m₉ 98) (m₉ 101) (m₉ 102) (m₉ 103) (m₉ 107) (m₉ 108) (m₉ 109) (m₉ 111) (m₉ 112) (m₉ 113) (m₉ 114) (m₉ 94 55) (m₉ 94 46) ro 0 0 0 1 (aSw aa)) → (qI (aSw aa)) → ((m₉ 94 45).toInt = sm (zbU (m₉ 99)) (m₉ 102) 3100) → (∀ s, s < 3100 → (m₉ 99) s ≠ 0 → (m 99) s ≠ 0) → P (some (.inl v)) m₉ := by
    intro v m₉ hf z q0 q1 q2 q3 q4 q5 q6
    have e := zov_eq hf
    rw [e] at z ⊢
    try rw [e] at q0
    try rw [e] at q1
    try rw [e] at q2
    try rw [e] at q3
    try rw [e] at q4
    try rw [e] at q5
    try rw [e] at q6
    exact KZ v m₉ z q0 q1 q2 q3 q4 q5 q6
  refine g_187_0  ?_
  have f1 : 0 ≤ (m 94 10).toInt ∧ (m 94 10).toInt ≤ 6 := rs_94_10 (m := m) hV
  have hV2 : zV (ma_u m 94 47 ((m 94 47) + (1 : Int32))) := uf_94_47 hV
  refine sp_188rm (aa := aa)  hV2 r_W r_RB r_QI (fun m1 hV_m1 p0_m1 p1_m1 p2_m1 => zmv_n ?_)
  have p0_m1 : (m1 94 73).toInt = 0 := p0_m1
  have p1_m1 : ∀ s, s < 3100 → (m 99) s ≠ 0 → ((m1 110) s ≠ 0 ↔ zRch aa ((m 100) s).toNatClampNeg) := p1_m1
  have p2_m1 : ∀ s, s < 3100 → (m1 110) s ≠ 0 → (m 99) s ≠ 0 := p2_m1
  have f3 : 0 ≤ (m1 94 73).toInt ∧ (m1 94 73).toInt ≤ 3100 := rs_94_73 (m := (zov wr_188 (ma_u m 94 47 ((m 94 47) + (1 : Int32))) m1)) hV_m1
  refine sp_194rm (aa := (aRA aa))  hV_m1 (by omega) (show (m 94 10).toInt ≠ 4 from by omega) (show (m1 94 73).toInt = 0 from by omega) r_W r_GW (show qRB (m 99) (m 100) (m 98) (m 101) (m 102) (m 103) (m 107) (m 108) (m 109) (m 111) (m 112) (m 113) (m 114) (m 94 55) (m 94 46) ro 0 0 0 1 (aRA aa) from by first | (exact RB_of r_RB RA_zo) | (exfalso; omega; done) | (exfalso; contradiction; done)) (show qI (aRA aa) from by first | (exact qI_of r_QI RA_zo) | (exfalso; omega; done) | (exfalso; contradiction; done)) (show qKB (m1 110) (m 99) (m 100) (aRA aa) from by first | (exact KB_ra r_QI p2_m1 p1_m1) | (exfalso; omega; done) | (exfalso; contradiction; done)) (show qE0 (aRA aa) from by first | (exact E0_ra r_QI) | (exfalso; omega; done) | (exfalso; contradiction; done)) (show qCl (aRA aa) from by first | (exact Cl_ra r_QI) | (exfalso; omega; done) | (exfalso; contradiction; done)) (fun m3 hV_m3 p0_m3 p1_m3 p2_m3 p3_m3 p4_m3 p5_m3 p6_m3 p7_m3 => zmv_n ?_)
  have p0_m3 : (m3 94 73).toInt = 0 := p0_m3
  have p1_m3 : zGW T (m3 94 55) (m3 109) := p1_m3
  have p2_m3 : zuw (m 113) (m3 113) := p2_m3
  have p3_m3 : qRB (m 99) (m 100) (m 98) (m 101) (m 102) (m 103) (m 107) (m 108) (m3 109) (m 111) (m 112) (m3 113) (m3 114) (m3 94 55) (m 94 46) ro 0 0 0 1 (aGw (aRA aa) 0) := p3_m3
  have p4_m3 : qI (aGw (aRA aa) 0) := p4_m3
  have p5_m3 : qKB (m3 110) (m 99) (m 100) (aGw (aRA aa) 0) := p5_m3
  have p6_m3 : qE0 (aGw (aRA aa) 0) := p6_m3
  have p7_m3 : qCl (aGw (aRA aa) 0) := p7_m3
  have f4 : 0 ≤ (m3 94 73).toInt ∧ (m3 94 73).toInt ≤ 3100 := rs_94_73 (m := (zov wr_194 (zov wr_188 (ma_u m 94 47 ((m 94 47) + (1 : Int32))) m1) m3)) hV_m3
  refine sp_199r  hV_m3  (fun m5 hV_m5 p0_m5 p1_m5 => zmv_n ?_)
  have p0_m5 : zuw (m3 113) (m5 113) := p0_m5
  have p1_m5 : qUr (m3 113) (m5 113) (m3 110) 16 := p1_m5
  refine sp_200rn  hV_m5 (show (m 94 10).toInt ≠ 4 from by omega) r_W r_GU r_OW r_WTS (fun v8 m7 hV_m7 p0_m7 p1_m7 p2_m7 p3_m7 p4_m7 => zmi_n ?_)
  have p0_m7 : zrm (m 99) (m7 99) (m3 110) 3100 := p0_m7
  have p1_m7 : zowr (m 111) (m7 111) (m 99) (m3 110) (m 103) := p1_m7
  have p2_m7 : zGU T (m 94 46) (m7 99) := p2_m7
  have p3_m7 : zOw (m7 99) (m 103) (m7 111) := p3_m7
  have p4_m7 : (m7 94 45).toInt = sm (zbU (m7 99)) (m 102) 3100 := p4_m7
  have b5 := i_bd v8
  exact K (v8) _ (zF_zov (zF_zov (zF_zov (zF_zov (zF_u zF_rfl rfl) ws_188_187) ws_194_187) ws_199_187) ws_200_187) hV_m7 p1_m3 p2_m7 p3_m7 (show qRB (m7 99) (m 100) (m 98) (m 101) (m 102) (m 103) (m 107) (m 108) (m3 109) (m7 111) (m 112) (m5 113) (m3 114) (m3 94 55) (m 94 46) ro 0 0 0 1 (aSw aa) from by first | (exact RB_mv p3_m3 p4_m3 p5_m3 (CK_of p7_m3 p3_m3 p5_m3) p6_m3.1.2.2.2.2.2.1 p1_m5 p0_m7 p1_m7) | (exfalso; omega; done) | (exfalso; contradiction; done)) (show qI (aSw aa) from by first | (exact I_mv p4_m3 p6_m3.1.2.2.2.2.2.1) | (exfalso; omega; done) | (exfalso; contradiction; done)) p4_m7 (show ∀ s, s < 3100 → (m7 99) s ≠ 0 → (m 99) s ≠ 0 from by first | (exact fun s hs z => (((p0_m7 s hs).1 hs).mp z).1) | (exfalso; omega; done) | (exfalso; contradiction; done))
theorem sp_211ry {X : Nat × (Nat → Int32)} {P : Option ma_V → (Nat → Nat → Int32) → Prop} {T : Nat} {aa : Nat→Nat→Int32} {ro : Int32} {m : Nat → Nat → Int32}  (hV : zV m) (hpre0 : T ≤ 512) (r_W : zW (m 94 7) (m 98) (m 101) (m 102) (m 108)) (r_GW : zGW T (m 94 55) (m 109)) (r_GU : zGU T (m 94 46) (m 99)) (r_OW : zOw (m 99) (m 103) (m 111)) (hpre5 : (m 94 10).toInt = 3) (r_RB : qRB (m 99) (m 100) (m 98) (m 101) (m 102) (m 103) (m 107) (m 108) (m 109) (m 111) (m 112) (m 113) (m 114) (m 94 55) (m 94 46) ro 0 0 0 1 aa) (r_AV : qAv aa) (r_AL : qAL aa (m 94 13) (m 94 14) (m 94 15) (m 94 16) (m 94 59) (m 94 60) (m 94 61)) (r_AGq : qAg (m 99) (m 100) (m 104) aa) (r_WTS : (m 94 45).toInt = sm (zbU (m 99)) (m 102) 3100) (KZ : ∀ v m₉, zV (zov wr_211 m m₉) → (zGW T (m₉ 94 55) (m₉ 109)) → (zGU T (m 94 46) (m₉ 99)) → (zOw (m₉ 99) (m₉ 103) (m₉ 111)) → (qRB (m₉ 99) (m 100) (m 98) (m 101) (m 102) (m₉ 103) (m 107) (m 108) (m₉ 109) (m₉ 111) (m 112) (m₉ 113) (m₉ 114) (m₉ 94 55) (m 94 46) ro 0 0 0 1 (gMa aa)) → (qAv (gMa aa)) → (qAL (gMa aa) (m 94 13) (m 94 14) (m 94 15) (m 94 16) (m 94 59) (m₉ 94 60) (m 94 61)) → (qAg (m₉ 99) (m 100) (m 104) (gMa aa)) → (qDt (m₉ 117) (gMa aa)) → ((m₉ 94 45).toInt = sm (zbU (m₉ 99)) (m 102) 3100) → P (some (.inl v)) (zov wr_211 m m₉)) : zm X 5 108 211 0 [(0, .inr (.inr (some 94)))] m P := by
  have K : ∀ v m₉, zF wr_211 m m₉ → zV m₉ → (zGW T (m₉ 94 55) (m₉ 109)) → (zGU T (m₉ 94 46) (m₉ 99)) → (zOw (m₉ 99) (m₉ 103) (m₉ 111)) → (qRB (m₉ 99) (m₉ 100) (m₉ 98) (m₉ 101) (m₉ 102) (m₉ 103) (m₉ 107) (m₉ 108) (m₉ 109) (m₉ 111) (m₉ 112) (m₉ 113) (m₉ 114) (m₉ 94 55) (m₉ 94 46) ro 0 0 0 1 (gMa aa)) → (qAv (gMa aa)) → (qAL (gMa aa) (m₉ 94 13) (m₉ 94 14) (m₉ 94 15) (m₉ 94 16) (m₉ 94 59) (m₉ 94 60) (m₉ 94 61)) → (qAg (m₉ 99) (m₉ 100) (m₉ 104) (gMa aa)) → (qDt (m₉ 117) (gMa aa)) → ((m₉ 94 45).toInt = sm (zbU (m₉ 99)) (m₉ 102) 3100) → P (some (.inl v)) m₉ := by
    intro v m₉ hf z q0 q1 q2 q3 q4 q5 q6 q7 q8
    have e := zov_eq hf
    rw [e] at z ⊢
    try rw [e] at q0
    try rw [e] at q1
    try rw [e] at q2
    try rw [e] at q3
    try rw [e] at q4
    try rw [e] at q5
    try rw [e] at q6
    try rw [e] at q7
    try rw [e] at q8
    exact KZ v m₉ z q0 q1 q2 q3 q4 q5 q6 q7 q8
  refine g_211_0  ?_
  have f1 : 0 ≤ (m 94 10).toInt ∧ (m 94 10).toInt ≤ 6 := rs_94_10 (m := m) hV
  try have alb := AL_b r_AL r_AV
  refine sp_187ry (aa := aa)  hV (by omega) r_W r_GW r_GU r_OW (show (m 94 10).toInt ≠ 4 from by omega) r_RB (show qI aa from by first | (exact r_AV.1) | (exfalso; omega; done) | (exfalso; contradiction; done)) r_WTS (fun v2 m1 hV_m1 p0_m1 p1_m1 p2_m1 p3_m1 p4_m1 p5_m1 p6_m1 => zmi_n ?_)
  have p0_m1 : zGW T (m1 94 55) (m1 109) := p0_m1
  have p1_m1 : zGU T (m 94 46) (m1 99) := p1_m1
  have p2_m1 : zOw (m1 99) (m 103) (m1 111) := p2_m1
  have p3_m1 : qRB (m1 99) (m 100) (m 98) (m 101) (m 102) (m 103) (m 107) (m 108) (m1 109) (m1 111) (m 112) (m1 113) (m1 114) (m1 94 55) (m 94 46) ro 0 0 0 1 (aSw aa) := p3_m1
  have p4_m1 : qI (aSw aa) := p4_m1
  have p5_m1 : (m1 94 45).toInt = sm (zbU (m1 99)) (m 102) 3100 := p5_m1
  have p6_m1 : ∀ s, s < 3100 → (m1 99) s ≠ 0 → (m 99) s ≠ 0 := p6_m1
  have f2 : 0 ≤ (m 94 14).toInt ∧ (m 94 14).toInt ≤ 1500 := rs_94_14 (m := m) hV
  try have alb := AL_b r_AL r_AV
  refine sp_204rm (aa := (aSw aa)) ((m 94 14)) hV_m1 (by omega) (by omega) p2_m1 p3_m1 p4_m1 (fun v4 m3 hV_m3 p0_m3 p1_m3 p2_m3 p3_m3 => zmi_n ?_)
  have p0_m3 : zOw (m1 99) (m3 103) (m3 111) := p0_m3
  have p1_m3 : qRB (m1 99) (m 100) (m 98) (m 101) (m 102) (m3 103) (m 107) (m 108) (m1 109) (m3 111) (m 112) (m1 113) (m1 114) (m1 94 55) (m 94 46) ro 0 0 0 1 (zSd (aSw aa) (m 94 14).toInt 0 0).1 := p1_m3
  have p2_m3 : qEq v4.toInt (zSd (aSw aa) (m 94 14).toInt 0 0).2 ∧ ∃ p, (m 94 14).toInt ≤ p ∧ qJs (zSd (aSw aa) (m 94 14).toInt 0 0).1 p v4.toInt := p2_m3
  have p3_m3 : 0 ≤ v4.toInt ∧ v4.toInt ≤ 1600 := p3_m3
  have b4 := i_bd v4
  have hV3 : zV (ma_u (zov wr_204 (zov wr_187 m m1) m3) 94 60 v4) := us_94_60 hV_m3 (by omega) (by omega)
  try have alb := AL_b r_AL r_AV
  have f5 : 0 ≤ (m 94 16).toInt ∧ (m 94 16).toInt ≤ 64 := rs_94_16 (m := m) hV
  refine sp_212ry (aa := (ma_u (zSd (aSw aa) (m 94 14).toInt 0 0).1 87 10 v4))  hV3 r_W (show 4 ≤ (m 94 16).toInt from by omega) (show qRB (m1 99) (m 100) (m 98) (m 101) (m 102) (m3 103) (m 107) (m 108) (m1 109) (m3 111) (m 112) (m1 113) (m1 114) (m1 94 55) (m 94 46) ro 0 0 0 1 (ma_u (zSd (aSw aa) (m 94 14).toInt 0 0).1 87 10 v4) from by first | (exact RB_87k p1_m3 (by decide) (by decide) (by decide) (by decide) (by decide)) | (exfalso; omega; done) | (exfalso; contradiction; done)) (show qAX (ma_u (zSd (aSw aa) (m 94 14).toInt 0 0).1 87 10 v4) (m 94 13) (m 94 14) (m 94 15) (m 94 16) from by first | (exact AX_h r_AL.1) | (exfalso; omega; done) | (exfalso; contradiction; done)) (fun m5 hV_m5 p0_m5 => zmv_n ?_)
  have p0_m5 : qDt (m5 117) (gFd (ma_u (zSd (aSw aa) (m 94 14).toInt 0 0).1 87 10 v4)) := p0_m5
  try have alb := AL_b r_AL r_AV
  have b6 := i_bd v2
  exact K (v2) _ (zF_zov (zF_u (zF_zov (zF_zov zF_rfl ws_187_211) ws_204_211) rfl) ws_212_211) hV_m5 p0_m1 p1_m1 p0_m3 (show qRB (m1 99) (m 100) (m 98) (m 101) (m 102) (m3 103) (m 107) (m 108) (m1 109) (m3 111) (m 112) (m1 113) (m1 114) (m1 94 55) (m 94 46) ro 0 0 0 1 (gMa aa) from by first | (rw [← (show gFd (ma_u (zSd (aSw aa) (m 94 14).toInt 0 0).1 87 10 _) = gMa aa from congrArg gFd (Ma_h (congrArg Int32.toInt r_AL.1.2.1).symm p2_m3.1).1)]; exact RB_fd (RB_87k p1_m3 (by decide) (by decide) (by decide) (by decide) (by decide)); done) | (exfalso; omega; done) | (exfalso; contradiction; done)) (show qAv (gMa aa) from by first | (exact Av_ma r_AV) | (exact r_AV) | (exfalso; omega; done) | (exfalso; contradiction; done)) (show qAL (gMa aa) (m 94 13) (m 94 14) (m 94 15) (m 94 16) (m 94 59) v4 (m 94 61) from by first | (exact AL_ma r_AL r_AV (Ma_h (congrArg Int32.toInt r_AL.1.2.1).symm p2_m3.1).2) | (exact r_AL) | (exfalso; omega; done) | (exfalso; contradiction; done)) (show qAg (m1 99) (m 100) (m 104) (gMa aa) from by first | (exact Ag_ma2 r_AGq r_AV (show gFd (ma_u (zSd (aSw aa) (m 94 14).toInt 0 0).1 87 10 _) = gMa aa from congrArg gFd (Ma_h (congrArg Int32.toInt r_AL.1.2.1).symm p2_m3.1).1) (RB_fd (RB_87k p1_m3 (by decide) (by decide) (by decide) (by decide) (by decide))).1 p6_m1) | (exact r_AGq) | (exfalso; omega; done) | (exfalso; contradiction; done)) (show qDt (m5 117) (gMa aa) from by first | (rw [← (show gFd (ma_u (zSd (aSw aa) (m 94 14).toInt 0 0).1 87 10 _) = gMa aa from congrArg gFd (Ma_h (congrArg Int32.toInt r_AL.1.2.1).symm p2_m3.1).1)]; exact p0_m5; done) | (exact p0_m5) | (exfalso; omega; done) | (exfalso; contradiction; done)) p5_m1

