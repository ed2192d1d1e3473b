/-! from 95.o13 -/
/-! the reference under COUNTS (written by wip/tools/gen20s.py) -/
set_option maxHeartbeats 8000000 in
theorem lp_200r4_50 {X : Nat × (Nat → Int32)} {P : Option ma_V → (Nat → Nat → Int32) → Prop} {T : Nat} {aa : Nat→Nat→Int32} {w0 : Nat→Int32} {m0 : Nat → Nat → Int32} (h0 : zV m0) (K : ∀ v m₉, zF wr_200 m0 m₉ → zV m₉ → (zrm (m0 99) (m₉ 99) (m₉ 110) 3100) → (zowr (m0 111) (m₉ 111) (m0 99) (m₉ 110) (m₉ 103)) → (zGU T (m₉ 94 46) (m₉ 99)) → (zOw (m₉ 99) (m₉ 103) (m₉ 111)) → ((m₉ 94 45).toInt = sm (zbU (m₉ 99)) (m₉ 102) 3100) → (qCD aa (m₉ 105) (m0 99) (m₉ 100) (m₉ 110) 3100) → P (some (.inl v)) m₉) {n4 : Nat} (OUT4 : ∀ (m₉ : Nat → Nat → Int32) (l1 : Int32) (l2 : Int32), (3100 - l2.toInt).toNat < n4 → zF wr_200 m0 m₉ → zV m₉ → (0 ≤ l2.toInt) → (l2.toInt ≤ 3100) → ((m₉ 94 10).toInt = 4 ∧ (m₉ 94 58).toInt = 0) → (zW (m₉ 94 7) (m₉ 98) (m₉ 101) (m₉ 102) (m₉ 108)) → (zGU T (m₉ 94 46) (m₉ 99)) → (zOw (m₉ 99) (m₉ 103) (m₉ 111)) → (zrm (m0 99) (m₉ 99) (m₉ 110) l2.toNatClampNeg) → (zowr (m0 111) (m₉ 111) (m0 99) (m₉ 110) (m₉ 103)) → ((m₉ 94 45).toInt = sm (zbU (m₉ 99)) (m₉ 102) 3100) → (qRB (m0 99) (m₉ 100) (m₉ 98) (m₉ 101) (m₉ 102) (m₉ 103) (m₉ 107) (m₉ 108) (m₉ 109) (m0 111) (m₉ 112) w0 (m₉ 114) (m₉ 94 55) (m₉ 94 46) (m₉ 94 11) (m₉ 94 12) (m₉ 94 62) (m₉ 94 17) (m₉ 94 9) aa) → (qCD aa (m₉ 105) (m0 99) (m₉ 100) (m₉ 110) l2.toNatClampNeg) → zm X 2 44 200 4 [(0, .inr (.inr (some 94))), (1, .inl l1), (2, .inl l2)] m₉ P) : ∀ (n : Nat) (m : Nat → Nat → Int32) (l1 : Int32) (l2 : Int32) (l3 : Int32), (61 - l3.toInt).toNat = n → zF wr_200 m0 m → zV m → (0 ≤ l2.toInt) → (l2.toInt ≤ 3099) → (0 ≤ l3.toInt) → ((m 94 10).toInt = 4 ∧ (m 94 58).toInt = 0) → ((m 94 10).toInt = 4) → ((3100 - l2.toInt).toNat = n4) → (zW (m 94 7) (m 98) (m 101) (m 102) (m 108)) → (zGU T (m 94 46) (m 99)) → (zOw (m 99) (m 103) (m 111)) → (zrm (m0 99) (m 99) (m 110) l2.toNatClampNeg) → (zowr (m0 111) (m 111) (m0 99) (m 110) (m 103)) → ((m 99) l2.toNatClampNeg ≠ 0 ∧ (m 110) l2.toNatClampNeg = 0) → ((m 94 45).toInt = sm (zbU (m 99)) (m 102) 3100) → (qRB (m0 99) (m 100) (m 98) (m 101) (m 102) (m 103) (m 107) (m 108) (m 109) (m0 111) (m 112) w0 (m 114) (m 94 55) (m 94 46) (m 94 11) (m 94 12) (m 94 62) (m 94 17) (m 94 9) aa) → (qCI aa (m 105) (m0 99) (m 100) (m 110) l2.toNatClampNeg l3.toNatClampNeg) → (l3.toInt ≤ ((m 102) l2.toNatClampNeg).toInt) → zm X 2 44 200 50 [(0, .inr (.inr (some 94))), (1, .inl l1), (2, .inl l2), (3, .inl l3)] m P := by
  intro n
  induction n using Nat.strongRecOn with
  | _ n IH =>
    intro m l1 l2 l3 hmu hF hV hi0 hi1 hi2 hi3 hi4 hi5 r_W r_GU r_OW r_RM r_OWR r_UK r_WTS r_RBo r_CI r_LW
    refine g_200_50 l1 l2 l3 ?_
    have f1 : 0 ≤ (m 94 10).toInt ∧ (m 94 10).toInt ≤ 6 := rs_94_10 (m := m) hV
    have f2 : 0 ≤ (m 94 58).toInt ∧ (m 94 58).toInt ≤ 1 := rs_94_58 (m := m) hV
    have b3 := i_bd l2
    have hg4 : (0 ≤ l2 ∧ l2.toNatClampNeg < 3100) := i_ix (by omega) (by omega)
    refine ⟨hg4, ?_⟩
    first | have f5 : 0 ≤ (m 102 l2.toNatClampNeg).toInt ∧ (m 102 l2.toNatClampNeg).toInt ≤ 60 := ra_102 (m := m) hV (k := l2.toNatClampNeg) (i_ix (n := 3100) (by omega) (by omega)).2 | have b6 := i_bd (m 102 l2.toNatClampNeg)
    have b7 := i_bd l3
    refine zd (fun (h8 : (m 102 l2.toNatClampNeg) ≤ l3) => ?_) (fun (h8 : ¬ (m 102 l2.toNatClampNeg) ≤ l3) => ?_)
    · skip
      have g9 := i_le h8
      have hg10 : (0 ≤ l2 ∧ l2.toNatClampNeg < 3100) := i_ix (by omega) (by omega)
      refine ⟨hg10, ?_⟩
      have hg11 : (0 ≤ l2 ∧ l2.toNatClampNeg < 3100) := i_ix (by omega) (by omega)
      refine ⟨hg11, ?_⟩
      first | have f12 : 0 ≤ (m 103 l2.toNatClampNeg).toInt ∧ (m 103 l2.toNatClampNeg).toInt ≤ 4599 := ra_103 (m := m) hV (k := l2.toNatClampNeg) (i_ix (n := 3100) (by omega) (by omega)).2 | have b13 := i_bd (m 103 l2.toNatClampNeg)
      have hg14 : (0 ≤ (m 103 l2.toNatClampNeg) ∧ (m 103 l2.toNatClampNeg).toNatClampNeg < 4600) := i_ix (by omega) (by omega)
      refine ⟨hg14, ?_⟩
      have hg15 : (0 ≤ l2 ∧ l2.toNatClampNeg < 3100) := i_ix (by omega) (by omega)
      refine ⟨hg15, ?_⟩
      have hg16 : (0 ≤ l2 ∧ l2.toNatClampNeg < 3100) := i_ix (by omega) (by omega)
      refine ⟨hg16, ?_⟩
      have li18 : (0 : Int32).toInt = 0 := rfl
      have hV17 : zV (ma_u m 99 l2.toNatClampNeg (0 : Int32)) := ua_99 hV (by omega) (by omega)
      have li20 : (-1 : Int32).toInt = -1 := rfl
      have hV19 : zV (ma_u (ma_u m 99 l2.toNatClampNeg (0 : Int32)) 111 (m 103 l2.toNatClampNeg).toNatClampNeg (-1 : Int32)) := ua_111 hV17 (by omega) (by omega)
      have hV21 : zV (ma_u (ma_u (ma_u m 99 l2.toNatClampNeg (0 : Int32)) 111 (m 103 l2.toNatClampNeg).toNatClampNeg (-1 : Int32)) 94 44 ((m 94 44) - (1 : Int32))) := uf_94_44 hV19
      have hV22 : zV (ma_u (ma_u (ma_u (ma_u m 99 l2.toNatClampNeg (0 : Int32)) 111 (m 103 l2.toNatClampNeg).toNatClampNeg (-1 : Int32)) 94 44 ((m 94 44) - (1 : Int32))) 94 45 ((m 94 45) - ((m 102 l2.toNatClampNeg) + (1 : Int32)))) := uf_94_45 hV21
      have hV23 : zV (ma_u (ma_u (ma_u (ma_u (ma_u m 99 l2.toNatClampNeg (0 : Int32)) 111 (m 103 l2.toNatClampNeg).toNatClampNeg (-1 : Int32)) 94 44 ((m 94 44) - (1 : Int32))) 94 45 ((m 94 45) - ((m 102 l2.toNatClampNeg) + (1 : Int32)))) 94 49 ((m 94 49) + ((m 102 l2.toNatClampNeg) + (1 : Int32)))) := uf_94_49 hV22
      have b24 := i_bd l1
      first | have e25 : (l2 + (1 : Int32)).toInt = l2.toInt + (1) := i_addk rfl (by omega) (by omega) | have b26 := i_bd (l2 + (1 : Int32))
      exact OUT4 _ (l1) ((l2 + (1 : Int32))) (show (3100 - (l2 + (1 : Int32)).toInt).toNat < n4 from by omega) (zF_u (zF_u (zF_u (zF_u (zF_u hF rfl) rfl) rfl) rfl) rfl) hV23 (by omega) (by omega) (show (m 94 10).toInt = 4 ∧ (m 94 58).toInt = 0 from by omega) r_W (show zGU T (m 94 46) ((ma_u m 99 l2.toNatClampNeg (0 : Int32)) 99) from by first | (exact GU_0 r_GU) | (exfalso; omega; done) | (exfalso; contradiction; done)) (show zOw ((ma_u m 99 l2.toNatClampNeg (0 : Int32)) 99) (m 103) ((ma_u m 111 (m 103 l2.toNatClampNeg).toNatClampNeg (-1 : Int32)) 111) from by first | (exact Ow_rm r_OW (by decide) (tn_cast (by omega)).symm) | (exfalso; omega; done) | (exfalso; contradiction; done)) (show zrm (m0 99) ((ma_u m 99 l2.toNatClampNeg (0 : Int32)) 99) (m 110) (l2 + (1 : Int32)).toNatClampNeg from by first | (exact rm_put r_RM (by assumption) (tn_succ (by omega) (by omega))) | (exact rm_put r_RM r_UK.2 (tn_succ (by omega) (by omega))) | (exfalso; omega; done) | (exfalso; contradiction; done)) (show zowr (m0 111) ((ma_u m 111 (m 103 l2.toNatClampNeg).toNatClampNeg (-1 : Int32)) 111) (m0 99) (m 110) (m 103) from by first | (exact owr_put r_OWR (s := l2.toNatClampNeg) (by omega) (rm_us r_RM (by omega) (by assumption)) (by assumption) (by decide) (tn_cast (by omega)).symm) | (exact owr_put r_OWR (s := l2.toNatClampNeg) (by omega) (rm_us r_RM (by omega) r_UK.1) r_UK.2 (by decide) (tn_cast (by omega)).symm) | (exfalso; omega; done) | (exfalso; contradiction; done)) (show ((m 94 45) - ((m 102 l2.toNatClampNeg) + (1 : Int32))).toInt = sm (zbU ((ma_u m 99 l2.toNatClampNeg (0 : Int32)) 99)) (m 102) 3100 from by first | (exact WT_rm r_WTS (by omega) (by assumption) (fun t ht => ra_102 hV ht)) | (exact WT_rm r_WTS (tn_lt (by omega) (by omega)) r_UK.1 (fun t ht => ra_102 hV ht)) | (exfalso; omega; done) | (exfalso; contradiction; done)) r_RBo (show qCD aa (m 105) (m0 99) (m 100) (m 110) (l2 + (1 : Int32)).toNatClampNeg from by first | (exact CI_e r_CI r_RBo (tn_lt (by omega) (by omega)) (rm_us r_RM (by omega) r_UK.1) r_UK.2 (by have lw := r_LW; rw [tn_cast (by omega)]; omega) (tn_succ (by omega) (by omega))) | (exfalso; omega; done) | (exfalso; contradiction; done))
    · skip
      have g27 := i_nle h8
      refine sp_192 (l2) (l3) hV (by omega) (by omega) (by omega) (show l3.toInt < (m 102 l2.toNatClampNeg).toInt from by omega) (fun v2 m1 hV_m1 p0_m1 => zmi_n ?_)
      have p0_m1 : v2 = zrf (m 98) (m 101) (m 108) l2.toNatClampNeg l3.toNatClampNeg := p0_m1
      try have := W_ref r_W (by omega) (by omega) (by omega) (by omega) p0_m1
      have b28 := i_bd v2
      have li29 : (0 : Int32).toInt = 0 := rfl
      refine zd (fun (h30 : v2 < (0 : Int32)) => ?_) (fun (h30 : ¬ v2 < (0 : Int32)) => ?_)
      · skip
        have g31 := i_lt h30
        have b32 := i_bd l1
        first | have e33 : (l3 + (1 : Int32)).toInt = l3.toInt + (1) := i_addk rfl (by omega) (by omega) | have b34 := i_bd (l3 + (1 : Int32))
        exact IH (61 - (l3 + (1 : Int32)).toInt).toNat (by omega) _ (l1) (l2) ((l3 + (1 : Int32))) rfl (zF_zov hF ws_192_200) hV_m1 (by omega) (by omega) (by omega) (show (m 94 10).toInt = 4 ∧ (m 94 58).toInt = 0 from by omega) (show (m 94 10).toInt = 4 from by omega) (by omega) r_W r_GU r_OW r_RM r_OWR r_UK r_WTS r_RBo (show qCI aa (m 105) (m0 99) (m 100) (m 110) l2.toNatClampNeg (l3 + (1 : Int32)).toNatClampNeg from by first | (exact CI_n r_CI r_RBo (tn_lt (by omega) (by omega)) (rm_us r_RM (by omega) r_UK.1) (by rw [tn_cast (by omega)]; omega) p0_m1 (Or.inl (by omega)) (tn_succ (by omega) (by omega))) | (exact CI_n r_CI r_RBo (tn_lt (by omega) (by omega)) (rm_us r_RM (by omega) r_UK.1) (by rw [tn_cast (by omega)]; omega) p0_m1 (Or.inr (by assumption)) (tn_succ (by omega) (by omega))) | (exfalso; omega; done) | (exfalso; contradiction; done)) (show (l3 + (1 : Int32)).toInt ≤ ((m 102) l2.toNatClampNeg).toInt from by first | (have w60 := ra_102 hV (k := l2.toNatClampNeg) (by omega); have z0 : (0 : Int32).toInt = 0 := rfl; omega; done) | (omega; done) | (exfalso; omega; done) | (exfalso; contradiction; done))
      · skip
        have g35 := i_nlt h30
        have hg36 : (0 ≤ v2 ∧ v2.toNatClampNeg < 3100) := i_ix (by omega) (by omega)
        refine ⟨hg36, ?_⟩
        first | have f37 : 0 ≤ (m 110 v2.toNatClampNeg).toInt ∧ (m 110 v2.toNatClampNeg).toInt ≤ 1 := ra_110 (m := m) hV (k := v2.toNatClampNeg) (i_ix (n := 3100) (by omega) (by omega)).2 | have b38 := i_bd (m 110 v2.toNatClampNeg)
        refine zd (fun (h39 : (m 110 v2.toNatClampNeg) = (0 : Int32)) => ?_) (fun (h39 : ¬ (m 110 v2.toNatClampNeg) = (0 : Int32)) => ?_)
        · skip
          have g40 := i_eq h39
          have b41 := i_bd l1
          first | have e42 : (l3 + (1 : Int32)).toInt = l3.toInt + (1) := i_addk rfl (by omega) (by omega) | have b43 := i_bd (l3 + (1 : Int32))
          exact IH (61 - (l3 + (1 : Int32)).toInt).toNat (by omega) _ (l1) (l2) ((l3 + (1 : Int32))) rfl (zF_zov hF ws_192_200) hV_m1 (by omega) (by omega) (by omega) (show (m 94 10).toInt = 4 ∧ (m 94 58).toInt = 0 from by omega) (show (m 94 10).toInt = 4 from by omega) (by omega) r_W r_GU r_OW r_RM r_OWR r_UK r_WTS r_RBo (show qCI aa (m 105) (m0 99) (m 100) (m 110) l2.toNatClampNeg (l3 + (1 : Int32)).toNatClampNeg from by first | (exact CI_n r_CI r_RBo (tn_lt (by omega) (by omega)) (rm_us r_RM (by omega) r_UK.1) (by rw [tn_cast (by omega)]; omega) p0_m1 (Or.inl (by omega)) (tn_succ (by omega) (by omega))) | (exact CI_n r_CI r_RBo (tn_lt (by omega) (by omega)) (rm_us r_RM (by omega) r_UK.1) (by rw [tn_cast (by omega)]; omega) p0_m1 (Or.inr (by assumption)) (tn_succ (by omega) (by omega))) | (exfalso; omega; done) | (exfalso; contradiction; done)) (show (l3 + (1 : Int32)).toInt ≤ ((m 102) l2.toNatClampNeg).toInt from by first | (have w60 := ra_102 hV (k := l2.toNatClampNeg) (by omega); have z0 : (0 : Int32).toInt = 0 := rfl; omega; done) | (omega; done) | (exfalso; omega; done) | (exfalso; contradiction; done))
        · skip
          have g44 := i_ne h39
          have hg45 : (0 ≤ v2 ∧ v2.toNatClampNeg < 3100) := i_ix (by omega) (by omega)
          refine ⟨hg45, ?_⟩
          have hg46 : (0 ≤ v2 ∧ v2.toNatClampNeg < 3100) := i_ix (by omega) (by omega)
          refine ⟨hg46, ?_⟩
          have hV47 : zV (ma_u (zov wr_192 m m1) 105 v2.toNatClampNeg ((m 105 v2.toNatClampNeg) - (1 : Int32))) := ua_105 hV_m1
          have b48 := i_bd l1
          first | have e49 : (l3 + (1 : Int32)).toInt = l3.toInt + (1) := i_addk rfl (by omega) (by omega) | have b50 := i_bd (l3 + (1 : Int32))
          exact IH (61 - (l3 + (1 : Int32)).toInt).toNat (by omega) _ (l1) (l2) ((l3 + (1 : Int32))) rfl (zF_u (zF_zov hF ws_192_200) rfl) hV47 (by omega) (by omega) (by omega) (show (m 94 10).toInt = 4 ∧ (m 94 58).toInt = 0 from by omega) (show (m 94 10).toInt = 4 from by omega) (by omega) r_W r_GU r_OW r_RM r_OWR r_UK r_WTS r_RBo (show qCI aa ((ma_u m 105 v2.toNatClampNeg ((m 105 v2.toNatClampNeg) - (1 : Int32))) 105) (m0 99) (m 100) (m 110) l2.toNatClampNeg (l3 + (1 : Int32)).toNatClampNeg from by first | (exact CI_y r_CI r_RBo (tn_lt (by omega) (by omega)) (rm_us r_RM (by omega) r_UK.1) (by rw [tn_cast (by omega)]; omega) p0_m1 (by omega) mu_up (tn_succ (by omega) (by omega))) | (exfalso; omega; done) | (exfalso; contradiction; done)) (show (l3 + (1 : Int32)).toInt ≤ ((m 102) l2.toNatClampNeg).toInt from by first | (have w60 := ra_102 hV (k := l2.toNatClampNeg) (by omega); have z0 : (0 : Int32).toInt = 0 := rfl; omega; done) | (omega; done) | (exfalso; omega; done) | (exfalso; contradiction; done))
set_option maxHeartbeats 8000000 in
theorem lp_200r4_4 {X : Nat × (Nat → Int32)} {P : Option ma_V → (Nat → Nat → Int32) → Prop} {T : Nat} {aa : Nat→Nat→Int32} {w0 : Nat→Int32} {m0 : Nat → Nat → Int32} (h0 : zV m0) (K : ∀ v m₉, zF wr_200 m0 m₉ → zV m₉ → (zrm (m0 99) (m₉ 99) (m₉ 110) 3100) → (zowr (m0 111) (m₉ 111) (m0 99) (m₉ 110) (m₉ 103)) → (zGU T (m₉ 94 46) (m₉ 99)) → (zOw (m₉ 99) (m₉ 103) (m₉ 111)) → ((m₉ 94 45).toInt = sm (zbU (m₉ 99)) (m₉ 102) 3100) → (qCD aa (m₉ 105) (m0 99) (m₉ 100) (m₉ 110) 3100) → P (some (.inl v)) m₉) : ∀ (n : Nat) (m : Nat → Nat → Int32) (l1 : Int32) (l2 : Int32), (3100 - l2.toInt).toNat = n → zF wr_200 m0 m → zV m → (0 ≤ l2.toInt) → (l2.toInt ≤ 3100) → ((m 94 10).toInt = 4 ∧ (m 94 58).toInt = 0) → (zW (m 94 7) (m 98) (m 101) (m 102) (m 108)) → (zGU T (m 94 46) (m 99)) → (zOw (m 99) (m 103) (m 111)) → (zrm (m0 99) (m 99) (m 110) l2.toNatClampNeg) → (zowr (m0 111) (m 111) (m0 99) (m 110) (m 103)) → ((m 94 45).toInt = sm (zbU (m 99)) (m 102) 3100) → (qRB (m0 99) (m 100) (m 98) (m 101) (m 102) (m 103) (m 107) (m 108) (m 109) (m0 111) (m 112) w0 (m 114) (m 94 55) (m 94 46) (m 94 11) (m 94 12) (m 94 62) (m 94 17) (m 94 9) aa) → (qCD aa (m 105) (m0 99) (m 100) (m 110) l2.toNatClampNeg) → zm X 2 44 200 4 [(0, .inr (.inr (some 94))), (1, .inl l1), (2, .inl l2)] m P := by
  intro n
  induction n using Nat.strongRecOn with
  | _ n IH =>
    intro m l1 l2 hmu hF hV hi0 hi1 hi2 r_W r_GU r_OW r_RM r_OWR r_WTS r_RBo r_CD
    refine g_200_4 l1 l2 ?_
    have f1 : 0 ≤ (m 94 10).toInt ∧ (m 94 10).toInt ≤ 6 := rs_94_10 (m := m) hV
    have f2 : 0 ≤ (m 94 58).toInt ∧ (m 94 58).toInt ≤ 1 := rs_94_58 (m := m) hV
    have li3 : (3100 : Int32).toInt = 3100 := rfl
    have b4 := i_bd l2
    refine zd (fun (h5 : (3100 : Int32) ≤ l2) => ?_) (fun (h5 : ¬ (3100 : Int32) ≤ l2) => ?_)
    · skip
      have g6 := i_le h5
      have b7 := i_bd l1
      exact K (l1) _ hF hV (show zrm (m0 99) (m 99) (m 110) 3100 from by first | (exact rm_end r_RM (by rw [tn_eq]; omega)) | (exfalso; omega; done) | (exfalso; contradiction; done)) r_OWR r_GU r_OW r_WTS (show qCD aa (m 105) (m0 99) (m 100) (m 110) 3100 from by first | (exact (show l2.toNatClampNeg = 3100 from by rw [tn_eq]; omega) ▸ r_CD) | (exfalso; omega; done) | (exfalso; contradiction; done))
    · skip
      have g8 := i_nle h5
      have hg9 : (0 ≤ l2 ∧ l2.toNatClampNeg < 3100) := i_ix (by omega) (by omega)
      refine ⟨hg9, ?_⟩
      first | have f10 : 0 ≤ (m 99 l2.toNatClampNeg).toInt ∧ (m 99 l2.toNatClampNeg).toInt ≤ 1 := ra_99 (m := m) hV (k := l2.toNatClampNeg) (i_ix (n := 3100) (by omega) (by omega)).2 | have b11 := i_bd (m 99 l2.toNatClampNeg)
      have li12 : (0 : Int32).toInt = 0 := rfl
      refine zd (fun (h13 : (m 99 l2.toNatClampNeg) = (0 : Int32)) => ?_) (fun (h13 : ¬ (m 99 l2.toNatClampNeg) = (0 : Int32)) => ?_)
      · skip
        have g14 := i_eq h13
        have b15 := i_bd l1
        first | have e16 : (l2 + (1 : Int32)).toInt = l2.toInt + (1) := i_addk rfl (by omega) (by omega) | have b17 := i_bd (l2 + (1 : Int32))
        exact IH (3100 - (l2 + (1 : Int32)).toInt).toNat (by omega) _ (l1) ((l2 + (1 : Int32))) rfl hF hV (by omega) (by omega) (show (m 94 10).toInt = 4 ∧ (m 94 58).toInt = 0 from by omega) r_W r_GU r_OW (show zrm (m0 99) (m 99) (m 110) (l2 + (1 : Int32)).toNatClampNeg from by first | (exact rm_skip r_RM (Or.inl (by assumption)) (tn_succ (by omega) (by omega))) | (exact rm_skip r_RM (Or.inr (by assumption)) (tn_succ (by omega) (by omega))) | (exfalso; omega; done) | (exfalso; contradiction; done)) r_OWR r_WTS r_RBo (show qCD aa (m 105) (m0 99) (m 100) (m 110) (l2 + (1 : Int32)).toNatClampNeg from by first | (exact CD_s r_CD (Or.inl (by rw [← rm_eq r_RM (tn_lt (by omega) (by omega))]; assumption)) (tn_succ (by omega) (by omega))) | (exact CD_s r_CD (Or.inr (by assumption)) (tn_succ (by omega) (by omega))) | (exfalso; omega; done) | (exfalso; contradiction; done))
      · skip
        have g18 := i_ne h13
        have hg19 : (0 ≤ l2 ∧ l2.toNatClampNeg < 3100) := i_ix (by omega) (by omega)
        refine ⟨hg19, ?_⟩
        first | have f20 : 0 ≤ (m 110 l2.toNatClampNeg).toInt ∧ (m 110 l2.toNatClampNeg).toInt ≤ 1 := ra_110 (m := m) hV (k := l2.toNatClampNeg) (i_ix (n := 3100) (by omega) (by omega)).2 | have b21 := i_bd (m 110 l2.toNatClampNeg)
        refine zd (fun (h22 : (m 110 l2.toNatClampNeg) = (0 : Int32)) => ?_) (fun (h22 : ¬ (m 110 l2.toNatClampNeg) = (0 : Int32)) => ?_)
        · skip
          have g23 := i_eq h22
          have hg24 : (0 ≤ l2 ∧ l2.toNatClampNeg < 3100) := i_ix (by omega) (by omega)
          refine ⟨hg24, ?_⟩
          have li25 : (4 : Int32).toInt = 4 := rfl
          refine zd (fun (h26 : (m 94 10) = (4 : Int32)) => ?_) (fun (h26 : ¬ (m 94 10) = (4 : Int32)) => ?_)
          · skip
            have g27 := i_eq h26
            have b28 := i_bd l1
            first | have f29 : 0 ≤ (m 102 l2.toNatClampNeg).toInt ∧ (m 102 l2.toNatClampNeg).toInt ≤ 60 := ra_102 (m := m) hV (k := l2.toNatClampNeg) (i_ix (n := 3100) (by omega) (by omega)).2 | have b30 := i_bd (m 102 l2.toNatClampNeg)
            first | have e31 : ((m 102 l2.toNatClampNeg) + (1 : Int32)).toInt = (m 102 l2.toNatClampNeg).toInt + (1) := i_addk rfl (by omega) (by omega) | have b32 := i_bd ((m 102 l2.toNatClampNeg) + (1 : Int32))
            first | have e33 : (l1 + ((m 102 l2.toNatClampNeg) + (1 : Int32))).toInt = l1.toInt + ((m 102 l2.toNatClampNeg) + (1 : Int32)).toInt := i_add (by omega) (by omega) | have b34 := i_bd (l1 + ((m 102 l2.toNatClampNeg) + (1 : Int32)))
            exact lp_200r4_50 h0 K (fun _ _ _ z1 z2 z3 y0 y1 y2 y3 y4 y5 y6 y7 y8 y9 y10 => IH _ z1 _ _ _ rfl z2 z3 y0 y1 y2 y3 y4 y5 y6 y7 y8 y9 y10) _ _ ((l1 + ((m 102 l2.toNatClampNeg) + (1 : Int32)))) (l2) ((0 : Int32)) rfl hF hV (by omega) (by omega) (by omega) (show (m 94 10).toInt = 4 ∧ (m 94 58).toInt = 0 from by omega) (show (m 94 10).toInt = 4 from by omega) (by omega) r_W r_GU r_OW r_RM r_OWR (show (m 99) l2.toNatClampNeg ≠ 0 ∧ (m 110) l2.toNatClampNeg = 0 from by first | (exact ⟨by assumption, by assumption⟩) | (exfalso; omega; done) | (exfalso; contradiction; done)) r_WTS r_RBo (show qCI aa (m 105) (m0 99) (m 100) (m 110) l2.toNatClampNeg (0 : Int32).toNatClampNeg from by first | (exact CI_0 r_CD (by decide)) | (exfalso; omega; done) | (exfalso; contradiction; done)) (show (0 : Int32).toInt ≤ ((m 102) l2.toNatClampNeg).toInt from by first | (have w60 := ra_102 hV (k := l2.toNatClampNeg) (by omega); have z0 : (0 : Int32).toInt = 0 := rfl; omega; done) | (omega; done) | (exfalso; omega; done) | (exfalso; contradiction; done))
          · skip
            have g35 := i_ne h26
            exfalso; omega
        · skip
          have g36 := i_ne h22
          have b37 := i_bd l1
          first | have e38 : (l2 + (1 : Int32)).toInt = l2.toInt + (1) := i_addk rfl (by omega) (by omega) | have b39 := i_bd (l2 + (1 : Int32))
          exact IH (3100 - (l2 + (1 : Int32)).toInt).toNat (by omega) _ (l1) ((l2 + (1 : Int32))) rfl hF hV (by omega) (by omega) (show (m 94 10).toInt = 4 ∧ (m 94 58).toInt = 0 from by omega) r_W r_GU r_OW (show zrm (m0 99) (m 99) (m 110) (l2 + (1 : Int32)).toNatClampNeg from by first | (exact rm_skip r_RM (Or.inl (by assumption)) (tn_succ (by omega) (by omega))) | (exact rm_skip r_RM (Or.inr (by assumption)) (tn_succ (by omega) (by omega))) | (exfalso; omega; done) | (exfalso; contradiction; done)) r_OWR r_WTS r_RBo (show qCD aa (m 105) (m0 99) (m 100) (m 110) (l2 + (1 : Int32)).toNatClampNeg from by first | (exact CD_s r_CD (Or.inl (by rw [← rm_eq r_RM (tn_lt (by omega) (by omega))]; assumption)) (tn_succ (by omega) (by omega))) | (exact CD_s r_CD (Or.inr (by assumption)) (tn_succ (by omega) (by omega))) | (exfalso; omega; done) | (exfalso; contradiction; done))
set_option maxHeartbeats 8000000 in
theorem sp_200r4 {X : Nat × (Nat → Int32)} {P : Option ma_V → (Nat → Nat → Int32) → Prop} {T : Nat} {aa : Nat→Nat→Int32} {w0 : Nat→Int32} {m : Nat → Nat → Int32}  (hV : zV m) (hpre0 : (m 94 10).toInt = 4 ∧ (m 94 58).toInt = 0) (r_W : zW (m 94 7) (m 98) (m 101) (m 102) (m 108)) (r_GU : zGU T (m 94 46) (m 99)) (r_OW : zOw (m 99) (m 103) (m 111)) (r_WTS : (m 94 45).toInt = sm (zbU (m 99)) (m 102) 3100) (r_RBx : qRB (m 99) (m 100) (m 98) (m 101) (m 102) (m 103) (m 107) (m 108) (m 109) (m 111) (m 112) w0 (m 114) (m 94 55) (m 94 46) (m 94 11) (m 94 12) (m 94 62) (m 94 17) (m 94 9) aa) (r_QI : qI aa) (r_CT : qCt (m 105) (m 99) (m 100) aa [] (-1) (-1)) (KZ : ∀ v m₉, zV (zov wr_200 m m₉) → (zrm (m 99) (m₉ 99) (m 110) 3100) → (zowr (m 111) (m₉ 111) (m 99) (m 110) (m 103)) → (zGU T (m 94 46) (m₉ 99)) → (zOw (m₉ 99) (m 103) (m₉ 111)) → ((m₉ 94 45).toInt = sm (zbU (m₉ 99)) (m 102) 3100) → (qCD aa (m₉ 105) (m 99) (m 100) (m 110) 3100) → P (some (.inl v)) (zov wr_200 m m₉)) : zm X 2 44 200 0 [(0, .inr (.inr (some 94)))] m P := by
  have K : ∀ v m₉, zF wr_200 m m₉ → zV m₉ → (zrm (m 99) (m₉ 99) (m₉ 110) 3100) → (zowr (m 111) (m₉ 111) (m 99) (m₉ 110) (m₉ 103)) → (zGU T (m₉ 94 46) (m₉ 99)) → (zOw (m₉ 99) (m₉ 103) (m₉ 111)) → ((m₉ 94 45).toInt = sm (zbU (m₉ 99)) (m₉ 102) 3100) → (qCD aa (m₉ 105) (m 99) (m₉ 100) (m₉ 110) 3100) → P (some (.inl v)) m₉ := by
    intro v m₉ hf z q0 q1 q2 q3 q4 q5
    have e := zov_eq hf
    rw [e] at z ⊢
    try rw [e] at q0
    try rw [e] at q1
    try rw [e] at q2
    try rw [e] at q3
    try rw [e] at q4
    try rw [e] at q5
    exact KZ v m₉ z q0 q1 q2 q3 q4 q5
  refine g_200_0  ?_
  have f1 : 0 ≤ (m 94 10).toInt ∧ (m 94 10).toInt ≤ 6 := rs_94_10 (m := m) hV
  have f2 : 0 ≤ (m 94 58).toInt ∧ (m 94 58).toInt ≤ 1 := rs_94_58 (m := m) hV
  have li3 : (0 : Int32).toInt = 0 := rfl
  exact lp_200r4_4 hV K _ _ ((0 : Int32)) ((0 : Int32)) rfl zF_rfl hV (by omega) (by omega) (show (m 94 10).toInt = 4 ∧ (m 94 58).toInt = 0 from by omega) r_W r_GU r_OW (show zrm (m 99) (m 99) (m 110) (0 : Int32).toNatClampNeg from by first | (exact rm_0) | (exfalso; omega; done) | (exfalso; contradiction; done)) (show zowr (m 111) (m 111) (m 99) (m 110) (m 103) from by first | (exact owr_rfl) | (exfalso; omega; done) | (exfalso; contradiction; done)) r_WTS (show qRB (m 99) (m 100) (m 98) (m 101) (m 102) (m 103) (m 107) (m 108) (m 109) (m 111) (m 112) w0 (m 114) (m 94 55) (m 94 46) (m 94 11) (m 94 12) (m 94 62) (m 94 17) (m 94 9) aa from by first | (exact r_RBx) | (exfalso; omega; done) | (exfalso; contradiction; done)) (show qCD aa (m 105) (m 99) (m 100) (m 110) (0 : Int32).toNatClampNeg from by first | (exact CD_0 r_QI r_RBx.1 r_CT (by decide)) | (exfalso; omega; done) | (exfalso; contradiction; done))
set_option maxHeartbeats 8000000 in
theorem sp_187r4 {X : Nat × (Nat → Int32)} {P : Option ma_V → (Nat → Nat → Int32) → Prop} {T : Nat} {aa : Nat→Nat→Int32} {B : Int} {m : Nat → Nat → Int32}  (hV : zV m) (hpre0 : T ≤ 512) (r_W : zW (m 94 7) (m 98) (m 101) (m 102) (m 108)) (r_GW : zGW T (m 94 55) (m 109)) (r_GU : zGU T (m 94 46) (m 99)) (r_OW : zOw (m 99) (m 103) (m 111)) (hpre5 : (m 94 10).toInt = 4 ∧ (m 94 58).toInt = 0) (r_RB : qRB (m 99) (m 100) (m 98) (m 101) (m 102) (m 103) (m 107) (m 108) (m 109) (m 111) (m 112) (m 113) (m 114) (m 94 55) (m 94 46) (m 94 11) (m 94 12) (m 94 62) (m 94 17) (m 94 9) aa) (r_QI : qI aa) (r_WTS : (m 94 45).toInt = sm (zbU (m 99)) (m 102) 3100) (r_VV : cV aa [] B) (r_CT : qCt (m 105) (m 99) (m 100) aa [] (-1) (-1)) (KZ : ∀ v m₉, zV (zov wr_187 m m₉) → (zGW T (m₉ 94 55) (m₉ 109)) → (zGU T (m 94 46) (m₉ 99)) → (zOw (m₉ 99) (m 103) (m₉ 111)) → (qRB (m₉ 99) (m 100) (m 98) (m 101) (m 102) (m 103) (m 107) (m 108) (m₉ 109) (m₉ 111) (m 112) (m₉ 113) (m₉ 114) (m₉ 94 55) (m 94 46) (m 94 11) (m 94 12) (m 94 62) (m 94 17) (m 94 9) (aSw aa)) → (qI (aSw aa)) → ((m₉ 94 45).toInt = sm (zbU (m₉ 99)) (m 102) 3100) → (cV (aSw aa) [] B) → (qCt (m₉ 105) (m₉ 99) (m 100) (aSw aa) [] (-1) (-1)) → P (some (.inl v)) (zov wr_187 m m₉)) : zm X 4 88 187 0 [(0, .inr (.inr (some 94)))] m P := by
  have K : ∀ v m₉, zF wr_187 m m₉ → zV m₉ → (zGW T (m₉ 94 55) (m₉ 109)) → (zGU T (m₉ 94 46) (m₉ 99)) → (zOw (m₉ 99) (m₉ 103) (m₉ 111)) → (qRB (m₉ 99) (m₉ 100) (m₉ 98) (m₉ 101) (m₉ 102) (m₉ 103) (m₉ 107) (m₉ 108) (m₉ 109) (m₉ 111) (m₉ 112) (m₉ 113) (m₉ 114) (m₉ 94 55) (m₉ 94 46) (m₉ 94 11) (m₉ 94 12) (m₉ 94 62) (m₉ 94 17) (m₉ 94 9) (aSw aa)) → (qI (aSw aa)) → ((m₉ 94 45).toInt = sm (zbU (m₉ 99)) (m₉ 102) 3100) → (cV (aSw aa) [] B) → (qCt (m₉ 105) (m₉ 99) (m₉ 100) (aSw aa) [] (-1) (-1)) → P (some (.inl v)) m₉ := by
    intro v m₉ hf z q0 q1 q2 q3 q4 q5 q6 q7
    have e := zov_eq hf
    rw [e] at z ⊢
    try rw [e] at q0
    try rw [e] at q1
    try rw [e] at q2
    try rw [e] at q3
    try rw [e] at q4
    try rw [e] at q5
    try rw [e] at q6
    try rw [e] at q7
    exact KZ v m₉ z q0 q1 q2 q3 q4 q5 q6 q7
  refine g_187_0  ?_
  have f1 : 0 ≤ (m 94 10).toInt ∧ (m 94 10).toInt ≤ 6 := rs_94_10 (m := m) hV
  have f2 : 0 ≤ (m 94 58).toInt ∧ (m 94 58).toInt ≤ 1 := rs_94_58 (m := m) hV
  have hV3 : zV (ma_u m 94 47 ((m 94 47) + (1 : Int32))) := uf_94_47 hV
  refine sp_188rn (aa := aa)  hV3 r_W r_RB r_QI (fun m1 hV_m1 p0_m1 p1_m1 p2_m1 => zmv_n ?_)
  have p0_m1 : (m1 94 73).toInt = 0 := p0_m1
  have p1_m1 : ∀ s, s < 3100 → (m 99) s ≠ 0 → ((m1 110) s ≠ 0 ↔ zRch aa ((m 100) s).toNatClampNeg) := p1_m1
  have p2_m1 : ∀ s, s < 3100 → (m1 110) s ≠ 0 → (m 99) s ≠ 0 := p2_m1
  have f4 : 0 ≤ (m1 94 73).toInt ∧ (m1 94 73).toInt ≤ 3100 := rs_94_73 (m := (zov wr_188 (ma_u m 94 47 ((m 94 47) + (1 : Int32))) m1)) hV_m1
  refine sp_194r4 (aa := (aRA aa))  hV_m1 (by omega) (show (m 94 10).toInt = 4 ∧ (m 94 58).toInt = 0 from by omega) (show (m1 94 73).toInt = 0 from by omega) r_W r_GW (show qRB (m 99) (m 100) (m 98) (m 101) (m 102) (m 103) (m 107) (m 108) (m 109) (m 111) (m 112) (m 113) (m 114) (m 94 55) (m 94 46) (m 94 11) (m 94 12) (m 94 62) (m 94 17) (m 94 9) (aRA aa) from by first | (exact RB_of r_RB RA_zo) | (exfalso; omega; done) | (exfalso; contradiction; done)) (show qI (aRA aa) from by first | (exact qI_of r_QI RA_zo) | (exfalso; omega; done) | (exfalso; contradiction; done)) (show qKB (m1 110) (m 99) (m 100) (aRA aa) from by first | (exact KB_ra r_QI p2_m1 p1_m1) | (exfalso; omega; done) | (exfalso; contradiction; done)) (show qE0 (aRA aa) from by first | (exact E0_ra r_QI) | (exfalso; omega; done) | (exfalso; contradiction; done)) (show qCl (aRA aa) from by first | (exact Cl_ra r_QI) | (exfalso; omega; done) | (exfalso; contradiction; done)) (show qCt (m 105) (m 99) (m 100) (aRA aa) [] (-1) (-1) from by first | (exact Ct_o8 (Of_8 RA_zo) r_CT) | (exfalso; omega; done) | (exfalso; contradiction; done)) (fun m3 hV_m3 p0_m3 p1_m3 p2_m3 p3_m3 p4_m3 p5_m3 p6_m3 p7_m3 p8_m3 => zmv_n ?_)
  have p0_m3 : (m3 94 73).toInt = 0 := p0_m3
  have p1_m3 : zGW T (m3 94 55) (m3 109) := p1_m3
  have p2_m3 : zuw (m 113) (m3 113) := p2_m3
  have p3_m3 : qRB (m 99) (m 100) (m 98) (m 101) (m 102) (m 103) (m 107) (m 108) (m3 109) (m 111) (m 112) (m3 113) (m3 114) (m3 94 55) (m 94 46) (m 94 11) (m 94 12) (m 94 62) (m 94 17) (m 94 9) (aGw (aRA aa) 0) := p3_m3
  have p4_m3 : qI (aGw (aRA aa) 0) := p4_m3
  have p5_m3 : qKB (m3 110) (m 99) (m 100) (aGw (aRA aa) 0) := p5_m3
  have p6_m3 : qE0 (aGw (aRA aa) 0) := p6_m3
  have p7_m3 : qCl (aGw (aRA aa) 0) := p7_m3
  have p8_m3 : qCt (m3 105) (m 99) (m 100) (aGw (aRA aa) 0) [] (-1) (-1) := p8_m3
  have f5 : 0 ≤ (m3 94 73).toInt ∧ (m3 94 73).toInt ≤ 3100 := rs_94_73 (m := (zov wr_194 (zov wr_188 (ma_u m 94 47 ((m 94 47) + (1 : Int32))) m1) m3)) hV_m3
  refine sp_199r  hV_m3  (fun m5 hV_m5 p0_m5 p1_m5 => zmv_n ?_)
  have p0_m5 : zuw (m3 113) (m5 113) := p0_m5
  have p1_m5 : qUr (m3 113) (m5 113) (m3 110) 16 := p1_m5
  refine sp_200r4 (aa := (aGw (aRA aa) 0)) (w0 := (m3 113))  hV_m5 (show (m 94 10).toInt = 4 ∧ (m 94 58).toInt = 0 from by omega) r_W r_GU r_OW r_WTS (show qRB (m 99) (m 100) (m 98) (m 101) (m 102) (m 103) (m 107) (m 108) (m3 109) (m 111) (m 112) (m3 113) (m3 114) (m3 94 55) (m 94 46) (m 94 11) (m 94 12) (m 94 62) (m 94 17) (m 94 9) (aGw (aRA aa) 0) from by first | (exact p3_m3) | (exfalso; omega; done) | (exfalso; contradiction; done)) p4_m3 p8_m3 (fun v8 m7 hV_m7 p0_m7 p1_m7 p2_m7 p3_m7 p4_m7 p5_m7 => zmi_n ?_)
  have p0_m7 : zrm (m 99) (m7 99) (m3 110) 3100 := p0_m7
  have p1_m7 : zowr (m 111) (m7 111) (m 99) (m3 110) (m 103) := p1_m7
  have p2_m7 : zGU T (m 94 46) (m7 99) := p2_m7
  have p3_m7 : zOw (m7 99) (m 103) (m7 111) := p3_m7
  have p4_m7 : (m7 94 45).toInt = sm (zbU (m7 99)) (m 102) 3100 := p4_m7
  have p5_m7 : qCD (aGw (aRA aa) 0) (m7 105) (m 99) (m 100) (m3 110) 3100 := p5_m7
  have b6 := i_bd v8
  exact K (v8) _ (zF_zov (zF_zov (zF_zov (zF_zov (zF_u zF_rfl rfl) ws_188_187) ws_194_187) ws_199_187) ws_200_187) hV_m7 p1_m3 p2_m7 p3_m7 (show qRB (m7 99) (m 100) (m 98) (m 101) (m 102) (m 103) (m 107) (m 108) (m3 109) (m7 111) (m 112) (m5 113) (m3 114) (m3 94 55) (m 94 46) (m 94 11) (m 94 12) (m 94 62) (m 94 17) (m 94 9) (aSw aa) from by first | (exact RB_mv p3_m3 p4_m3 p5_m3 (CK_of p7_m3 p3_m3 p5_m3) p6_m3.1.2.2.2.2.2.1 p1_m5 p0_m7 p1_m7) | (exfalso; omega; done) | (exfalso; contradiction; done)) (show qI (aSw aa) from by first | (exact I_mv p4_m3 p6_m3.1.2.2.2.2.2.1) | (exfalso; omega; done) | (exfalso; contradiction; done)) p4_m7 (show cV (aSw aa) [] B from by first | (exact V_sw4 r_QI r_VV) | (exfalso; omega; done) | (exfalso; contradiction; done)) (show qCt (m7 105) (m7 99) (m 100) (aSw aa) [] (-1) (-1) from by first | (exact CD_e p5_m7 p3_m3 p4_m3 p5_m3 p6_m3.1.2.2.2.2.2.1 p0_m7) | (exfalso; omega; done) | (exfalso; contradiction; done))
set_option maxHeartbeats 8000000 in
theorem sp_237r4 {X : Nat × (Nat → Int32)} {P : Option ma_V → (Nat → Nat → Int32) → Prop} {T : Nat} {aa : Nat→Nat→Int32} {B : Int} {m : Nat → Nat → Int32} (nz : Int32) (hV : zV m) (hpre0 : T ≤ 512) (r_W : zW (m 94 7) (m 98) (m 101) (m 102) (m 108)) (r_GW : zGW T (m 94 55) (m 109)) (r_GU : zGU T (m 94 46) (m 99)) (r_OW : zOw (m 99) (m 103) (m 111)) (r_GG : zGG (m 94 58) (m 94 56) (m 94 57) (m 106)) (hpre6 : (m 94 10).toInt = 4 ∧ (m 94 58).toInt = 0) (r_RB : qRB (m 99) (m 100) (m 98) (m 101) (m 102) (m 103) (m 107) (m 108) (m 109) (m 111) (m 112) (m 113) (m 114) (m 94 55) (m 94 46) (m 94 11) (m 94 12) (m 94 62) (m 94 17) (m 94 9) aa) (r_QI : qI aa) (r_MK : aa 87 8 = (m 94 58)) (r_WTS : (m 94 45).toInt = sm (zbU (m 99)) (m 102) 3100) (r_VV : cV aa [] B) (r_CT : qCt (m 105) (m 99) (m 100) aa [] (-1) (-1)) (KZ : ∀ v m₉, zV (zov wr_237 m m₉) → (zGW T (m₉ 94 55) (m₉ 109)) → (zGU T (m 94 46) (m₉ 99)) → (zOw (m₉ 99) (m 103) (m₉ 111)) → (zGG (m 94 58) (m 94 56) (m 94 57) (m 106)) → (-1 ≤ v.toInt ∧ v.toInt ≤ 1500) → (qRB (m₉ 99) (m 100) (m 98) (m 101) (m 102) (m 103) (m 107) (m 108) (m₉ 109) (m₉ 111) (m 112) (m₉ 113) (m₉ 114) (m₉ 94 55) (m 94 46) (m 94 11) (m 94 12) (m 94 62) (m 94 17) (m 94 9) (zRs aa nz.toInt)) → (qI (zRs aa nz.toInt)) → ((zRs aa nz.toInt) 87 8 = (m 94 58)) → ((m₉ 94 45).toInt = sm (zbU (m₉ 99)) (m 102) 3100) → (cV (zRs aa nz.toInt) [] B) → (qCt (m₉ 105) (m₉ 99) (m 100) (zRs aa nz.toInt) [] (-1) (-1)) → (qEq v.toInt (zRp aa nz.toInt)) → P (some (.inl v)) (zov wr_237 m m₉)) : zm X 5 108 237 0 [(0, .inr (.inr (some 94))), (1, .inl nz)] m P := by
  have K : ∀ v m₉, zF wr_237 m m₉ → zV m₉ → (zGW T (m₉ 94 55) (m₉ 109)) → (zGU T (m₉ 94 46) (m₉ 99)) → (zOw (m₉ 99) (m₉ 103) (m₉ 111)) → (zGG (m₉ 94 58) (m₉ 94 56) (m₉ 94 57) (m₉ 106)) → (-1 ≤ v.toInt ∧ v.toInt ≤ 1500) → (qRB (m₉ 99) (m₉ 100) (m₉ 98) (m₉ 101) (m₉ 102) (m₉ 103) (m₉ 107) (m₉ 108) (m₉ 109) (m₉ 111) (m₉ 112) (m₉ 113) (m₉ 114) (m₉ 94 55) (m₉ 94 46) (m₉ 94 11) (m₉ 94 12) (m₉ 94 62) (m₉ 94 17) (m₉ 94 9) (zRs aa nz.toInt)) → (qI (zRs aa nz.toInt)) → ((zRs aa nz.toInt) 87 8 = (m₉ 94 58)) → ((m₉ 94 45).toInt = sm (zbU (m₉ 99)) (m₉ 102) 3100) → (cV (zRs aa nz.toInt) [] B) → (qCt (m₉ 105) (m₉ 99) (m₉ 100) (zRs aa nz.toInt) [] (-1) (-1)) → (qEq v.toInt (zRp aa nz.toInt)) → P (some (.inl v)) m₉ := by
    intro v m₉ hf z q0 q1 q2 q3 q4 q5 q6 q7 q8 q9 q10 q11
    have e := zov_eq hf
    rw [e] at z ⊢
    try rw [e] at q0
    try rw [e] at q1
    try rw [e] at q2
    try rw [e] at q3
    try rw [e] at q4
    try rw [e] at q5
    try rw [e] at q6
    try rw [e] at q7
    try rw [e] at q8
    try rw [e] at q9
    try rw [e] at q10
    try rw [e] at q11
    exact KZ v m₉ z q0 q1 q2 q3 q4 q5 q6 q7 q8 q9 q10 q11
  refine g_237_0 nz ?_
  have f1 : 0 ≤ (m 94 10).toInt ∧ (m 94 10).toInt ≤ 6 := rs_94_10 (m := m) hV
  have f2 : 0 ≤ (m 94 58).toInt ∧ (m 94 58).toInt ≤ 1 := rs_94_58 (m := m) hV
  have b3 := i_bd nz
  refine sp_224r (aa := aa) (nz) hV r_RB r_QI r_OW (fun v2 m1 hV_m1 p0_m1 p1_m1 => zmi_n ?_)
  have p0_m1 : -1 ≤ v2.toInt ∧ v2.toInt ≤ 1500 := p0_m1
  have p1_m1 : qEq v2.toInt (aFt aa nz.toInt) := p1_m1
  have b4 := i_bd v2
  have li5 : (0 : Int32).toInt = 0 := rfl
  refine zd (fun (h6 : v2 < (0 : Int32)) => ?_) (fun (h6 : ¬ v2 < (0 : Int32)) => ?_)
  · skip
    have g7 := i_lt h6
    refine sp_187r4 (aa := aa)  hV_m1 (by omega) r_W r_GW r_GU r_OW (show (m 94 10).toInt = 4 ∧ (m 94 58).toInt = 0 from by omega) r_RB r_QI r_WTS r_VV r_CT (fun v4 m3 hV_m3 p0_m3 p1_m3 p2_m3 p3_m3 p4_m3 p5_m3 p6_m3 p7_m3 => zmi_n ?_)
    have p0_m3 : zGW T (m3 94 55) (m3 109) := p0_m3
    have p1_m3 : zGU T (m 94 46) (m3 99) := p1_m3
    have p2_m3 : zOw (m3 99) (m 103) (m3 111) := p2_m3
    have p3_m3 : qRB (m3 99) (m 100) (m 98) (m 101) (m 102) (m 103) (m 107) (m 108) (m3 109) (m3 111) (m 112) (m3 113) (m3 114) (m3 94 55) (m 94 46) (m 94 11) (m 94 12) (m 94 62) (m 94 17) (m 94 9) (aSw aa) := p3_m3
    have p4_m3 : qI (aSw aa) := p4_m3
    have p5_m3 : (m3 94 45).toInt = sm (zbU (m3 99)) (m 102) 3100 := p5_m3
    have p6_m3 : cV (aSw aa) [] B := p6_m3
    have p7_m3 : qCt (m3 105) (m3 99) (m 100) (aSw aa) [] (-1) (-1) := p7_m3
    refine sp_224r (aa := (aSw aa)) (nz) hV_m3 p3_m3 p4_m3 p2_m3 (fun v6 m5 hV_m5 p0_m5 p1_m5 => zmi_n ?_)
    have p0_m5 : -1 ≤ v6.toInt ∧ v6.toInt ≤ 1500 := p0_m5
    have p1_m5 : qEq v6.toInt (aFt (aSw aa) nz.toInt) := p1_m5
    have b8 := i_bd v6
    exact K (v6) _ (zF_zov (zF_zov (zF_zov zF_rfl ws_224_237) ws_187_237) ws_224_237) hV_m5 p0_m3 p1_m3 p2_m3 r_GG (show -1 ≤ v6.toInt ∧ v6.toInt ≤ 1500 from by omega) (show qRB (m3 99) (m 100) (m 98) (m 101) (m 102) (m 103) (m 107) (m 108) (m3 109) (m3 111) (m 112) (m3 113) (m3 114) (m3 94 55) (m 94 46) (m 94 11) (m 94 12) (m 94 62) (m 94 17) (m 94 9) (zRs aa nz.toInt) from by first | (rw [(zRs_2 (show aFt aa nz.toInt = -1 from by rw [← qE p1_m1]; omega))]; exact p3_m3; done) | (exfalso; omega; done) | (exfalso; contradiction; done)) (show qI (zRs aa nz.toInt) from by first | (rw [(zRs_2 (show aFt aa nz.toInt = -1 from by rw [← qE p1_m1]; omega))]; exact p4_m3; done) | (exfalso; omega; done) | (exfalso; contradiction; done)) (show (zRs aa nz.toInt) 87 8 = (m 94 58) from by first | (rw [zRs_87]; exact r_MK; done) | (exfalso; omega; done) | (exfalso; contradiction; done)) p5_m3 (show cV (zRs aa nz.toInt) [] B from by first | (rw [(zRs_2 (show aFt aa nz.toInt = -1 from by rw [← qE p1_m1]; omega))]; exact p6_m3; done) | (exfalso; omega; done) | (exfalso; contradiction; done)) (show qCt (m3 105) (m3 99) (m 100) (zRs aa nz.toInt) [] (-1) (-1) from by first | (rw [(zRs_2 (show aFt aa nz.toInt = -1 from by rw [← qE p1_m1]; omega))]; exact p7_m3; done) | (exfalso; omega; done) | (exfalso; contradiction; done)) (show qEq v6.toInt (zRp aa nz.toInt) from by first | (rw [zRp, (zRs_2 (show aFt aa nz.toInt = -1 from by rw [← qE p1_m1]; omega))]; exact p1_m5; done) | (exfalso; omega; done) | (exfalso; contradiction; done))
  · skip
    have g9 := i_nlt h6
    exact K (v2) _ (zF_zov zF_rfl ws_224_237) hV_m1 r_GW r_GU r_OW r_GG (show -1 ≤ v2.toInt ∧ v2.toInt ≤ 1500 from by omega) (show qRB (m 99) (m 100) (m 98) (m 101) (m 102) (m 103) (m 107) (m 108) (m 109) (m 111) (m 112) (m 113) (m 114) (m 94 55) (m 94 46) (m 94 11) (m 94 12) (m 94 62) (m 94 17) (m 94 9) (zRs aa nz.toInt) from by first | (rw [(zRs_1 (show aFt aa nz.toInt ≠ -1 from by rw [← qE p1_m1]; omega))]; exact r_RB; done) | (exfalso; omega; done) | (exfalso; contradiction; done)) (show qI (zRs aa nz.toInt) from by first | (rw [(zRs_1 (show aFt aa nz.toInt ≠ -1 from by rw [← qE p1_m1]; omega))]; exact r_QI; done) | (exfalso; omega; done) | (exfalso; contradiction; done)) (show (zRs aa nz.toInt) 87 8 = (m 94 58) from by first | (rw [zRs_87]; exact r_MK; done) | (exfalso; omega; done) | (exfalso; contradiction; done)) r_WTS (show cV (zRs aa nz.toInt) [] B from by first | (rw [(zRs_1 (show aFt aa nz.toInt ≠ -1 from by rw [← qE p1_m1]; omega))]; exact r_VV; done) | (exfalso; omega; done) | (exfalso; contradiction; done)) (show qCt (m 105) (m 99) (m 100) (zRs aa nz.toInt) [] (-1) (-1) from by first | (rw [(zRs_1 (show aFt aa nz.toInt ≠ -1 from by rw [← qE p1_m1]; omega))]; exact r_CT; done) | (exfalso; omega; done) | (exfalso; contradiction; done)) (show qEq v2.toInt (zRp aa nz.toInt) from by first | (rw [zRp, (zRs_1 (show aFt aa nz.toInt ≠ -1 from by rw [← qE p1_m1]; omega))]; exact p1_m1; done) | (exfalso; omega; done) | (exfalso; contradiction; done))

/-! from 95.o14 -/
/-! the reference under COUNTS (written by wip/tools/gen20s.py) -/
set_option maxHeartbeats 8000000 in
theorem sp_184r4 {X : Nat × (Nat → Int32)} {P : Option ma_V → (Nat → Nat → Int32) → Prop} {T : Nat} {aa : Nat→Nat→Int32} {B : Int} {m : Nat → Nat → Int32} (nz : Int32) (hV : zV m) (hpre0 : T ≤ 512) (r_W : zW (m 94 7) (m 98) (m 101) (m 102) (m 108)) (r_GW : zGW T (m 94 55) (m 109)) (r_GU : zGU T (m 94 46) (m 99)) (r_OW : zOw (m 99) (m 103) (m 111)) (r_GG : zGG (m 94 58) (m 94 56) (m 94 57) (m 106)) (hpre6 : (m 94 10).toInt = 4 ∧ (m 94 58).toInt = 0) (r_RB : qRB (m 99) (m 100) (m 98) (m 101) (m 102) (m 103) (m 107) (m 108) (m 109) (m 111) (m 112) (m 113) (m 114) (m 94 55) (m 94 46) (m 94 11) (m 94 12) (m 94 62) (m 94 17) (m 94 9) aa) (r_QI : qI aa) (r_MK : aa 87 8 = (m 94 58)) (r_WTS : (m 94 45).toInt = sm (zbU (m 99)) (m 102) 3100) (r_VV : cV aa [] B) (r_CT : qCt (m 105) (m 99) (m 100) aa [] (-1) (-1)) (KZ : ∀ v m₉, zV (zov wr_184 m m₉) → (zGW T (m₉ 94 55) (m₉ 109)) → (zGU T (m 94 46) (m₉ 99)) → (zOw (m₉ 99) (m₉ 103) (m₉ 111)) → (zGG (m₉ 94 58) (m₉ 94 56) (m₉ 94 57) (m₉ 106)) → (-1 ≤ v.toInt ∧ v.toInt ≤ 1500) → (qRB (m₉ 99) (m 100) (m 98) (m 101) (m 102) (m₉ 103) (m 107) (m 108) (m₉ 109) (m₉ 111) (m 112) (m₉ 113) (m₉ 114) (m₉ 94 55) (m 94 46) (m 94 11) (m 94 12) (m 94 62) (m 94 17) (m 94 9) (zRs aa nz.toInt)) → (qI (zRs aa nz.toInt)) → ((zRs aa nz.toInt) 87 8 = (m₉ 94 58)) → ((m₉ 94 45).toInt = sm (zbU (m₉ 99)) (m 102) 3100) → (cV (zRs aa nz.toInt) [] B) → (qCt (m₉ 105) (m₉ 99) (m 100) (zRs aa nz.toInt) [] (-1) (-1)) → (qEq v.toInt (zRp aa nz.toInt)) → ((m₉ 94 58).toInt = 0) → P (some (.inl v)) (zov wr_184 m m₉)) : zm X 8 175 184 0 [(0, .inr (.inr (some 94))), (1, .inl nz)] m P := by
  have K : ∀ v m₉, zF wr_184 m m₉ → zV m₉ → (zGW T (m₉ 94 55) (m₉ 109)) → (zGU T (m₉ 94 46) (m₉ 99)) → (zOw (m₉ 99) (m₉ 103) (m₉ 111)) → (zGG (m₉ 94 58) (m₉ 94 56) (m₉ 94 57) (m₉ 106)) → (-1 ≤ v.toInt ∧ v.toInt ≤ 1500) → (qRB (m₉ 99) (m₉ 100) (m₉ 98) (m₉ 101) (m₉ 102) (m₉ 103) (m₉ 107) (m₉ 108) (m₉ 109) (m₉ 111) (m₉ 112) (m₉ 113) (m₉ 114) (m₉ 94 55) (m₉ 94 46) (m₉ 94 11) (m₉ 94 12) (m₉ 94 62) (m₉ 94 17) (m₉ 94 9) (zRs aa nz.toInt)) → (qI (zRs aa nz.toInt)) → ((zRs aa nz.toInt) 87 8 = (m₉ 94 58)) → ((m₉ 94 45).toInt = sm (zbU (m₉ 99)) (m₉ 102) 3100) → (cV (zRs aa nz.toInt) [] B) → (qCt (m₉ 105) (m₉ 99) (m₉ 100) (zRs aa nz.toInt) [] (-1) (-1)) → (qEq v.toInt (zRp aa nz.toInt)) → ((m₉ 94 58).toInt = 0) → P (some (.inl v)) m₉ := by
    intro v m₉ hf z q0 q1 q2 q3 q4 q5 q6 q7 q8 q9 q10 q11 q12
    have e := zov_eq hf
    rw [e] at z ⊢
    try rw [e] at q0
    try rw [e] at q1
    try rw [e] at q2
    try rw [e] at q3
    try rw [e] at q4
    try rw [e] at q5
    try rw [e] at q6
    try rw [e] at q7
    try rw [e] at q8
    try rw [e] at q9
    try rw [e] at q10
    try rw [e] at q11
    try rw [e] at q12
    exact KZ v m₉ z q0 q1 q2 q3 q4 q5 q6 q7 q8 q9 q10 q11 q12
  refine g_184_0 nz ?_
  have f1 : 0 ≤ (m 94 10).toInt ∧ (m 94 10).toInt ≤ 6 := rs_94_10 (m := m) hV
  have f2 : 0 ≤ (m 94 58).toInt ∧ (m 94 58).toInt ≤ 1 := rs_94_58 (m := m) hV
  have li3 : (1 : Int32).toInt = 1 := rfl
  refine zd (fun (h4 : (m 94 10) = (1 : Int32)) => ?_) (fun (h4 : ¬ (m 94 10) = (1 : Int32)) => ?_)
  · skip
    have g5 := i_eq h4
    exfalso; omega
  · skip
    have g6 := i_ne h4
    have li7 : (2 : Int32).toInt = 2 := rfl
    refine zd (fun (h8 : (m 94 10) = (2 : Int32)) => ?_) (fun (h8 : ¬ (m 94 10) = (2 : Int32)) => ?_)
    · skip
      have g9 := i_eq h8
      exfalso; omega
    · skip
      have g10 := i_ne h8
      have li11 : (3 : Int32).toInt = 3 := rfl
      refine zd (fun (h12 : (m 94 10) = (3 : Int32)) => ?_) (fun (h12 : ¬ (m 94 10) = (3 : Int32)) => ?_)
      · skip
        have g13 := i_eq h12
        exfalso; omega
      · skip
        have g14 := i_ne h12
        have li15 : (4 : Int32).toInt = 4 := rfl
        refine zd (fun (h16 : (m 94 10) = (4 : Int32)) => ?_) (fun (h16 : ¬ (m 94 10) = (4 : Int32)) => ?_)
        · skip
          have g17 := i_eq h16
          have b18 := i_bd nz
          refine sp_237r4 (aa := aa) (nz) hV (by omega) r_W r_GW r_GU r_OW r_GG (show (m 94 10).toInt = 4 ∧ (m 94 58).toInt = 0 from by omega) r_RB r_QI r_MK r_WTS r_VV r_CT (fun v12 m11 hV_m11 p0_m11 p1_m11 p2_m11 p3_m11 p4_m11 p5_m11 p6_m11 p7_m11 p8_m11 p9_m11 p10_m11 p11_m11 => zmi_n ?_)
          have p0_m11 : zGW T (m11 94 55) (m11 109) := p0_m11
          have p1_m11 : zGU T (m 94 46) (m11 99) := p1_m11
          have p2_m11 : zOw (m11 99) (m 103) (m11 111) := p2_m11
          have p3_m11 : zGG (m 94 58) (m 94 56) (m 94 57) (m 106) := p3_m11
          have p4_m11 : -1 ≤ v12.toInt ∧ v12.toInt ≤ 1500 := p4_m11
          have p5_m11 : qRB (m11 99) (m 100) (m 98) (m 101) (m 102) (m 103) (m 107) (m 108) (m11 109) (m11 111) (m 112) (m11 113) (m11 114) (m11 94 55) (m 94 46) (m 94 11) (m 94 12) (m 94 62) (m 94 17) (m 94 9) (zRs aa nz.toInt) := p5_m11
          have p6_m11 : qI (zRs aa nz.toInt) := p6_m11
          have p7_m11 : (zRs aa nz.toInt) 87 8 = (m 94 58) := p7_m11
          have p8_m11 : (m11 94 45).toInt = sm (zbU (m11 99)) (m 102) 3100 := p8_m11
          have p9_m11 : cV (zRs aa nz.toInt) [] B := p9_m11
          have p10_m11 : qCt (m11 105) (m11 99) (m 100) (zRs aa nz.toInt) [] (-1) (-1) := p10_m11
          have p11_m11 : qEq v12.toInt (zRp aa nz.toInt) := p11_m11
          have b19 := i_bd v12
          exact K (v12) _ (zF_zov zF_rfl ws_237_184) hV_m11 p0_m11 p1_m11 p2_m11 p3_m11 (show -1 ≤ v12.toInt ∧ v12.toInt ≤ 1500 from by omega) p5_m11 p6_m11 p7_m11 p8_m11 p9_m11 p10_m11 p11_m11 (show (m 94 58).toInt = 0 from by omega)
        · skip
          have g20 := i_ne h16
          exfalso; omega
set_option maxHeartbeats 8000000 in
theorem sp_256r4 {X : Nat × (Nat → Int32)} {P : Option ma_V → (Nat → Nat → Int32) → Prop} {T : Nat} {aa : Nat→Nat→Int32} {B : Int} {m : Nat → Nat → Int32}  (hV : zV m) (hpre0 : T ≤ 512) (hpre1 : B ≤ 1000000) (r_W : zW (m 94 7) (m 98) (m 101) (m 102) (m 108)) (r_GW : zGW T (m 94 55) (m 109)) (r_GU : zGU T (m 94 46) (m 99)) (r_OW : zOw (m 99) (m 103) (m 111)) (r_GG : zGG (m 94 58) (m 94 56) (m 94 57) (m 106)) (hpre7 : (m 94 10).toInt = 4 ∧ (m 94 58).toInt = 0) (hpre8 : (m 94 8).toInt = 1) (r_RB : qRB (m 99) (m 100) (m 98) (m 101) (m 102) (m 103) (m 107) (m 108) (m 109) (m 111) (m 112) (m 113) (m 114) (m 94 55) (m 94 46) (m 94 11) (m 94 12) (m 94 62) (m 94 17) (m 94 9) aa) (r_QI : qI aa) (r_MK : aa 87 8 = (m 94 58)) (r_WTS : (m 94 45).toInt = sm (zbU (m 99)) (m 102) 3100) (r_VV : cV aa [] B) (r_CT : qCt (m 105) (m 99) (m 100) aa [] (-1) (-1)) (KZ : ∀ v m₉, zV (zov wr_256 m m₉) → (zW (m 94 7) (m 98) (m 101) (m 102) (m 108)) → (zGW T (m₉ 94 55) (m₉ 109)) → (zGU T (m 94 46) (m₉ 99)) → (zOw (m₉ 99) (m₉ 103) (m₉ 111)) → (zGG (m₉ 94 58) (m₉ 94 56) (m₉ 94 57) (m₉ 106)) → ((m₉ 94 45).toInt = sm (zbU (m₉ 99)) (m 102) 3100) → (qRB (m₉ 99) (m 100) (m 98) (m 101) (m 102) (m₉ 103) (m 107) (m 108) (m₉ 109) (m₉ 111) (m 112) (m₉ 113) (m₉ 114) (m₉ 94 55) (m 94 46) (m 94 11) (m 94 12) (m 94 62) (m 94 17) (m 94 9) (aSw aa)) → (qI (aSw aa)) → ((aSw aa) 87 8 = (m₉ 94 58)) → (cV (aSw aa) [] B) → (qCt (m₉ 105) (m₉ 99) (m 100) (aSw aa) [] (-1) (-1)) → ((m₉ 94 58).toInt = 0) → P (some (.inl v)) (zov wr_256 m m₉)) : zm X 7 152 256 0 [(0, .inr (.inr (some 94)))] m P := by
  have K : ∀ v m₉, zF wr_256 m m₉ → zV m₉ → (zW (m₉ 94 7) (m₉ 98) (m₉ 101) (m₉ 102) (m₉ 108)) → (zGW T (m₉ 94 55) (m₉ 109)) → (zGU T (m₉ 94 46) (m₉ 99)) → (zOw (m₉ 99) (m₉ 103) (m₉ 111)) → (zGG (m₉ 94 58) (m₉ 94 56) (m₉ 94 57) (m₉ 106)) → ((m₉ 94 45).toInt = sm (zbU (m₉ 99)) (m₉ 102) 3100) → (qRB (m₉ 99) (m₉ 100) (m₉ 98) (m₉ 101) (m₉ 102) (m₉ 103) (m₉ 107) (m₉ 108) (m₉ 109) (m₉ 111) (m₉ 112) (m₉ 113) (m₉ 114) (m₉ 94 55) (m₉ 94 46) (m₉ 94 11) (m₉ 94 12) (m₉ 94 62) (m₉ 94 17) (m₉ 94 9) (aSw aa)) → (qI (aSw aa)) → ((aSw aa) 87 8 = (m₉ 94 58)) → (cV (aSw aa) [] B) → (qCt (m₉ 105) (m₉ 99) (m₉ 100) (aSw aa) [] (-1) (-1)) → ((m₉ 94 58).toInt = 0) → P (some (.inl v)) m₉ := by
    intro v m₉ hf z q0 q1 q2 q3 q4 q5 q6 q7 q8 q9 q10 q11
    have e := zov_eq hf
    rw [e] at z ⊢
    try rw [e] at q0
    try rw [e] at q1
    try rw [e] at q2
    try rw [e] at q3
    try rw [e] at q4
    try rw [e] at q5
    try rw [e] at q6
    try rw [e] at q7
    try rw [e] at q8
    try rw [e] at q9
    try rw [e] at q10
    try rw [e] at q11
    exact KZ v m₉ z q0 q1 q2 q3 q4 q5 q6 q7 q8 q9 q10 q11
  refine g_256_0  ?_
  have f1 : 0 ≤ (m 94 10).toInt ∧ (m 94 10).toInt ≤ 6 := rs_94_10 (m := m) hV
  have f2 : 0 ≤ (m 94 58).toInt ∧ (m 94 58).toInt ≤ 1 := rs_94_58 (m := m) hV
  have f3 : 0 ≤ (m 94 8).toInt ∧ (m 94 8).toInt ≤ 1 := rs_94_8 (m := m) hV
  have li4 : (0 : Int32).toInt = 0 := rfl
  refine zd (fun (h5 : (m 94 8) = (0 : Int32)) => ?_) (fun (h5 : ¬ (m 94 8) = (0 : Int32)) => ?_)
  · skip
    have g6 := i_eq h5
    exfalso; omega
  · skip
    have g7 := i_ne h5
    have li8 : (1 : Int32).toInt = 1 := rfl
    refine zd (fun (h9 : (m 94 10) = (1 : Int32)) => ?_) (fun (h9 : ¬ (m 94 10) = (1 : Int32)) => ?_)
    · skip
      have g10 := i_eq h9
      exfalso; omega
    · skip
      have g11 := i_ne h9
      have li12 : (2 : Int32).toInt = 2 := rfl
      refine zd (fun (h13 : (m 94 10) = (2 : Int32)) => ?_) (fun (h13 : ¬ (m 94 10) = (2 : Int32)) => ?_)
      · skip
        have g14 := i_eq h13
        exfalso; omega
      · skip
        have g15 := i_ne h13
        have li16 : (3 : Int32).toInt = 3 := rfl
        refine zd (fun (h17 : (m 94 10) = (3 : Int32)) => ?_) (fun (h17 : ¬ (m 94 10) = (3 : Int32)) => ?_)
        · skip
          have g18 := i_eq h17
          exfalso; omega
        · skip
          have g19 := i_ne h17
          have li20 : (4 : Int32).toInt = 4 := rfl
          refine zd (fun (h21 : (m 94 10) = (4 : Int32)) => ?_) (fun (h21 : ¬ (m 94 10) = (4 : Int32)) => ?_)
          · skip
            have g22 := i_eq h21
            have hV23 : zV (ma_u m 94 0 (0 : Int32)) := uf_94_0 hV
            refine sp_187r4 (aa := aa)  hV23 (by omega) r_W r_GW r_GU r_OW (show (m 94 10).toInt = 4 ∧ (m 94 58).toInt = 0 from by omega) r_RB r_QI r_WTS r_VV r_CT (fun v10 m9 hV_m9 p0_m9 p1_m9 p2_m9 p3_m9 p4_m9 p5_m9 p6_m9 p7_m9 => zmi_n ?_)
            have p0_m9 : zGW T (m9 94 55) (m9 109) := p0_m9
            have p1_m9 : zGU T (m 94 46) (m9 99) := p1_m9
            have p2_m9 : zOw (m9 99) (m 103) (m9 111) := p2_m9
            have p3_m9 : qRB (m9 99) (m 100) (m 98) (m 101) (m 102) (m 103) (m 107) (m 108) (m9 109) (m9 111) (m 112) (m9 113) (m9 114) (m9 94 55) (m 94 46) (m 94 11) (m 94 12) (m 94 62) (m 94 17) (m 94 9) (aSw aa) := p3_m9
            have p4_m9 : qI (aSw aa) := p4_m9
            have p5_m9 : (m9 94 45).toInt = sm (zbU (m9 99)) (m 102) 3100 := p5_m9
            have p6_m9 : cV (aSw aa) [] B := p6_m9
            have p7_m9 : qCt (m9 105) (m9 99) (m 100) (aSw aa) [] (-1) (-1) := p7_m9
            have b24 := i_bd v10
            exact K (v10) _ (zF_zov (zF_u zF_rfl rfl) ws_187_256) hV_m9 r_W p0_m9 p1_m9 p2_m9 r_GG p5_m9 p3_m9 p4_m9 (show (aSw aa) 87 8 = (m 94 58) from by first | (rw [sw_87]; exact r_MK; done) | (exfalso; omega; done) | (exfalso; contradiction; done)) p6_m9 p7_m9 (show (m 94 58).toInt = 0 from by omega)
          · skip
            have g25 := i_ne h21
            exfalso; omega

/-! from 95.o15 -/
/-! the reference under COUNTS (written by wip/tools/gen20s.py) -/
/-! COUNTS, the reference: a new one -/
section D5
variable {b d : Nat → Nat → Int32} {us us₉ nr nr₉ ws at₉ ho ct ct₉ : Nat → Int32} {x y z w pl kk : Int32} {s : Nat} {L : Int64} {st : List (List Int32)} {B : Int}
theorem Ct_z0 (h : qCt ct us nr b st x z) (e1 : ∀ t, t ≠ s → ct₉ t = ct t) (e2 : ∀ t, t ≠ s → nr₉ t = nr t) (e3 : ∀ t, t ≠ s → us₉ t = us t) : qCt ct₉ (zmk us₉ s) nr₉ b st x z := fun t ht hv => by
  have ts : t ≠ s := fun e => hv (if_pos e)
  have hu : us t ≠ 0 := fun q => hv ((if_neg ts).trans ((e3 t ts).trans q))
  rw [e1 t ts, e2 t ts]
  exact h t ht hu
theorem V_ad4 (hN : qNe b y w pl) (hA : qAd b d y kk w pl L) (hV : cV b [] B) (hB : 0 ≤ B) : cV d [] B := V_0 (C_ad (K₉ := zKu (fun n => Int32.ofInt (cRf b n)) y.toNatClampNeg 0) hN hA (C_ofV hV) hB (fun _ => rfl))
theorem Ct_ad (hN : qNe b y w pl) (hA : qAd b d y kk w pl L) (hV : cV b [] B) (h : qCt ct (zmk us s) nr b [] (-1) (-1)) (h1 : qR1 (zmk us s) nr ws at₉ ho b) (hz : ct s = 0) (hn : nr s = y) : qCt ct us nr d [] (-1) (-1) := fun t ht hv => by
  have q := Ne_b hN
  by_cases ts : t = s
  · have o : cOc ([] : List (List Int32)) y.toNatClampNeg = 0 := rfl
    rw [ts, hz, hn, Rf_a0 hN hA hV.2.1, is_m1 q.2.1, o]
    rfl
  · have hm : zmk us s t ≠ 0 := fun e => hv ((if_neg ts).symm.trans e)
    rw [h t ht hm, Rf_ad hN hA (R1_al h1 ht hm)]
end D5

