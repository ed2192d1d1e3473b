/-! the reference where it sweeps (written by wip/tools/gen20r.py) -/
theorem lp_200rn_50 {X : Nat × (Nat → Int32)} {P : Option ma_V → (Nat → Nat → Int32) → Prop} {T : Nat} {m0 : Nat → Nat → Int32} (h0 : zV m0) (K : ∀ v m', zF wr_200 m0 m' → zV m' → (zrm (m0 99) (m' 99) (m' 110) 3100) → (zowr (m0 111) (m' 111) (m0 99) (m' 110) (m' 103)) → (zGU T (m' 94 46) (m' 99)) → (zOw (m' 99) (m' 103) (m' 111)) → ((m' 94 45).toInt = sm (zbU (m' 99)) (m' 102) 3100) → P (some (.inl v)) m') {n4 : Nat} (OUT4 : ∀ (m' : Nat → Nat → Int32) (l1 : Int32) (l2 : Int32), (3100 - l2.toInt).toNat < n4 → zF wr_200 m0 m' → zV m' → (0 ≤ l2.toInt) → ((m' 94 10).toInt ≠ 4) → (zW (m' 94 7) (m' 98) (m' 101) (m' 102) (m' 108)) → (zGU T (m' 94 46) (m' 99)) → (zOw (m' 99) (m' 103) (m' 111)) → (zrm (m0 99) (m' 99) (m' 110) l2.toNatClampNeg) → (zowr (m0 111) (m' 111) (m0 99) (m' 110) (m' 103)) → ((m' 94 45).toInt = sm (zbU (m' 99)) (m' 102) 3100) → zm X 2 44 200 4 [(0, .inr (.inr (some 94))), (1, .inl l1), (2, .inl l2)] m' P) : ∀ (n : Nat) (m : Nat → Nat → Int32) (l1 : Int32) (l2 : Int32) (l3 : Int32), (61 - l3.toInt).toNat = n → zF wr_200 m0 m → zV m → (0 ≤ l2.toInt) → (l2.toInt ≤ 3099) → (0 ≤ l3.toInt) → ((m 94 10).toInt ≠ 4) → ((m 94 10).toInt = 4) → ((3100 - l2.toInt).toNat = n4) → (zW (m 94 7) (m 98) (m 101) (m 102) (m 108)) → (zGU T (m 94 46) (m 99)) → (zOw (m 99) (m 103) (m 111)) → (zrm (m0 99) (m 99) (m 110) l2.toNatClampNeg) → (zowr (m0 111) (m 111) (m0 99) (m 110) (m 103)) → ((m 99) l2.toNatClampNeg ≠ 0 ∧ (m 110) l2.toNatClampNeg = 0) → ((m 94 45).toInt = sm (zbU (m 99)) (m 102) 3100) → zm X 2 44 200 50 [(0, .inr (.inr (some 94))), (1, .inl l1), (2, .inl l2), (3, .inl l3)] m P := by
  intro n
  induction n using Nat.strongRecOn with
  | _ n IH =>
    intro m l1 l2 l3 hmu hF hV hi0 hi1 hi2 hi3 hi4 hi5 r_W r_GU r_OW r_RM r_OWR r_UK r_WTS
    refine g_200_50 l1 l2 l3 ?_
    have f1 : 0 ≤ (m 94 10).toInt ∧ (m 94 10).toInt ≤ 6 := rs_94_10 (m := m) hV
    have b2 := i_bd l2
    have hg3 : (0 ≤ l2 ∧ l2.toNatClampNeg < 3100) := i_ix (by omega) (by omega)
    refine ⟨hg3, ?_⟩
    first | have f4 : 0 ≤ (m 102 l2.toNatClampNeg).toInt ∧ (m 102 l2.toNatClampNeg).toInt ≤ 60 := ra_102 (m := m) hV (k := l2.toNatClampNeg) (i_ix (n := 3100) (by omega) (by omega)).2 | have b5 := i_bd (m 102 l2.toNatClampNeg)
    have b6 := i_bd l3
    refine zd (fun (h7 : (m 102 l2.toNatClampNeg) ≤ l3) => ?_) (fun (h7 : ¬ (m 102 l2.toNatClampNeg) ≤ l3) => ?_)
    · skip
      have g8 := i_le h7
      have hg9 : (0 ≤ l2 ∧ l2.toNatClampNeg < 3100) := i_ix (by omega) (by omega)
      refine ⟨hg9, ?_⟩
      have hg10 : (0 ≤ l2 ∧ l2.toNatClampNeg < 3100) := i_ix (by omega) (by omega)
      refine ⟨hg10, ?_⟩
      first | have f11 : 0 ≤ (m 103 l2.toNatClampNeg).toInt ∧ (m 103 l2.toNatClampNeg).toInt ≤ 4599 := ra_103 (m := m) hV (k := l2.toNatClampNeg) (i_ix (n := 3100) (by omega) (by omega)).2 | have b12 := i_bd (m 103 l2.toNatClampNeg)
      have hg13 : (0 ≤ (m 103 l2.toNatClampNeg) ∧ (m 103 l2.toNatClampNeg).toNatClampNeg < 4600) := i_ix (by omega) (by omega)
      refine ⟨hg13, ?_⟩
      have hg14 : (0 ≤ l2 ∧ l2.toNatClampNeg < 3100) := i_ix (by omega) (by omega)
      refine ⟨hg14, ?_⟩
      have hg15 : (0 ≤ l2 ∧ l2.toNatClampNeg < 3100) := i_ix (by omega) (by omega)
      refine ⟨hg15, ?_⟩
      have li17 : (0 : Int32).toInt = 0 := rfl
      have hV16 : zV (ma_u m 99 l2.toNatClampNeg (0 : Int32)) := ua_99 hV (by omega) (by omega)
      have li19 : (-1 : Int32).toInt = -1 := rfl
      have hV18 : zV (ma_u (ma_u m 99 l2.toNatClampNeg (0 : Int32)) 111 (m 103 l2.toNatClampNeg).toNatClampNeg (-1 : Int32)) := ua_111 hV16 (by omega) (by omega)
      have hV20 : zV (ma_u (ma_u (ma_u m 99 l2.toNatClampNeg (0 : Int32)) 111 (m 103 l2.toNatClampNeg).toNatClampNeg (-1 : Int32)) 94 44 ((m 94 44) - (1 : Int32))) := uf_94_44 hV18
      have hV21 : zV (ma_u (ma_u (ma_u (ma_u m 99 l2.toNatClampNeg (0 : Int32)) 111 (m 103 l2.toNatClampNeg).toNatClampNeg (-1 : Int32)) 94 44 ((m 94 44) - (1 : Int32))) 94 45 ((m 94 45) - ((m 102 l2.toNatClampNeg) + (1 : Int32)))) := uf_94_45 hV20
      have hV22 : zV (ma_u (ma_u (ma_u (ma_u (ma_u m 99 l2.toNatClampNeg (0 : Int32)) 111 (m 103 l2.toNatClampNeg).toNatClampNeg (-1 : Int32)) 94 44 ((m 94 44) - (1 : Int32))) 94 45 ((m 94 45) - ((m 102 l2.toNatClampNeg) + (1 : Int32)))) 94 49 ((m 94 49) + ((m 102 l2.toNatClampNeg) + (1 : Int32)))) := uf_94_49 hV21
      have b23 := i_bd l1
      first | have e24 : (l2 + (1 : Int32)).toInt = l2.toInt + (1) := i_addk rfl (by omega) (by omega) | have b25 := i_bd (l2 + (1 : Int32))
      exact OUT4 _ (l1) ((l2 + (1 : Int32))) (show (3100 - (l2 + (1 : Int32)).toInt).toNat < n4 from by omega) (zF_u (zF_u (zF_u (zF_u (zF_u hF rfl) rfl) rfl) rfl) rfl) hV22 (by omega) (show (m 94 10).toInt ≠ 4 from by omega) r_W (show zGU T (m 94 46) ((ma_u m 99 l2.toNatClampNeg (0 : Int32)) 99) from by first | (exact GU_0 r_GU) | (exfalso; omega; done) | (exfalso; contradiction; done)) (show zOw ((ma_u m 99 l2.toNatClampNeg (0 : Int32)) 99) (m 103) ((ma_u m 111 (m 103 l2.toNatClampNeg).toNatClampNeg (-1 : Int32)) 111) from by first | (exact Ow_rm r_OW (by decide) (tn_cast (by omega)).symm) | (exfalso; omega; done) | (exfalso; contradiction; done)) (show zrm (m0 99) ((ma_u m 99 l2.toNatClampNeg (0 : Int32)) 99) (m 110) (l2 + (1 : Int32)).toNatClampNeg from by first | (exact rm_put r_RM (by assumption) (tn_succ (by omega) (by omega))) | (exact rm_put r_RM r_UK.2 (tn_succ (by omega) (by omega))) | (exfalso; omega; done) | (exfalso; contradiction; done)) (show zowr (m0 111) ((ma_u m 111 (m 103 l2.toNatClampNeg).toNatClampNeg (-1 : Int32)) 111) (m0 99) (m 110) (m 103) from by first | (exact owr_put r_OWR (s := l2.toNatClampNeg) (by omega) (rm_us r_RM (by omega) (by assumption)) (by assumption) (by decide) (tn_cast (by omega)).symm) | (exact owr_put r_OWR (s := l2.toNatClampNeg) (by omega) (rm_us r_RM (by omega) r_UK.1) r_UK.2 (by decide) (tn_cast (by omega)).symm) | (exfalso; omega; done) | (exfalso; contradiction; done)) (show ((m 94 45) - ((m 102 l2.toNatClampNeg) + (1 : Int32))).toInt = sm (zbU ((ma_u m 99 l2.toNatClampNeg (0 : Int32)) 99)) (m 102) 3100 from by first | (exact WT_rm r_WTS (by omega) (by assumption) (fun t ht => ra_102 hV ht)) | (exfalso; omega; done) | (exfalso; contradiction; done))
    · skip
      have g26 := i_nle h7
      refine sp_192 (l2) (l3) hV (by omega) (by omega) (by omega) (show l3.toInt < (m 102 l2.toNatClampNeg).toInt from by omega) (fun v2 m1 hV_m1 p0_m1 => zmi_n ?_)
      have p0_m1 : v2 = zrf (m 98) (m 101) (m 108) l2.toNatClampNeg l3.toNatClampNeg := p0_m1
      try have := W_ref r_W (by omega) (by omega) (by omega) (by omega) p0_m1
      have b27 := i_bd v2
      have li28 : (0 : Int32).toInt = 0 := rfl
      refine zd (fun (h29 : v2 < (0 : Int32)) => ?_) (fun (h29 : ¬ v2 < (0 : Int32)) => ?_)
      · skip
        have g30 := i_lt h29
        have b31 := i_bd l1
        first | have e32 : (l3 + (1 : Int32)).toInt = l3.toInt + (1) := i_addk rfl (by omega) (by omega) | have b33 := i_bd (l3 + (1 : Int32))
        exact IH (61 - (l3 + (1 : Int32)).toInt).toNat (by omega) _ (l1) (l2) ((l3 + (1 : Int32))) rfl (zF_zov hF ws_192_200) hV_m1 (by omega) (by omega) (by omega) (show (m 94 10).toInt ≠ 4 from by omega) (show (m 94 10).toInt = 4 from by omega) (by omega) r_W r_GU r_OW r_RM r_OWR r_UK r_WTS
      · skip
        have g34 := i_nlt h29
        have hg35 : (0 ≤ v2 ∧ v2.toNatClampNeg < 3100) := i_ix (by omega) (by omega)
        refine ⟨hg35, ?_⟩
        first | have f36 : 0 ≤ (m 110 v2.toNatClampNeg).toInt ∧ (m 110 v2.toNatClampNeg).toInt ≤ 1 := ra_110 (m := m) hV (k := v2.toNatClampNeg) (i_ix (n := 3100) (by omega) (by omega)).2 | have b37 := i_bd (m 110 v2.toNatClampNeg)
        refine zd (fun (h38 : (m 110 v2.toNatClampNeg) = (0 : Int32)) => ?_) (fun (h38 : ¬ (m 110 v2.toNatClampNeg) = (0 : Int32)) => ?_)
        · skip
          have g39 := i_eq h38
          have b40 := i_bd l1
          first | have e41 : (l3 + (1 : Int32)).toInt = l3.toInt + (1) := i_addk rfl (by omega) (by omega) | have b42 := i_bd (l3 + (1 : Int32))
          exact IH (61 - (l3 + (1 : Int32)).toInt).toNat (by omega) _ (l1) (l2) ((l3 + (1 : Int32))) rfl (zF_zov hF ws_192_200) hV_m1 (by omega) (by omega) (by omega) (show (m 94 10).toInt ≠ 4 from by omega) (show (m 94 10).toInt = 4 from by omega) (by omega) r_W r_GU r_OW r_RM r_OWR r_UK r_WTS
        · skip
          have g43 := i_ne h38
          have hg44 : (0 ≤ v2 ∧ v2.toNatClampNeg < 3100) := i_ix (by omega) (by omega)
          refine ⟨hg44, ?_⟩
          have hg45 : (0 ≤ v2 ∧ v2.toNatClampNeg < 3100) := i_ix (by omega) (by omega)
          refine ⟨hg45, ?_⟩
          have hV46 : zV (ma_u (zov wr_192 m m1) 105 v2.toNatClampNeg ((m 105 v2.toNatClampNeg) - (1 : Int32))) := ua_105 hV_m1
          have b47 := i_bd l1
          first | have e48 : (l3 + (1 : Int32)).toInt = l3.toInt + (1) := i_addk rfl (by omega) (by omega) | have b49 := i_bd (l3 + (1 : Int32))
          exact IH (61 - (l3 + (1 : Int32)).toInt).toNat (by omega) _ (l1) (l2) ((l3 + (1 : Int32))) rfl (zF_u (zF_zov hF ws_192_200) rfl) hV46 (by omega) (by omega) (by omega) (show (m 94 10).toInt ≠ 4 from by omega) (show (m 94 10).toInt = 4 from by omega) (by omega) r_W r_GU r_OW r_RM r_OWR r_UK r_WTS
theorem lp_200rn_4 {X : Nat × (Nat → Int32)} {P : Option ma_V → (Nat → Nat → Int32) → Prop} {T : Nat} {m0 : Nat → Nat → Int32} (h0 : zV m0) (K : ∀ v m', zF wr_200 m0 m' → zV m' → (zrm (m0 99) (m' 99) (m' 110) 3100) → (zowr (m0 111) (m' 111) (m0 99) (m' 110) (m' 103)) → (zGU T (m' 94 46) (m' 99)) → (zOw (m' 99) (m' 103) (m' 111)) → ((m' 94 45).toInt = sm (zbU (m' 99)) (m' 102) 3100) → P (some (.inl v)) m') : ∀ (n : Nat) (m : Nat → Nat → Int32) (l1 : Int32) (l2 : Int32), (3100 - l2.toInt).toNat = n → zF wr_200 m0 m → zV m → (0 ≤ l2.toInt) → ((m 94 10).toInt ≠ 4) → (zW (m 94 7) (m 98) (m 101) (m 102) (m 108)) → (zGU T (m 94 46) (m 99)) → (zOw (m 99) (m 103) (m 111)) → (zrm (m0 99) (m 99) (m 110) l2.toNatClampNeg) → (zowr (m0 111) (m 111) (m0 99) (m 110) (m 103)) → ((m 94 45).toInt = sm (zbU (m 99)) (m 102) 3100) → zm X 2 44 200 4 [(0, .inr (.inr (some 94))), (1, .inl l1), (2, .inl l2)] m P := by
  intro n
  induction n using Nat.strongRecOn with
  | _ n IH =>
    intro m l1 l2 hmu hF hV hi0 hi1 r_W r_GU r_OW r_RM r_OWR r_WTS
    refine g_200_4 l1 l2 ?_
    have f1 : 0 ≤ (m 94 10).toInt ∧ (m 94 10).toInt ≤ 6 := rs_94_10 (m := m) hV
    have li2 : (3100 : Int32).toInt = 3100 := rfl
    have b3 := i_bd l2
    refine zd (fun (h4 : (3100 : Int32) ≤ l2) => ?_) (fun (h4 : ¬ (3100 : Int32) ≤ l2) => ?_)
    · skip
      have g5 := i_le h4
      have b6 := i_bd l1
      exact K (l1) _ hF hV (show zrm (m0 99) (m 99) (m 110) 3100 from by first | (exact rm_end r_RM (by rw [tn_eq]; omega)) | (exfalso; omega; done) | (exfalso; contradiction; done)) r_OWR r_GU r_OW r_WTS
    · skip
      have g7 := i_nle h4
      have hg8 : (0 ≤ l2 ∧ l2.toNatClampNeg < 3100) := i_ix (by omega) (by omega)
      refine ⟨hg8, ?_⟩
      first | have f9 : 0 ≤ (m 99 l2.toNatClampNeg).toInt ∧ (m 99 l2.toNatClampNeg).toInt ≤ 1 := ra_99 (m := m) hV (k := l2.toNatClampNeg) (i_ix (n := 3100) (by omega) (by omega)).2 | have b10 := i_bd (m 99 l2.toNatClampNeg)
      have li11 : (0 : Int32).toInt = 0 := rfl
      refine zd (fun (h12 : (m 99 l2.toNatClampNeg) = (0 : Int32)) => ?_) (fun (h12 : ¬ (m 99 l2.toNatClampNeg) = (0 : Int32)) => ?_)
      · skip
        have g13 := i_eq h12
        have b14 := i_bd l1
        first | have e15 : (l2 + (1 : Int32)).toInt = l2.toInt + (1) := i_addk rfl (by omega) (by omega) | have b16 := i_bd (l2 + (1 : Int32))
        exact IH (3100 - (l2 + (1 : Int32)).toInt).toNat (by omega) _ (l1) ((l2 + (1 : Int32))) rfl hF hV (by omega) (show (m 94 10).toInt ≠ 4 from by omega) r_W r_GU r_OW (show zrm (m0 99) (m 99) (m 110) (l2 + (1 : Int32)).toNatClampNeg from by first | (exact rm_skip r_RM (Or.inl (by assumption)) (tn_succ (by omega) (by omega))) | (exact rm_skip r_RM (Or.inr (by assumption)) (tn_succ (by omega) (by omega))) | (exfalso; omega; done) | (exfalso; contradiction; done)) r_OWR r_WTS
      · skip
        have g17 := i_ne h12
        have hg18 : (0 ≤ l2 ∧ l2.toNatClampNeg < 3100) := i_ix (by omega) (by omega)
        refine ⟨hg18, ?_⟩
        first | have f19 : 0 ≤ (m 110 l2.toNatClampNeg).toInt ∧ (m 110 l2.toNatClampNeg).toInt ≤ 1 := ra_110 (m := m) hV (k := l2.toNatClampNeg) (i_ix (n := 3100) (by omega) (by omega)).2 | have b20 := i_bd (m 110 l2.toNatClampNeg)
        refine zd (fun (h21 : (m 110 l2.toNatClampNeg) = (0 : Int32)) => ?_) (fun (h21 : ¬ (m 110 l2.toNatClampNeg) = (0 : Int32)) => ?_)
        · skip
          have g22 := i_eq h21
          have hg23 : (0 ≤ l2 ∧ l2.toNatClampNeg < 3100) := i_ix (by omega) (by omega)
          refine ⟨hg23, ?_⟩
          have li24 : (4 : Int32).toInt = 4 := rfl
          refine zd (fun (h25 : (m 94 10) = (4 : Int32)) => ?_) (fun (h25 : ¬ (m 94 10) = (4 : Int32)) => ?_)
          · skip
            have g26 := i_eq h25
            have b27 := i_bd l1
            first | have f28 : 0 ≤ (m 102 l2.toNatClampNeg).toInt ∧ (m 102 l2.toNatClampNeg).toInt ≤ 60 := ra_102 (m := m) hV (k := l2.toNatClampNeg) (i_ix (n := 3100) (by omega) (by omega)).2 | have b29 := i_bd (m 102 l2.toNatClampNeg)
            first | have e30 : ((m 102 l2.toNatClampNeg) + (1 : Int32)).toInt = (m 102 l2.toNatClampNeg).toInt + (1) := i_addk rfl (by omega) (by omega) | have b31 := i_bd ((m 102 l2.toNatClampNeg) + (1 : Int32))
            first | have e32 : (l1 + ((m 102 l2.toNatClampNeg) + (1 : Int32))).toInt = l1.toInt + ((m 102 l2.toNatClampNeg) + (1 : Int32)).toInt := i_add (by omega) (by omega) | have b33 := i_bd (l1 + ((m 102 l2.toNatClampNeg) + (1 : Int32)))
            exact lp_200rn_50 h0 K (fun _ _ _ z1 z2 z3 y0 y1 y2 y3 y4 y5 y6 y7 => IH _ z1 _ _ _ rfl z2 z3 y0 y1 y2 y3 y4 y5 y6 y7) _ _ ((l1 + ((m 102 l2.toNatClampNeg) + (1 : Int32)))) (l2) ((0 : Int32)) rfl hF hV (by omega) (by omega) (by omega) (show (m 94 10).toInt ≠ 4 from by omega) (show (m 94 10).toInt = 4 from by omega) (by omega) r_W r_GU r_OW r_RM r_OWR (show (m 99) l2.toNatClampNeg ≠ 0 ∧ (m 110) l2.toNatClampNeg = 0 from by first | (exact ⟨by assumption, by assumption⟩) | (exfalso; omega; done) | (exfalso; contradiction; done)) r_WTS
          · skip
            have g34 := i_ne h25
            have hg35 : (0 ≤ l2 ∧ l2.toNatClampNeg < 3100) := i_ix (by omega) (by omega)
            refine ⟨hg35, ?_⟩
            have hg36 : (0 ≤ l2 ∧ l2.toNatClampNeg < 3100) := i_ix (by omega) (by omega)
            refine ⟨hg36, ?_⟩
            first | have f37 : 0 ≤ (m 103 l2.toNatClampNeg).toInt ∧ (m 103 l2.toNatClampNeg).toInt ≤ 4599 := ra_103 (m := m) hV (k := l2.toNatClampNeg) (i_ix (n := 3100) (by omega) (by omega)).2 | have b38 := i_bd (m 103 l2.toNatClampNeg)
            have hg39 : (0 ≤ (m 103 l2.toNatClampNeg) ∧ (m 103 l2.toNatClampNeg).toNatClampNeg < 4600) := i_ix (by omega) (by omega)
            refine ⟨hg39, ?_⟩
            have hg40 : (0 ≤ l2 ∧ l2.toNatClampNeg < 3100) := i_ix (by omega) (by omega)
            refine ⟨hg40, ?_⟩
            have hg41 : (0 ≤ l2 ∧ l2.toNatClampNeg < 3100) := i_ix (by omega) (by omega)
            refine ⟨hg41, ?_⟩
            have hV42 : zV (ma_u m 99 l2.toNatClampNeg (0 : Int32)) := ua_99 hV (by omega) (by omega)
            have li44 : (-1 : Int32).toInt = -1 := rfl
            have hV43 : zV (ma_u (ma_u m 99 l2.toNatClampNeg (0 : Int32)) 111 (m 103 l2.toNatClampNeg).toNatClampNeg (-1 : Int32)) := ua_111 hV42 (by omega) (by omega)
            have hV45 : zV (ma_u (ma_u (ma_u m 99 l2.toNatClampNeg (0 : Int32)) 111 (m 103 l2.toNatClampNeg).toNatClampNeg (-1 : Int32)) 94 44 ((m 94 44) - (1 : Int32))) := uf_94_44 hV43
            have hV46 : zV (ma_u (ma_u (ma_u (ma_u m 99 l2.toNatClampNeg (0 : Int32)) 111 (m 103 l2.toNatClampNeg).toNatClampNeg (-1 : Int32)) 94 44 ((m 94 44) - (1 : Int32))) 94 45 ((m 94 45) - ((m 102 l2.toNatClampNeg) + (1 : Int32)))) := uf_94_45 hV45
            have hV47 : zV (ma_u (ma_u (ma_u (ma_u (ma_u m 99 l2.toNatClampNeg (0 : Int32)) 111 (m 103 l2.toNatClampNeg).toNatClampNeg (-1 : Int32)) 94 44 ((m 94 44) - (1 : Int32))) 94 45 ((m 94 45) - ((m 102 l2.toNatClampNeg) + (1 : Int32)))) 94 49 ((m 94 49) + ((m 102 l2.toNatClampNeg) + (1 : Int32)))) := uf_94_49 hV46
            have b48 := i_bd l1
            first | have f49 : 0 ≤ (m 102 l2.toNatClampNeg).toInt ∧ (m 102 l2.toNatClampNeg).toInt ≤ 60 := ra_102 (m := m) hV (k := l2.toNatClampNeg) (i_ix (n := 3100) (by omega) (by omega)).2 | have b50 := i_bd (m 102 l2.toNatClampNeg)
            first | have e51 : ((m 102 l2.toNatClampNeg) + (1 : Int32)).toInt = (m 102 l2.toNatClampNeg).toInt + (1) := i_addk rfl (by omega) (by omega) | have b52 := i_bd ((m 102 l2.toNatClampNeg) + (1 : Int32))
            first | have e53 : (l1 + ((m 102 l2.toNatClampNeg) + (1 : Int32))).toInt = l1.toInt + ((m 102 l2.toNatClampNeg) + (1 : Int32)).toInt := i_add (by omega) (by omega) | have b54 := i_bd (l1 + ((m 102 l2.toNatClampNeg) + (1 : Int32)))
            first | have e55 : (l2 + (1 : Int32)).toInt = l2.toInt + (1) := i_addk rfl (by omega) (by omega) | have b56 := i_bd (l2 + (1 : Int32))
            exact IH (3100 - (l2 + (1 : Int32)).toInt).toNat (by omega) _ ((l1 + ((m 102 l2.toNatClampNeg) + (1 : Int32)))) ((l2 + (1 : Int32))) rfl (zF_u (zF_u (zF_u (zF_u (zF_u hF rfl) rfl) rfl) rfl) rfl) hV47 (by omega) (show (m 94 10).toInt ≠ 4 from by omega) r_W (show zGU T (m 94 46) ((ma_u m 99 l2.toNatClampNeg (0 : Int32)) 99) from by first | (exact GU_0 r_GU) | (exfalso; omega; done) | (exfalso; contradiction; done)) (show zOw ((ma_u m 99 l2.toNatClampNeg (0 : Int32)) 99) (m 103) ((ma_u m 111 (m 103 l2.toNatClampNeg).toNatClampNeg (-1 : Int32)) 111) from by first | (exact Ow_rm r_OW (by decide) (tn_cast (by omega)).symm) | (exfalso; omega; done) | (exfalso; contradiction; done)) (show zrm (m0 99) ((ma_u m 99 l2.toNatClampNeg (0 : Int32)) 99) (m 110) (l2 + (1 : Int32)).toNatClampNeg from by first | (exact rm_put r_RM (by assumption) (tn_succ (by omega) (by omega))) | (exfalso; omega; done) | (exfalso; contradiction; done)) (show zowr (m0 111) ((ma_u m 111 (m 103 l2.toNatClampNeg).toNatClampNeg (-1 : Int32)) 111) (m0 99) (m 110) (m 103) from by first | (exact owr_put r_OWR (s := l2.toNatClampNeg) (by omega) (rm_us r_RM (by omega) (by assumption)) (by assumption) (by decide) (tn_cast (by omega)).symm) | (exfalso; omega; done) | (exfalso; contradiction; done)) (show ((m 94 45) - ((m 102 l2.toNatClampNeg) + (1 : Int32))).toInt = sm (zbU ((ma_u m 99 l2.toNatClampNeg (0 : Int32)) 99)) (m 102) 3100 from by first | (exact WT_rm r_WTS (by omega) (by assumption) (fun t ht => ra_102 hV ht)) | (exfalso; omega; done) | (exfalso; contradiction; done))
        · skip
          have g57 := i_ne h21
          have b58 := i_bd l1
          first | have e59 : (l2 + (1 : Int32)).toInt = l2.toInt + (1) := i_addk rfl (by omega) (by omega) | have b60 := i_bd (l2 + (1 : Int32))
          exact IH (3100 - (l2 + (1 : Int32)).toInt).toNat (by omega) _ (l1) ((l2 + (1 : Int32))) rfl hF hV (by omega) (show (m 94 10).toInt ≠ 4 from by omega) r_W r_GU r_OW (show zrm (m0 99) (m 99) (m 110) (l2 + (1 : Int32)).toNatClampNeg from by first | (exact rm_skip r_RM (Or.inl (by assumption)) (tn_succ (by omega) (by omega))) | (exact rm_skip r_RM (Or.inr (by assumption)) (tn_succ (by omega) (by omega))) | (exfalso; omega; done) | (exfalso; contradiction; done)) r_OWR r_WTS
theorem sp_200rn {X : Nat × (Nat → Int32)} {P : Option ma_V → (Nat → Nat → Int32) → Prop} {T : Nat} {m : Nat → Nat → Int32}  (hV : zV m) (hpre0 : (m 94 10).toInt ≠ 4) (r_W : zW (m 94 7) (m 98) (m 101) (m 102) (m 108)) (r_GU : zGU T (m 94 46) (m 99)) (r_OW : zOw (m 99) (m 103) (m 111)) (r_WTS : (m 94 45).toInt = sm (zbU (m 99)) (m 102) 3100) (KZ : ∀ v m', zV (zov wr_200 m m') → (zrm (m 99) (m' 99) (m 110) 3100) → (zowr (m 111) (m' 111) (m 99) (m 110) (m 103)) → (zGU T (m 94 46) (m' 99)) → (zOw (m' 99) (m 103) (m' 111)) → ((m' 94 45).toInt = sm (zbU (m' 99)) (m 102) 3100) → P (some (.inl v)) (zov wr_200 m m')) : zm X 2 44 200 0 [(0, .inr (.inr (some 94)))] m P := by
  have K : ∀ v m', zF wr_200 m m' → zV m' → (zrm (m 99) (m' 99) (m' 110) 3100) → (zowr (m 111) (m' 111) (m 99) (m' 110) (m' 103)) → (zGU T (m' 94 46) (m' 99)) → (zOw (m' 99) (m' 103) (m' 111)) → ((m' 94 45).toInt = sm (zbU (m' 99)) (m' 102) 3100) → P (some (.inl v)) m' := by
    intro v m' hf z q0 q1 q2 q3 q4
    have e := zov_eq hf
    rw [e] at z ⊢
    try rw [e] at q0
    try rw [e] at q1
    try rw [e] at q2
    try rw [e] at q3
    try rw [e] at q4
    exact KZ v m' z q0 q1 q2 q3 q4
  refine g_200_0  ?_
  have f1 : 0 ≤ (m 94 10).toInt ∧ (m 94 10).toInt ≤ 6 := rs_94_10 (m := m) hV
  have li2 : (0 : Int32).toInt = 0 := rfl
  exact lp_200rn_4 hV K _ _ ((0 : Int32)) ((0 : Int32)) rfl zF_rfl hV (by omega) (show (m 94 10).toInt ≠ 4 from by omega) r_W r_GU r_OW (show zrm (m 99) (m 99) (m 110) (0 : Int32).toNatClampNeg from by first | (exact rm_0) | (exfalso; omega; done) | (exfalso; contradiction; done)) (show zowr (m 111) (m 111) (m 99) (m 110) (m 103) from by first | (exact owr_rfl) | (exfalso; omega; done) | (exfalso; contradiction; done)) r_WTS
