/-! from 95.zf0 -/
/-! the reference: words that got free (written by wip/tools/gen15f.py) -/
/-! words that got free: what is answered and what is there make what was there -/
theorem i_ws {n w x o : Int32} (h : n + w = o) : (n + x) + (w - x) = o := by
  rw [← h, Int32.sub_eq_add_neg, Int32.add_assoc, ← Int32.add_assoc x, Int32.add_comm x w, Int32.add_assoc w, ← Int32.sub_eq_add_neg, Int32.sub_self, Int32.add_zero]
theorem i_wx {n w x o : Int32} (h : n + w = o) : (n + x - x) + w = o := by
  rw [Int32.sub_eq_add_neg, Int32.add_assoc n, ← Int32.sub_eq_add_neg, Int32.sub_self, Int32.add_zero]
  exact h
theorem i_wy {n w x o : Int32} (h : (n - x) + w = o) : n + (w - x) = o := by
  rw [← h, Int32.sub_eq_add_neg, Int32.sub_eq_add_neg, Int32.add_assoc, Int32.add_comm w]
theorem i_w0 {w : Int32} : (0 : Int32) + w = w := Int32.zero_add w
theorem i_wt {a b n m w : Int32} (h : n + w = a) (g : m + a = b) : (m + n) + w = b := by
  rw [← g, ← h, Int32.add_assoc]
theorem lp_200aw_50 {X : Nat × (Nat → Int32)} {P : Option ma_V → (Nat → Nat → Int32) → Prop} {T : Nat} {m0 : Nat → Nat → Int32} (h0 : zV m0) (K : ∀ v m₉, zF wr_200 m0 m₉ → zV m₉ → (zrm (m0 99) (m₉ 99) (m₉ 110) 3100) → (zowr (m0 111) (m₉ 111) (m0 99) (m₉ 110) (m₉ 103)) → (zGU T (m₉ 94 46) (m₉ 99)) → (zOw (m₉ 99) (m₉ 103) (m₉ 111)) → (v + (m₉ 94 45) = (m0 94 45)) → P (some (.inl v)) m₉) {n4 : Nat} (OUT4 : ∀ (m₉ : Nat → Nat → Int32) (l1 : Int32) (l2 : Int32), (3100 - l2.toInt).toNat < n4 → zF wr_200 m0 m₉ → zV m₉ → (0 ≤ l2.toInt) → (zW (m₉ 94 7) (m₉ 98) (m₉ 101) (m₉ 102) (m₉ 108)) → (zGU T (m₉ 94 46) (m₉ 99)) → (zOw (m₉ 99) (m₉ 103) (m₉ 111)) → (zrm (m0 99) (m₉ 99) (m₉ 110) l2.toNatClampNeg) → (zowr (m0 111) (m₉ 111) (m0 99) (m₉ 110) (m₉ 103)) → (l1 + (m₉ 94 45) = (m0 94 45)) → zm X 2 44 200 4 [(0, .inr (.inr (some 94))), (1, .inl l1), (2, .inl l2)] m₉ P) : ∀ (n : Nat) (m : Nat → Nat → Int32) (l1 : Int32) (l2 : Int32) (l3 : Int32), (61 - l3.toInt).toNat = n → zF wr_200 m0 m → zV m → (0 ≤ l2.toInt) → (l2.toInt ≤ 3099) → (0 ≤ l3.toInt) → ((3100 - l2.toInt).toNat = n4) → (zW (m 94 7) (m 98) (m 101) (m 102) (m 108)) → (zGU T (m 94 46) (m 99)) → (zOw (m 99) (m 103) (m 111)) → (zrm (m0 99) (m 99) (m 110) l2.toNatClampNeg) → (zowr (m0 111) (m 111) (m0 99) (m 110) (m 103)) → ((m 99) l2.toNatClampNeg ≠ 0 ∧ (m 110) l2.toNatClampNeg = 0) → ((l1 - ((m 102) l2.toNatClampNeg + (1 : Int32))) + (m 94 45) = (m0 94 45)) → zm X 2 44 200 50 [(0, .inr (.inr (some 94))), (1, .inl l1), (2, .inl l2), (3, .inl l3)] m P := by
  intro n
  induction n using Nat.strongRecOn with
  | _ n IH =>
    intro m l1 l2 l3 hmu hF hV hi0 hi1 hi2 hi3 r_W r_GU r_OW r_RM r_OWR r_UK r_WD2
    refine g_200_50 l1 l2 l3 ?_
    have b1 := i_bd l2
    have hg2 : (0 ≤ l2 ∧ l2.toNatClampNeg < 3100) := i_ix (by omega) (by omega)
    refine ⟨hg2, ?_⟩
    first | have f3 : 0 ≤ (m 102 l2.toNatClampNeg).toInt ∧ (m 102 l2.toNatClampNeg).toInt ≤ 60 := ra_102 (m := m) hV (k := l2.toNatClampNeg) (i_ix (n := 3100) (by omega) (by omega)).2 | have b4 := i_bd (m 102 l2.toNatClampNeg)
    have b5 := i_bd l3
    refine zd (fun (h6 : (m 102 l2.toNatClampNeg) ≤ l3) => ?_) (fun (h6 : ¬ (m 102 l2.toNatClampNeg) ≤ l3) => ?_)
    · skip
      have g7 := i_le h6
      have hg8 : (0 ≤ l2 ∧ l2.toNatClampNeg < 3100) := i_ix (by omega) (by omega)
      refine ⟨hg8, ?_⟩
      have hg9 : (0 ≤ l2 ∧ l2.toNatClampNeg < 3100) := i_ix (by omega) (by omega)
      refine ⟨hg9, ?_⟩
      first | have f10 : 0 ≤ (m 103 l2.toNatClampNeg).toInt ∧ (m 103 l2.toNatClampNeg).toInt ≤ 4599 := ra_103 (m := m) hV (k := l2.toNatClampNeg) (i_ix (n := 3100) (by omega) (by omega)).2 | have b11 := i_bd (m 103 l2.toNatClampNeg)
      have hg12 : (0 ≤ (m 103 l2.toNatClampNeg) ∧ (m 103 l2.toNatClampNeg).toNatClampNeg < 4600) := i_ix (by omega) (by omega)
      refine ⟨hg12, ?_⟩
      have hg13 : (0 ≤ l2 ∧ l2.toNatClampNeg < 3100) := i_ix (by omega) (by omega)
      refine ⟨hg13, ?_⟩
      have hg14 : (0 ≤ l2 ∧ l2.toNatClampNeg < 3100) := i_ix (by omega) (by omega)
      refine ⟨hg14, ?_⟩
      have li16 : (0 : Int32).toInt = 0 := rfl
      have hV15 : zV (ma_u m 99 l2.toNatClampNeg (0 : Int32)) := ua_99 hV (by omega) (by omega)
      have li18 : (-1 : Int32).toInt = -1 := rfl
      have hV17 : zV (ma_u (ma_u m 99 l2.toNatClampNeg (0 : Int32)) 111 (m 103 l2.toNatClampNeg).toNatClampNeg (-1 : Int32)) := ua_111 hV15 (by omega) (by omega)
      have hV19 : zV (ma_u (ma_u (ma_u m 99 l2.toNatClampNeg (0 : Int32)) 111 (m 103 l2.toNatClampNeg).toNatClampNeg (-1 : Int32)) 94 44 ((m 94 44) - (1 : Int32))) := uf_94_44 hV17
      have hV20 : zV (ma_u (ma_u (ma_u (ma_u m 99 l2.toNatClampNeg (0 : Int32)) 111 (m 103 l2.toNatClampNeg).toNatClampNeg (-1 : Int32)) 94 44 ((m 94 44) - (1 : Int32))) 94 45 ((m 94 45) - ((m 102 l2.toNatClampNeg) + (1 : Int32)))) := uf_94_45 hV19
      have hV21 : zV (ma_u (ma_u (ma_u (ma_u (ma_u m 99 l2.toNatClampNeg (0 : Int32)) 111 (m 103 l2.toNatClampNeg).toNatClampNeg (-1 : Int32)) 94 44 ((m 94 44) - (1 : Int32))) 94 45 ((m 94 45) - ((m 102 l2.toNatClampNeg) + (1 : Int32)))) 94 49 ((m 94 49) + ((m 102 l2.toNatClampNeg) + (1 : Int32)))) := uf_94_49 hV20
      have b22 := i_bd l1
      first | have e23 : (l2 + (1 : Int32)).toInt = l2.toInt + (1) := i_addk rfl (by omega) (by omega) | have b24 := i_bd (l2 + (1 : Int32))
      exact OUT4 _ (l1) ((l2 + (1 : Int32))) (show (3100 - (l2 + (1 : Int32)).toInt).toNat < n4 from by omega) (zF_u (zF_u (zF_u (zF_u (zF_u hF rfl) rfl) rfl) rfl) rfl) hV21 (by omega) r_W (show zGU T (m 94 46) ((ma_u m 99 l2.toNatClampNeg (0 : Int32)) 99) from by first | (exact GU_0 r_GU) | (exfalso; omega; done) | (exfalso; contradiction; done)) (show zOw ((ma_u m 99 l2.toNatClampNeg (0 : Int32)) 99) (m 103) ((ma_u m 111 (m 103 l2.toNatClampNeg).toNatClampNeg (-1 : Int32)) 111) from by first | (exact Ow_rm r_OW (by decide) (tn_cast (by omega)).symm) | (exfalso; omega; done) | (exfalso; contradiction; done)) (show zrm (m0 99) ((ma_u m 99 l2.toNatClampNeg (0 : Int32)) 99) (m 110) (l2 + (1 : Int32)).toNatClampNeg from by first | (exact rm_put r_RM (by assumption) (tn_succ (by omega) (by omega))) | (exact rm_put r_RM r_UK.2 (tn_succ (by omega) (by omega))) | (exfalso; omega; done) | (exfalso; contradiction; done)) (show zowr (m0 111) ((ma_u m 111 (m 103 l2.toNatClampNeg).toNatClampNeg (-1 : Int32)) 111) (m0 99) (m 110) (m 103) from by first | (exact owr_put r_OWR (s := l2.toNatClampNeg) (by omega) (rm_us r_RM (by omega) (by assumption)) (by assumption) (by decide) (tn_cast (by omega)).symm) | (exact owr_put r_OWR (s := l2.toNatClampNeg) (by omega) (rm_us r_RM (by omega) r_UK.1) r_UK.2 (by decide) (tn_cast (by omega)).symm) | (exfalso; omega; done) | (exfalso; contradiction; done)) (show l1 + ((m 94 45) - ((m 102 l2.toNatClampNeg) + (1 : Int32))) = (m0 94 45) from by first | (exact i_wy r_WD2) | (exfalso; omega; done) | (exfalso; contradiction; done))
    · skip
      have g25 := i_nle h6
      refine sp_192 (l2) (l3) hV (by omega) (by omega) (by omega) (show l3.toInt < (m 102 l2.toNatClampNeg).toInt from by omega) (fun v2 m1 hV_m1 p0_m1 => zmi_n ?_)
      have p0_m1 : v2 = zrf (m 98) (m 101) (m 108) l2.toNatClampNeg l3.toNatClampNeg := p0_m1
      try have := W_ref r_W (by omega) (by omega) (by omega) (by omega) p0_m1
      have b26 := i_bd v2
      have li27 : (0 : Int32).toInt = 0 := rfl
      refine zd (fun (h28 : v2 < (0 : Int32)) => ?_) (fun (h28 : ¬ v2 < (0 : Int32)) => ?_)
      · skip
        have g29 := i_lt h28
        have b30 := i_bd l1
        first | have e31 : (l3 + (1 : Int32)).toInt = l3.toInt + (1) := i_addk rfl (by omega) (by omega) | have b32 := i_bd (l3 + (1 : Int32))
        exact IH (61 - (l3 + (1 : Int32)).toInt).toNat (by omega) _ (l1) (l2) ((l3 + (1 : Int32))) rfl (zF_zov hF ws_192_200) hV_m1 (by omega) (by omega) (by omega) (by omega) r_W r_GU r_OW r_RM r_OWR r_UK r_WD2
      · skip
        have g33 := i_nlt h28
        have hg34 : (0 ≤ v2 ∧ v2.toNatClampNeg < 3100) := i_ix (by omega) (by omega)
        refine ⟨hg34, ?_⟩
        first | have f35 : 0 ≤ (m 110 v2.toNatClampNeg).toInt ∧ (m 110 v2.toNatClampNeg).toInt ≤ 1 := ra_110 (m := m) hV (k := v2.toNatClampNeg) (i_ix (n := 3100) (by omega) (by omega)).2 | have b36 := i_bd (m 110 v2.toNatClampNeg)
        refine zd (fun (h37 : (m 110 v2.toNatClampNeg) = (0 : Int32)) => ?_) (fun (h37 : ¬ (m 110 v2.toNatClampNeg) = (0 : Int32)) => ?_)
        · skip
          have g38 := i_eq h37
          have b39 := i_bd l1
          first | have e40 : (l3 + (1 : Int32)).toInt = l3.toInt + (1) := i_addk rfl (by omega) (by omega) | have b41 := i_bd (l3 + (1 : Int32))
          exact IH (61 - (l3 + (1 : Int32)).toInt).toNat (by omega) _ (l1) (l2) ((l3 + (1 : Int32))) rfl (zF_zov hF ws_192_200) hV_m1 (by omega) (by omega) (by omega) (by omega) r_W r_GU r_OW r_RM r_OWR r_UK r_WD2
        · skip
          have g42 := i_ne h37
          have hg43 : (0 ≤ v2 ∧ v2.toNatClampNeg < 3100) := i_ix (by omega) (by omega)
          refine ⟨hg43, ?_⟩
          have hg44 : (0 ≤ v2 ∧ v2.toNatClampNeg < 3100) := i_ix (by omega) (by omega)
          refine ⟨hg44, ?_⟩
          have hV45 : zV (ma_u (zov wr_192 m m1) 105 v2.toNatClampNeg ((m 105 v2.toNatClampNeg) - (1 : Int32))) := ua_105 hV_m1
          have b46 := i_bd l1
          first | have e47 : (l3 + (1 : Int32)).toInt = l3.toInt + (1) := i_addk rfl (by omega) (by omega) | have b48 := i_bd (l3 + (1 : Int32))
          exact IH (61 - (l3 + (1 : Int32)).toInt).toNat (by omega) _ (l1) (l2) ((l3 + (1 : Int32))) rfl (zF_u (zF_zov hF ws_192_200) rfl) hV45 (by omega) (by omega) (by omega) (by omega) r_W r_GU r_OW r_RM r_OWR r_UK r_WD2
theorem lp_200aw_4 {X : Nat × (Nat → Int32)} {P : Option ma_V → (Nat → Nat → Int32) → Prop} {T : Nat} {m0 : Nat → Nat → Int32} (h0 : zV m0) (K : ∀ v m₉, zF wr_200 m0 m₉ → zV m₉ → (zrm (m0 99) (m₉ 99) (m₉ 110) 3100) → (zowr (m0 111) (m₉ 111) (m0 99) (m₉ 110) (m₉ 103)) → (zGU T (m₉ 94 46) (m₉ 99)) → (zOw (m₉ 99) (m₉ 103) (m₉ 111)) → (v + (m₉ 94 45) = (m0 94 45)) → P (some (.inl v)) m₉) : ∀ (n : Nat) (m : Nat → Nat → Int32) (l1 : Int32) (l2 : Int32), (3100 - l2.toInt).toNat = n → zF wr_200 m0 m → zV m → (0 ≤ l2.toInt) → (zW (m 94 7) (m 98) (m 101) (m 102) (m 108)) → (zGU T (m 94 46) (m 99)) → (zOw (m 99) (m 103) (m 111)) → (zrm (m0 99) (m 99) (m 110) l2.toNatClampNeg) → (zowr (m0 111) (m 111) (m0 99) (m 110) (m 103)) → (l1 + (m 94 45) = (m0 94 45)) → zm X 2 44 200 4 [(0, .inr (.inr (some 94))), (1, .inl l1), (2, .inl l2)] m P := by
  intro n
  induction n using Nat.strongRecOn with
  | _ n IH =>
    intro m l1 l2 hmu hF hV hi0 r_W r_GU r_OW r_RM r_OWR r_WD
    refine g_200_4 l1 l2 ?_
    have li1 : (3100 : Int32).toInt = 3100 := rfl
    have b2 := i_bd l2
    refine zd (fun (h3 : (3100 : Int32) ≤ l2) => ?_) (fun (h3 : ¬ (3100 : Int32) ≤ l2) => ?_)
    · skip
      have g4 := i_le h3
      have b5 := i_bd l1
      exact K (l1) _ hF hV (show zrm (m0 99) (m 99) (m 110) 3100 from by first | (exact rm_end r_RM (by rw [tn_eq]; omega)) | (exfalso; omega; done) | (exfalso; contradiction; done)) r_OWR r_GU r_OW r_WD
    · skip
      have g6 := i_nle h3
      have hg7 : (0 ≤ l2 ∧ l2.toNatClampNeg < 3100) := i_ix (by omega) (by omega)
      refine ⟨hg7, ?_⟩
      first | have f8 : 0 ≤ (m 99 l2.toNatClampNeg).toInt ∧ (m 99 l2.toNatClampNeg).toInt ≤ 1 := ra_99 (m := m) hV (k := l2.toNatClampNeg) (i_ix (n := 3100) (by omega) (by omega)).2 | have b9 := i_bd (m 99 l2.toNatClampNeg)
      have li10 : (0 : Int32).toInt = 0 := rfl
      refine zd (fun (h11 : (m 99 l2.toNatClampNeg) = (0 : Int32)) => ?_) (fun (h11 : ¬ (m 99 l2.toNatClampNeg) = (0 : Int32)) => ?_)
      · skip
        have g12 := i_eq h11
        have b13 := i_bd l1
        first | have e14 : (l2 + (1 : Int32)).toInt = l2.toInt + (1) := i_addk rfl (by omega) (by omega) | have b15 := i_bd (l2 + (1 : Int32))
        exact IH (3100 - (l2 + (1 : Int32)).toInt).toNat (by omega) _ (l1) ((l2 + (1 : Int32))) rfl hF hV (by omega) r_W r_GU r_OW (show zrm (m0 99) (m 99) (m 110) (l2 + (1 : Int32)).toNatClampNeg from by first | (exact rm_skip r_RM (Or.inl (by assumption)) (tn_succ (by omega) (by omega))) | (exact rm_skip r_RM (Or.inr (by assumption)) (tn_succ (by omega) (by omega))) | (exfalso; omega; done) | (exfalso; contradiction; done)) r_OWR r_WD
      · skip
        have g16 := i_ne h11
        have hg17 : (0 ≤ l2 ∧ l2.toNatClampNeg < 3100) := i_ix (by omega) (by omega)
        refine ⟨hg17, ?_⟩
        first | have f18 : 0 ≤ (m 110 l2.toNatClampNeg).toInt ∧ (m 110 l2.toNatClampNeg).toInt ≤ 1 := ra_110 (m := m) hV (k := l2.toNatClampNeg) (i_ix (n := 3100) (by omega) (by omega)).2 | have b19 := i_bd (m 110 l2.toNatClampNeg)
        refine zd (fun (h20 : (m 110 l2.toNatClampNeg) = (0 : Int32)) => ?_) (fun (h20 : ¬ (m 110 l2.toNatClampNeg) = (0 : Int32)) => ?_)
        · skip
          have g21 := i_eq h20
          have hg22 : (0 ≤ l2 ∧ l2.toNatClampNeg < 3100) := i_ix (by omega) (by omega)
          refine ⟨hg22, ?_⟩
          have f23 : 0 ≤ (m 94 10).toInt ∧ (m 94 10).toInt ≤ 6 := rs_94_10 (m := m) hV
          have li24 : (4 : Int32).toInt = 4 := rfl
          refine zd (fun (h25 : (m 94 10) = (4 : Int32)) => ?_) (fun (h25 : ¬ (m 94 10) = (4 : Int32)) => ?_)
          · skip
            have g26 := i_eq h25
            have b27 := i_bd l1
            first | have f28 : 0 ≤ (m 102 l2.toNatClampNeg).toInt ∧ (m 102 l2.toNatClampNeg).toInt ≤ 60 := ra_102 (m := m) hV (k := l2.toNatClampNeg) (i_ix (n := 3100) (by omega) (by omega)).2 | have b29 := i_bd (m 102 l2.toNatClampNeg)
            first | have e30 : ((m 102 l2.toNatClampNeg) + (1 : Int32)).toInt = (m 102 l2.toNatClampNeg).toInt + (1) := i_addk rfl (by omega) (by omega) | have b31 := i_bd ((m 102 l2.toNatClampNeg) + (1 : Int32))
            first | have e32 : (l1 + ((m 102 l2.toNatClampNeg) + (1 : Int32))).toInt = l1.toInt + ((m 102 l2.toNatClampNeg) + (1 : Int32)).toInt := i_add (by omega) (by omega) | have b33 := i_bd (l1 + ((m 102 l2.toNatClampNeg) + (1 : Int32)))
            exact lp_200aw_50 h0 K (fun _ _ _ z1 z2 z3 y0 y1 y2 y3 y4 y5 y6 => IH _ z1 _ _ _ rfl z2 z3 y0 y1 y2 y3 y4 y5 y6) _ _ ((l1 + ((m 102 l2.toNatClampNeg) + (1 : Int32)))) (l2) ((0 : Int32)) rfl hF hV (by omega) (by omega) (by omega) (by omega) r_W r_GU r_OW r_RM r_OWR (show (m 99) l2.toNatClampNeg ≠ 0 ∧ (m 110) l2.toNatClampNeg = 0 from by first | (exact ⟨by assumption, by assumption⟩) | (exfalso; omega; done) | (exfalso; contradiction; done)) (show ((l1 + ((m 102 l2.toNatClampNeg) + (1 : Int32))) - ((m 102) l2.toNatClampNeg + (1 : Int32))) + (m 94 45) = (m0 94 45) from by first | (exact i_wx r_WD) | (exfalso; omega; done) | (exfalso; contradiction; done))
          · skip
            have g34 := i_ne h25
            have hg35 : (0 ≤ l2 ∧ l2.toNatClampNeg < 3100) := i_ix (by omega) (by omega)
            refine ⟨hg35, ?_⟩
            have hg36 : (0 ≤ l2 ∧ l2.toNatClampNeg < 3100) := i_ix (by omega) (by omega)
            refine ⟨hg36, ?_⟩
            first | have f37 : 0 ≤ (m 103 l2.toNatClampNeg).toInt ∧ (m 103 l2.toNatClampNeg).toInt ≤ 4599 := ra_103 (m := m) hV (k := l2.toNatClampNeg) (i_ix (n := 3100) (by omega) (by omega)).2 | have b38 := i_bd (m 103 l2.toNatClampNeg)
            have hg39 : (0 ≤ (m 103 l2.toNatClampNeg) ∧ (m 103 l2.toNatClampNeg).toNatClampNeg < 4600) := i_ix (by omega) (by omega)
            refine ⟨hg39, ?_⟩
            have hg40 : (0 ≤ l2 ∧ l2.toNatClampNeg < 3100) := i_ix (by omega) (by omega)
            refine ⟨hg40, ?_⟩
            have hg41 : (0 ≤ l2 ∧ l2.toNatClampNeg < 3100) := i_ix (by omega) (by omega)
            refine ⟨hg41, ?_⟩
            have hV42 : zV (ma_u m 99 l2.toNatClampNeg (0 : Int32)) := ua_99 hV (by omega) (by omega)
            have li44 : (-1 : Int32).toInt = -1 := rfl
            have hV43 : zV (ma_u (ma_u m 99 l2.toNatClampNeg (0 : Int32)) 111 (m 103 l2.toNatClampNeg).toNatClampNeg (-1 : Int32)) := ua_111 hV42 (by omega) (by omega)
            have hV45 : zV (ma_u (ma_u (ma_u m 99 l2.toNatClampNeg (0 : Int32)) 111 (m 103 l2.toNatClampNeg).toNatClampNeg (-1 : Int32)) 94 44 ((m 94 44) - (1 : Int32))) := uf_94_44 hV43
            have hV46 : zV (ma_u (ma_u (ma_u (ma_u m 99 l2.toNatClampNeg (0 : Int32)) 111 (m 103 l2.toNatClampNeg).toNatClampNeg (-1 : Int32)) 94 44 ((m 94 44) - (1 : Int32))) 94 45 ((m 94 45) - ((m 102 l2.toNatClampNeg) + (1 : Int32)))) := uf_94_45 hV45
            have hV47 : zV (ma_u (ma_u (ma_u (ma_u (ma_u m 99 l2.toNatClampNeg (0 : Int32)) 111 (m 103 l2.toNatClampNeg).toNatClampNeg (-1 : Int32)) 94 44 ((m 94 44) - (1 : Int32))) 94 45 ((m 94 45) - ((m 102 l2.toNatClampNeg) + (1 : Int32)))) 94 49 ((m 94 49) + ((m 102 l2.toNatClampNeg) + (1 : Int32)))) := uf_94_49 hV46
            have b48 := i_bd l1
            first | have f49 : 0 ≤ (m 102 l2.toNatClampNeg).toInt ∧ (m 102 l2.toNatClampNeg).toInt ≤ 60 := ra_102 (m := m) hV (k := l2.toNatClampNeg) (i_ix (n := 3100) (by omega) (by omega)).2 | have b50 := i_bd (m 102 l2.toNatClampNeg)
            first | have e51 : ((m 102 l2.toNatClampNeg) + (1 : Int32)).toInt = (m 102 l2.toNatClampNeg).toInt + (1) := i_addk rfl (by omega) (by omega) | have b52 := i_bd ((m 102 l2.toNatClampNeg) + (1 : Int32))
            first | have e53 : (l1 + ((m 102 l2.toNatClampNeg) + (1 : Int32))).toInt = l1.toInt + ((m 102 l2.toNatClampNeg) + (1 : Int32)).toInt := i_add (by omega) (by omega) | have b54 := i_bd (l1 + ((m 102 l2.toNatClampNeg) + (1 : Int32)))
            first | have e55 : (l2 + (1 : Int32)).toInt = l2.toInt + (1) := i_addk rfl (by omega) (by omega) | have b56 := i_bd (l2 + (1 : Int32))
            exact IH (3100 - (l2 + (1 : Int32)).toInt).toNat (by omega) _ ((l1 + ((m 102 l2.toNatClampNeg) + (1 : Int32)))) ((l2 + (1 : Int32))) rfl (zF_u (zF_u (zF_u (zF_u (zF_u hF rfl) rfl) rfl) rfl) rfl) hV47 (by omega) r_W (show zGU T (m 94 46) ((ma_u m 99 l2.toNatClampNeg (0 : Int32)) 99) from by first | (exact GU_0 r_GU) | (exfalso; omega; done) | (exfalso; contradiction; done)) (show zOw ((ma_u m 99 l2.toNatClampNeg (0 : Int32)) 99) (m 103) ((ma_u m 111 (m 103 l2.toNatClampNeg).toNatClampNeg (-1 : Int32)) 111) from by first | (exact Ow_rm r_OW (by decide) (tn_cast (by omega)).symm) | (exfalso; omega; done) | (exfalso; contradiction; done)) (show zrm (m0 99) ((ma_u m 99 l2.toNatClampNeg (0 : Int32)) 99) (m 110) (l2 + (1 : Int32)).toNatClampNeg from by first | (exact rm_put r_RM (by assumption) (tn_succ (by omega) (by omega))) | (exfalso; omega; done) | (exfalso; contradiction; done)) (show zowr (m0 111) ((ma_u m 111 (m 103 l2.toNatClampNeg).toNatClampNeg (-1 : Int32)) 111) (m0 99) (m 110) (m 103) from by first | (exact owr_put r_OWR (s := l2.toNatClampNeg) (by omega) (rm_us r_RM (by omega) (by assumption)) (by assumption) (by decide) (tn_cast (by omega)).symm) | (exfalso; omega; done) | (exfalso; contradiction; done)) (show (l1 + ((m 102 l2.toNatClampNeg) + (1 : Int32))) + ((m 94 45) - ((m 102 l2.toNatClampNeg) + (1 : Int32))) = (m0 94 45) from by first | (exact r_WD) | (exact i_w0) | (exact i_ws r_WD) | (exfalso; omega; done) | (exfalso; contradiction; done))
        · skip
          have g57 := i_ne h20
          have b58 := i_bd l1
          first | have e59 : (l2 + (1 : Int32)).toInt = l2.toInt + (1) := i_addk rfl (by omega) (by omega) | have b60 := i_bd (l2 + (1 : Int32))
          exact IH (3100 - (l2 + (1 : Int32)).toInt).toNat (by omega) _ (l1) ((l2 + (1 : Int32))) rfl hF hV (by omega) r_W r_GU r_OW (show zrm (m0 99) (m 99) (m 110) (l2 + (1 : Int32)).toNatClampNeg from by first | (exact rm_skip r_RM (Or.inl (by assumption)) (tn_succ (by omega) (by omega))) | (exact rm_skip r_RM (Or.inr (by assumption)) (tn_succ (by omega) (by omega))) | (exfalso; omega; done) | (exfalso; contradiction; done)) r_OWR r_WD
theorem sp_200aw {X : Nat × (Nat → Int32)} {P : Option ma_V → (Nat → Nat → Int32) → Prop} {T : Nat} {m : Nat → Nat → Int32}  (hV : zV m) (r_W : zW (m 94 7) (m 98) (m 101) (m 102) (m 108)) (r_GU : zGU T (m 94 46) (m 99)) (r_OW : zOw (m 99) (m 103) (m 111)) (KZ : ∀ v m₉, zV (zov wr_200 m m₉) → (zrm (m 99) (m₉ 99) (m 110) 3100) → (zowr (m 111) (m₉ 111) (m 99) (m 110) (m 103)) → (zGU T (m 94 46) (m₉ 99)) → (zOw (m₉ 99) (m 103) (m₉ 111)) → (v + (m₉ 94 45) = (m 94 45)) → P (some (.inl v)) (zov wr_200 m m₉)) : zm X 2 44 200 0 [(0, .inr (.inr (some 94)))] m P := by
  have K : ∀ v m₉, zF wr_200 m m₉ → zV m₉ → (zrm (m 99) (m₉ 99) (m₉ 110) 3100) → (zowr (m 111) (m₉ 111) (m 99) (m₉ 110) (m₉ 103)) → (zGU T (m₉ 94 46) (m₉ 99)) → (zOw (m₉ 99) (m₉ 103) (m₉ 111)) → (v + (m₉ 94 45) = (m 94 45)) → P (some (.inl v)) m₉ := by
    intro v m₉ hf z q0 q1 q2 q3 q4
    have e := zov_eq hf
    rw [e] at z ⊢
    try rw [e] at q0
    try rw [e] at q1
    try rw [e] at q2
    try rw [e] at q3
    try rw [e] at q4
    exact KZ v m₉ z q0 q1 q2 q3 q4
  refine g_200_0  ?_
  have li1 : (0 : Int32).toInt = 0 := rfl
  exact lp_200aw_4 hV K _ _ ((0 : Int32)) ((0 : Int32)) rfl zF_rfl hV (by omega) r_W r_GU r_OW (show zrm (m 99) (m 99) (m 110) (0 : Int32).toNatClampNeg from by first | (exact rm_0) | (exfalso; omega; done) | (exfalso; contradiction; done)) (show zowr (m 111) (m 111) (m 99) (m 110) (m 103) from by first | (exact owr_rfl) | (exfalso; omega; done) | (exfalso; contradiction; done)) (show (0 : Int32) + (m 94 45) = (m 94 45) from by first | (exact i_w0) | (exfalso; omega; done) | (exfalso; contradiction; done))
theorem sp_187aw {X : Nat × (Nat → Int32)} {P : Option ma_V → (Nat → Nat → Int32) → Prop} {T : Nat} {m : Nat → Nat → Int32}  (hV : zV m) (r_W : zW (m 94 7) (m 98) (m 101) (m 102) (m 108)) (r_GW : zGW T (m 94 55) (m 109)) (r_GU : zGU T (m 94 46) (m 99)) (r_OW : zOw (m 99) (m 103) (m 111)) (r_DX : zDX (m 94 10) (m 99) (m 112) (m 113) (m 114) (m 94 55) (m 98) (m 101) (m 102) (m 108)) (KZ : ∀ v m₉, zV (zov wr_187 m m₉) → (zGW T (m₉ 94 55) (m₉ 109)) → (zGU T (m 94 46) (m₉ 99)) → (zOw (m₉ 99) (m 103) (m₉ 111)) → (zDX (m 94 10) (m₉ 99) (m 112) (m₉ 113) (m₉ 114) (m₉ 94 55) (m 98) (m 101) (m 102) (m 108)) → (zsw (m 99) (m₉ 99) (m 111) (m₉ 111) (m 103)) → (v + (m₉ 94 45) = (m 94 45)) → P (some (.inl v)) (zov wr_187 m m₉)) : zm X 4 88 187 0 [(0, .inr (.inr (some 94)))] m P := by
  have K : ∀ v m₉, zF wr_187 m m₉ → zV m₉ → (zGW T (m₉ 94 55) (m₉ 109)) → (zGU T (m₉ 94 46) (m₉ 99)) → (zOw (m₉ 99) (m₉ 103) (m₉ 111)) → (zDX (m₉ 94 10) (m₉ 99) (m₉ 112) (m₉ 113) (m₉ 114) (m₉ 94 55) (m₉ 98) (m₉ 101) (m₉ 102) (m₉ 108)) → (zsw (m 99) (m₉ 99) (m 111) (m₉ 111) (m₉ 103)) → (v + (m₉ 94 45) = (m 94 45)) → P (some (.inl v)) m₉ := by
    intro v m₉ hf z q0 q1 q2 q3 q4 q5
    have e := zov_eq hf
    rw [e] at z ⊢
    try rw [e] at q0
    try rw [e] at q1
    try rw [e] at q2
    try rw [e] at q3
    try rw [e] at q4
    try rw [e] at q5
    exact KZ v m₉ z q0 q1 q2 q3 q4 q5
  refine g_187_0  ?_
  have hV1 : zV (ma_u m 94 47 ((m 94 47) + (1 : Int32))) := uf_94_47 hV
  refine sp_188  hV1 r_W r_DX (fun m1 hV_m1 p0_m1 p1_m1 p2_m1 p3_m1 p4_m1 => zmv_n ?_)
  have p0_m1 : (m1 94 73).toInt = 0 := p0_m1
  have p1_m1 : ((m 94 10).toInt = 2 ∨ (m 94 10).toInt = 3) → zCL (m1 110) (m 98) (m 101) (m 102) (m 108) (m1 118) (m1 94 73) 3100 0 := p1_m1
  have p2_m1 : zKU (m 94 10) (m 99) (m1 110) := p2_m1
  have p3_m1 : ((m 94 10).toInt = 2 ∨ (m 94 10).toInt = 3) → zcov (m1 110) (m 112) 16 := p3_m1
  have p4_m1 : ((m 94 10).toInt = 2 ∨ (m 94 10).toInt = 3) → zcov (m1 110) (m 114) (m 94 55).toInt := p4_m1
  have f2 : 0 ≤ (m1 94 73).toInt ∧ (m1 94 73).toInt ≤ 3100 := rs_94_73 (m := (zov wr_188 (ma_u m 94 47 ((m 94 47) + (1 : Int32))) m1)) hV_m1
  refine sp_194  hV_m1 (show (m1 94 73).toInt = 0 from by omega) r_W r_GW p1_m1 p2_m1 r_DX p3_m1 p4_m1 (fun m3 hV_m3 p0_m3 p1_m3 p2_m3 p3_m3 p4_m3 p5_m3 p6_m3 p7_m3 => zmv_n ?_)
  have p0_m3 : (m3 94 73).toInt = 0 := p0_m3
  have p1_m3 : zGW T (m3 94 55) (m3 109) := p1_m3
  have p2_m3 : ((m 94 10).toInt = 2 ∨ (m 94 10).toInt = 3) → zCL (m3 110) (m 98) (m 101) (m 102) (m 108) (m3 118) (m3 94 73) 3100 0 := p2_m3
  have p3_m3 : zKU (m 94 10) (m 99) (m3 110) := p3_m3
  have p4_m3 : zDX (m 94 10) (m 99) (m 112) (m3 113) (m3 114) (m3 94 55) (m 98) (m 101) (m 102) (m 108) := p4_m3
  have p5_m3 : ((m 94 10).toInt = 2 ∨ (m 94 10).toInt = 3) → zcov (m3 110) (m 112) 16 := p5_m3
  have p6_m3 : ((m 94 10).toInt = 2 ∨ (m 94 10).toInt = 3) → zcov (m3 110) (m3 114) (m3 94 55).toInt := p6_m3
  have p7_m3 : zuw (m 113) (m3 113) := p7_m3
  have f3 : 0 ≤ (m3 94 73).toInt ∧ (m3 94 73).toInt ≤ 3100 := rs_94_73 (m := (zov wr_194 (zov wr_188 (ma_u m 94 47 ((m 94 47) + (1 : Int32))) m1) m3)) hV_m3
  refine sp_199  hV_m3  (fun m5 hV_m5 p0_m5 p1_m5 => zmv_n ?_)
  have p0_m5 : zuw (m3 113) (m5 113) := p0_m5
  have p1_m5 : zcov (m3 110) (m5 113) 16 := p1_m5
  refine sp_200aw  hV_m5 r_W r_GU r_OW (fun v8 m7 hV_m7 p0_m7 p1_m7 p2_m7 p3_m7 p4_m7 => zmi_n ?_)
  have p0_m7 : zrm (m 99) (m7 99) (m3 110) 3100 := p0_m7
  have p1_m7 : zowr (m 111) (m7 111) (m 99) (m3 110) (m 103) := p1_m7
  have p2_m7 : zGU T (m 94 46) (m7 99) := p2_m7
  have p3_m7 : zOw (m7 99) (m 103) (m7 111) := p3_m7
  have p4_m7 : v8 + (m7 94 45) = (m 94 45) := p4_m7
  have b4 := i_bd v8
  exact K (v8) _ (zF_zov (zF_zov (zF_zov (zF_zov (zF_u zF_rfl rfl) ws_188_187) ws_194_187) ws_199_187) ws_200_187) hV_m7 p1_m3 p2_m7 p3_m7 (show zDX (m 94 10) (m7 99) (m 112) (m5 113) (m3 114) (m3 94 55) (m 98) (m 101) (m 102) (m 108) from by first | (exact fun hp => DX_sweep (p2_m3 hp) (by omega) (p5_m3 hp) (p6_m3 hp) p1_m5 p3_m3 p0_m7 (fun k hk => (ra_112 hV_m7 (by omega)).2) (fun k hk => (ra_114 hV_m7 (by have := GW_room p1_m3; omega)).2) (fun k hk => (ra_113 hV_m7 (by omega)).2) (W_hi r_W) hp) | (exfalso; omega; done) | (exfalso; contradiction; done)) (show zsw (m 99) (m7 99) (m 111) (m7 111) (m 103) from by first | (exact sw_of p0_m7 p1_m7) | (exfalso; omega; done) | (exfalso; contradiction; done)) p4_m7
theorem sp_186aw {X : Nat × (Nat → Int32)} {P : Option ma_V → (Nat → Nat → Int32) → Prop} {T : Nat} {m : Nat → Nat → Int32}  (hV : zV m) (r_W : zW (m 94 7) (m 98) (m 101) (m 102) (m 108)) (r_GW : zGW T (m 94 55) (m 109)) (r_GU : zGU T (m 94 46) (m 99)) (r_OW : zOw (m 99) (m 103) (m 111)) (r_DX : zDX (m 94 10) (m 99) (m 112) (m 113) (m 114) (m 94 55) (m 98) (m 101) (m 102) (m 108)) (KZ : ∀ v m₉, zV (zov wr_186 m m₉) → (zGW T (m₉ 94 55) (m₉ 109)) → (zGU T (m 94 46) (m₉ 99)) → (zOw (m₉ 99) (m₉ 103) (m₉ 111)) → (zDX (m 94 10) (m₉ 99) (m 112) (m₉ 113) (m₉ 114) (m₉ 94 55) (m 98) (m 101) (m 102) (m 108)) → (v + (m₉ 94 45) = (m 94 45)) → P (some (.inl v)) (zov wr_186 m m₉)) : zm X 5 108 186 0 [(0, .inr (.inr (some 94)))] m P := by
  have K : ∀ v m₉, zF wr_186 m m₉ → zV m₉ → (zGW T (m₉ 94 55) (m₉ 109)) → (zGU T (m₉ 94 46) (m₉ 99)) → (zOw (m₉ 99) (m₉ 103) (m₉ 111)) → (zDX (m₉ 94 10) (m₉ 99) (m₉ 112) (m₉ 113) (m₉ 114) (m₉ 94 55) (m₉ 98) (m₉ 101) (m₉ 102) (m₉ 108)) → (v + (m₉ 94 45) = (m 94 45)) → P (some (.inl v)) m₉ := by
    intro v m₉ hf z q0 q1 q2 q3 q4
    have e := zov_eq hf
    rw [e] at z ⊢
    try rw [e] at q0
    try rw [e] at q1
    try rw [e] at q2
    try rw [e] at q3
    try rw [e] at q4
    exact KZ v m₉ z q0 q1 q2 q3 q4
  refine g_186_0  ?_
  refine sp_187aw  hV r_W r_GW r_GU r_OW r_DX (fun v2 m1 hV_m1 p0_m1 p1_m1 p2_m1 p3_m1 p4_m1 p5_m1 => zmi_n ?_)
  have p0_m1 : zGW T (m1 94 55) (m1 109) := p0_m1
  have p1_m1 : zGU T (m 94 46) (m1 99) := p1_m1
  have p2_m1 : zOw (m1 99) (m 103) (m1 111) := p2_m1
  have p3_m1 : zDX (m 94 10) (m1 99) (m 112) (m1 113) (m1 114) (m1 94 55) (m 98) (m 101) (m 102) (m 108) := p3_m1
  have p4_m1 : zsw (m 99) (m1 99) (m 111) (m1 111) (m 103) := p4_m1
  have p5_m1 : v2 + (m1 94 45) = (m 94 45) := p5_m1
  have f1 : 0 ≤ (m 94 11).toInt ∧ (m 94 11).toInt ≤ 1500 := rs_94_11 (m := m) hV
  refine sp_204 (G := False) (E := 0) ((m 94 11)) hV_m1 (by omega) (by omega) p2_m1 (show False → 0 ≤ 0 ∧ zPK (m 94 11).toInt 0 (m1 99) (m 102) (m 103) (m1 111) from by first | (exact fun g => g.elim) | (exfalso; omega; done) | (exfalso; contradiction; done)) (fun v4 m3 hV_m3 p0_m3 p1_m3 p2_m3 p3_m3 => zmi_n ?_)
  have p0_m3 : zOw (m1 99) (m3 103) (m3 111) := p0_m3
  have p1_m3 : False → v4.toInt ≤ 0 ∧ zPK (m 94 11).toInt v4.toInt (m1 99) (m 102) (m3 103) (m3 111) := p1_m3
  have p2_m3 : zLO (m 94 11).toInt (m 103) (m3 103) := p2_m3
  have p3_m3 : 0 ≤ v4.toInt ∧ v4.toInt ≤ 1600 := p3_m3
  have b3 := i_bd v4
  have hV2 : zV (ma_u (zov wr_204 (zov wr_187 m m1) m3) 94 59 v4) := us_94_59 hV_m3 (by omega) (by omega)
  have b4 := i_bd v2
  exact K (v2) _ (zF_u (zF_zov (zF_zov zF_rfl ws_187_186) ws_204_186) rfl) hV2 p0_m1 p1_m1 p0_m3 p3_m1 p5_m1
set_option maxHeartbeats 8000000 in
theorem lp_206aw_73 {X : Nat × (Nat → Int32)} {P : Option ma_V → (Nat → Nat → Int32) → Prop} {T : Nat} {m0 : Nat → Nat → Int32} (h0 : zV m0) (K : ∀ v m₉, zF wr_206 m0 m₉ → zV m₉ → (zGW T (m₉ 94 55) (m₉ 109)) → (zGU T (m₉ 94 46) (m₉ 99)) → (zOw (m₉ 99) (m₉ 103) (m₉ 111)) → (zDX (m₉ 94 10) (m₉ 99) (m₉ 112) (m₉ 113) (m₉ 114) (m₉ 94 55) (m₉ 98) (m₉ 101) (m₉ 102) (m₉ 108)) → (zHA (m₉ 94 10) (m₉ 94 11) (m₉ 94 13) (m₉ 94 14) (m₉ 94 16) (m₉ 94 61) (m₉ 94 59) (m₉ 94 60) (m₉ 99) (m₉ 102) (m₉ 103) (m₉ 111) (m₉ 117) (m₉ 98) (m₉ 101) (m₉ 108)) → (v + (m₉ 94 45) = (m0 94 45)) → P (some (.inl v)) m₉) : ∀ (n : Nat) (m : Nat → Nat → Int32) (l1 : Int32), (3100 - l1.toInt).toNat = n → zF wr_206 m0 m → zV m → (0 ≤ l1.toInt) → ((m 94 10).toInt = 2) → (zKS (m 110) (m 94 75)) → (zOw (m 99) (m 103) (m 111)) → (zH2 (m 94 10) (m 94 11) (m 94 61) (m 94 77) (m 99) (m 110) (m 102)) → (zH3 (m 94 10) (m 94 13) (m 94 14) (m 94 15) (m 94 61) (m 94 77) (m 94 60) (m 99) (m 110) (m 104) (m 102) (m 103) (m 111)) → ((m 94 76).toInt ≤ (m 94 75).toInt) → (zKU (m 94 10) (m 99) (m 110)) → (zW (m 94 7) (m 98) (m 101) (m 102) (m 108)) → (zDX (m 94 10) (m 99) (m 112) (m 113) (m 114) (m 94 55) (m 98) (m 101) (m 102) (m 108)) → (zCQ (m 110) (m 98) (m 101) (m 102) (m 108) (m 119) (m 94 76) (m 94 75) (fun _ => False) 3100 0) → (zGW T (m 94 55) (m 109)) → (zGU T (m 94 46) (m 99)) → (((m 94 10).toInt = 2 ∨ (m 94 10).toInt = 3) → zcov (m 110) (m 112) 16) → (((m 94 10).toInt = 2 ∨ (m 94 10).toInt = 3) → zcov (m 110) (m 114) l1.toInt) → ((m 94 45) = (m0 94 45)) → zm X 5 109 206 73 [(0, .inr (.inr (some 94))), (1, .inl l1)] m P := by
  intro n
  induction n using Nat.strongRecOn with
  | _ n IH =>
    intro m l1 hmu hF hV hi0 hi1 r_CMK r_OW r_H2 r_H3 hi6 r_KU r_W r_DX r_CQ r_GW r_GU r_COVR r_COVW r_W45
    refine g_206_73 l1 ?_
    have f1 : 0 ≤ (m 94 10).toInt ∧ (m 94 10).toInt ≤ 6 := rs_94_10 (m := m) hV
    have f2 : 0 ≤ (m 94 76).toInt ∧ (m 94 76).toInt ≤ 3100 := rs_94_76 (m := m) hV
    have f3 : 0 ≤ (m 94 75).toInt ∧ (m 94 75).toInt ≤ 3100 := rs_94_75 (m := m) hV
    have f4 : 0 ≤ (m 94 55).toInt ∧ (m 94 55).toInt ≤ 3100 := rs_94_55 (m := m) hV
    have b5 := i_bd l1
    refine zd (fun (h6 : (m 94 55) ≤ l1) => ?_) (fun (h6 : ¬ (m 94 55) ≤ l1) => ?_)
    · skip
      have g7 := i_le h6
      refine sp_208 (XX := (fun _ => False))  hV (show (m 94 10).toInt = 2 ∨ (m 94 10).toInt = 3 from by omega) r_CMK r_OW r_H2 r_H3 (show (m 94 76).toInt ≤ (m 94 75).toInt from by omega) r_KU r_W r_DX r_CQ (fun m1 hV_m1 p0_m1 p1_m1 p2_m1 p3_m1 p4_m1 p5_m1 p6_m1 p7_m1 p8_m1 => zmv_n ?_)
      have p0_m1 : zKS (m1 110) (m1 94 75) := p0_m1
      have p1_m1 : zOw (m 99) (m1 103) (m1 111) := p1_m1
      have p2_m1 : zH2 (m 94 10) (m 94 11) (m 94 61) (m1 94 77) (m 99) (m1 110) (m 102) := p2_m1
      have p3_m1 : zH3 (m 94 10) (m 94 13) (m 94 14) (m 94 15) (m 94 61) (m1 94 77) (m1 94 60) (m 99) (m1 110) (m1 104) (m 102) (m1 103) (m1 111) := p3_m1
      have p4_m1 : (m1 94 76).toInt ≤ (m1 94 75).toInt := p4_m1
      have p5_m1 : zKU (m 94 10) (m 99) (m1 110) := p5_m1
      have p6_m1 : zle (m 110) (m1 110) := p6_m1
      have p7_m1 : zCQ (m1 110) (m 98) (m 101) (m 102) (m 108) (m1 119) (m1 94 76) (m1 94 75) (fun _ => False) 3100 0 := p7_m1
      have p8_m1 : (m1 94 75).toInt ≤ (m1 94 76).toInt := p8_m1
      have f8 : 0 ≤ (m1 94 76).toInt ∧ (m1 94 76).toInt ≤ 3100 := rs_94_76 (m := (zov wr_208 m m1)) hV_m1
      have f9 : 0 ≤ (m1 94 75).toInt ∧ (m1 94 75).toInt ≤ 3100 := rs_94_75 (m := (zov wr_208 m m1)) hV_m1
      have li10 : (0 : Int32).toInt = 0 := rfl
      refine sp_209 (XX := (fun _ => False)) ((0 : Int32)) hV_m1 (show (m 94 10).toInt = 2 ∨ (m 94 10).toInt = 3 from by omega) p0_m1 p1_m1 p2_m1 p3_m1 (show (m1 94 76).toInt ≤ (m1 94 75).toInt from by omega) p5_m1 r_W r_DX (show (m1 94 75).toInt ≤ (m1 94 76).toInt from by omega) p7_m1 r_GW (show ((m 94 10).toInt = 2 ∨ (m 94 10).toInt = 3) → zcov (m1 110) (m 112) 16 from by first | (exact fun hp => cov_cut (r_COVR hp) (by omega)) | (exact fun hp => cov_le (r_COVR hp) p6_m1 (fun k hk => (ra_112 hV (by omega)).2)) | (exact fun hp => cov_le (cov_cut (r_COVR hp) (by omega)) p6_m1 (fun k hk => (ra_112 hV (by omega)).2)) | (exact fun hp => cov_0 (by decide)) | (exact fun hp => cov_one (r_COVR hp) rfl (by omega) (by omega) (Or.inl (by omega))) | (exact fun hp => cov_one (r_COVR hp) rfl (by omega) (by omega) (Or.inr (by assumption))) | (exact fun hp => cov_cut (r_COVR hp) (by omega)) | (exact fun hp => cov_le (r_COVR hp) p6_m1 (fun k hk => (ra_112 hV_m1 (by omega)).2)) | (exact fun hp => cov_le (r_COVR hp) p6_m1 (fun k hk => (ra_114 hV_m1 (by have := rs_94_55 hV; omega)).2)) | (exfalso; omega; done) | (exfalso; contradiction; done)) (show ((m 94 10).toInt = 2 ∨ (m 94 10).toInt = 3) → zcov (m1 110) (m 114) (m 94 55).toInt from by first | (exact fun hp => cov_cut (r_COVW hp) (by omega)) | (exact fun hp => cov_le (r_COVW hp) p6_m1 (fun k hk => (ra_114 hV (by have := GW_room r_GW; omega)).2)) | (exact fun hp => cov_le (cov_cut (r_COVW hp) (by omega)) p6_m1 (fun k hk => (ra_114 hV (by have := GW_room r_GW; omega)).2)) | (exact fun hp => cov_0 (by decide)) | (exact fun hp => cov_one (r_COVW hp) rfl (by omega) (by omega) (Or.inl (by omega))) | (exact fun hp => cov_one (r_COVW hp) rfl (by omega) (by omega) (Or.inr (by assumption))) | (exact fun hp => cov_cut (r_COVW hp) (by omega)) | (exact fun hp => cov_le (r_COVW hp) p6_m1 (fun k hk => (ra_112 hV_m1 (by omega)).2)) | (exact fun hp => cov_le (r_COVW hp) p6_m1 (fun k hk => (ra_114 hV_m1 (by have := rs_94_55 hV; omega)).2)) | (exfalso; omega; done) | (exfalso; contradiction; done)) (fun m3 hV_m3 p0_m3 p1_m3 p2_m3 p3_m3 p4_m3 p5_m3 p6_m3 p7_m3 p8_m3 p9_m3 p10_m3 p11_m3 p12_m3 => zmv_n ?_)
      have p0_m3 : zKS (m3 110) (m3 94 75) := p0_m3
      have p1_m3 : zOw (m 99) (m3 103) (m3 111) := p1_m3
      have p2_m3 : zH2 (m 94 10) (m 94 11) (m 94 61) (m3 94 77) (m 99) (m3 110) (m 102) := p2_m3
      have p3_m3 : zH3 (m 94 10) (m 94 13) (m 94 14) (m 94 15) (m 94 61) (m3 94 77) (m3 94 60) (m 99) (m3 110) (m3 104) (m 102) (m3 103) (m3 111) := p3_m3
      have p4_m3 : (m3 94 76).toInt ≤ (m3 94 75).toInt := p4_m3
      have p5_m3 : zKU (m 94 10) (m 99) (m3 110) := p5_m3
      have p6_m3 : zDX (m 94 10) (m 99) (m 112) (m3 113) (m3 114) (m3 94 55) (m 98) (m 101) (m 102) (m 108) := p6_m3
      have p7_m3 : (m3 94 75).toInt ≤ (m3 94 76).toInt := p7_m3
      have p8_m3 : zCQ (m3 110) (m 98) (m 101) (m 102) (m 108) (m3 119) (m3 94 76) (m3 94 75) (fun _ => False) 3100 0 := p8_m3
      have p9_m3 : zGW T (m3 94 55) (m3 109) := p9_m3
      have p10_m3 : ((m 94 10).toInt = 2 ∨ (m 94 10).toInt = 3) → zcov (m3 110) (m 112) 16 := p10_m3
      have p11_m3 : ((m 94 10).toInt = 2 ∨ (m 94 10).toInt = 3) → zcov (m3 110) (m3 114) (m3 94 55).toInt := p11_m3
      have p12_m3 : zuw (m 113) (m3 113) := p12_m3
      have f11 : 0 ≤ (m3 94 76).toInt ∧ (m3 94 76).toInt ≤ 3100 := rs_94_76 (m := (zov wr_209 (zov wr_208 m m1) m3)) hV_m3
      have f12 : 0 ≤ (m3 94 75).toInt ∧ (m3 94 75).toInt ≤ 3100 := rs_94_75 (m := (zov wr_209 (zov wr_208 m m1) m3)) hV_m3
      refine sp_199  hV_m3  (fun m5 hV_m5 p0_m5 p1_m5 => zmv_n ?_)
      have p0_m5 : zuw (m3 113) (m5 113) := p0_m5
      have p1_m5 : zcov (m3 110) (m5 113) 16 := p1_m5
      have f14 : 0 ≤ (m3 94 77).toInt ∧ (m3 94 77).toInt ≤ 4600 := rs_94_77 (m := (zov wr_209 (zov wr_208 m m1) m3)) hV_m3
      have hV13 : zV (ma_u (zov wr_199 (zov wr_209 (zov wr_208 m m1) m3) m5) 94 59 (m3 94 77)) := us_94_59 hV_m5 (by omega) (by omega)
      refine sp_200aw  hV13 r_W r_GU p1_m3 (fun v8 m7 hV_m7 p0_m7 p1_m7 p2_m7 p3_m7 p4_m7 => zmi_n ?_)
      have p0_m7 : zrm (m 99) (m7 99) (m3 110) 3100 := p0_m7
      have p1_m7 : zowr (m3 111) (m7 111) (m 99) (m3 110) (m3 103) := p1_m7
      have p2_m7 : zGU T (m 94 46) (m7 99) := p2_m7
      have p3_m7 : zOw (m7 99) (m3 103) (m7 111) := p3_m7
      have p4_m7 : v8 + (m7 94 45) = (m 94 45) := p4_m7
      try have gw := GW_room p9_m3
      have b15 := i_bd v8
      exact K (v8) _ (zF_zov (zF_u (zF_zov (zF_zov (zF_zov hF ws_208_206) ws_209_206) ws_199_206) rfl) ws_200_206) hV_m7 p9_m3 p2_m7 p3_m7 (show zDX (m 94 10) (m7 99) (m 112) (m5 113) (m3 114) (m3 94 55) (m 98) (m 101) (m 102) (m 108) from by first | (exact DX_come p8_m3 (by omega) (p10_m3 (by omega)) (p11_m3 (by omega)) p1_m5 p5_m3 p0_m7 (fun k hk => (ra_112 hV_m7 (by omega)).2) (fun k hk => (ra_114 hV_m7 (by have := GW_room p9_m3; omega)).2) (fun k hk => (ra_113 hV_m7 (by omega)).2) (W_hi r_W)) | (exfalso; omega; done) | (exfalso; contradiction; done)) (show zHA (m 94 10) (m 94 11) (m 94 13) (m 94 14) (m 94 16) (m 94 61) (m3 94 77) (m3 94 60) (m7 99) (m 102) (m3 103) (m7 111) (m 117) (m 98) (m 101) (m 108) from by first | (exact HA_halves (by omega) (p2_m3 (by omega)) p0_m7 (fun t ht => (ra_102 hV_m7 ht).1)) | (exfalso; omega; done) | (exfalso; contradiction; done)) (show v8 + (m7 94 45) = (m0 94 45) from by first | (exact p4_m7.trans r_W45) | (exact p4_m7) | (exfalso; omega; done) | (exfalso; contradiction; done))
    · skip
      have g16 := i_nle h6
      have hg17 : (0 ≤ l1 ∧ l1.toNatClampNeg < 3100) := i_ix (by omega) (by omega)
      refine ⟨hg17, ?_⟩
      first | have f18 : 0 ≤ (m 114 l1.toNatClampNeg).toInt ∧ (m 114 l1.toNatClampNeg).toInt ≤ 3099 := ra_114 (m := m) hV (k := l1.toNatClampNeg) (i_ix (n := 3100) (by omega) (by omega)).2 | have b19 := i_bd (m 114 l1.toNatClampNeg)
      refine sp_207 (XX := (fun _ => False)) (CU := 3100) (II := 0) ((m 114 l1.toNatClampNeg)) hV (by omega) (by omega) (show (m 94 10).toInt = 2 ∨ (m 94 10).toInt = 3 from by omega) (show (m 114 l1.toNatClampNeg).toInt < 0 ∨ (m 99) (m 114 l1.toNatClampNeg).toNatClampNeg ≠ 0 from by first | (exact ((r_DX (by omega)).2.2.1 l1.toNatClampNeg (by rw [tn_cast (by omega)]; omega))) | (exfalso; omega; done) | (exfalso; contradiction; done)) r_CMK r_OW r_H2 r_H3 (show (m 94 76).toInt ≤ (m 94 75).toInt from by omega) r_CQ r_KU (fun m9 hV_m9 p0_m9 p1_m9 p2_m9 p3_m9 p4_m9 p5_m9 p6_m9 p7_m9 p8_m9 p9_m9 p10_m9 => zmv_n ?_)
      have p0_m9 : zKS (m9 110) (m9 94 75) := p0_m9
      have p1_m9 : zOw (m 99) (m9 103) (m9 111) := p1_m9
      have p2_m9 : zH2 (m 94 10) (m 94 11) (m 94 61) (m9 94 77) (m 99) (m9 110) (m 102) := p2_m9
      have p3_m9 : zH3 (m 94 10) (m 94 13) (m 94 14) (m 94 15) (m 94 61) (m9 94 77) (m9 94 60) (m 99) (m9 110) (m9 104) (m 102) (m9 103) (m9 111) := p3_m9
      have p4_m9 : (m 114 l1.toNatClampNeg).toInt < 0 ∨ (m9 110) (m 114 l1.toNatClampNeg).toNatClampNeg ≠ 0 := p4_m9
      have p5_m9 : zle (m 110) (m9 110) := p5_m9
      have p6_m9 : (m 94 76).toInt ≤ (m9 94 75).toInt := p6_m9
      have p7_m9 : zCQ (m9 110) (m 98) (m 101) (m 102) (m 108) (m9 119) (m 94 76) (m9 94 75) (fun _ => False) 3100 0 := p7_m9
      have p8_m9 : zKU (m 94 10) (m 99) (m9 110) := p8_m9
      have p9_m9 : (m 94 10).toInt = 3 → zax (m 103) (m9 103) (m 94 60).toInt := p9_m9
      have p10_m9 : (m 94 60).toInt ≤ (m9 94 60).toInt := p10_m9
      have f20 : 0 ≤ (m9 94 75).toInt ∧ (m9 94 75).toInt ≤ 3100 := rs_94_75 (m := (zov wr_207 m m9)) hV_m9
      have f21 : 0 ≤ (m 94 60).toInt ∧ (m 94 60).toInt ≤ 1600 := rs_94_60 (m := m) hV
      have f22 : 0 ≤ (m9 94 60).toInt ∧ (m9 94 60).toInt ≤ 1600 := rs_94_60 (m := (zov wr_207 m m9)) hV_m9
      try have gw := GW_room r_GW
      first | have e23 : (l1 + (1 : Int32)).toInt = l1.toInt + (1) := i_addk rfl (by omega) (by omega) | have b24 := i_bd (l1 + (1 : Int32))
      exact IH (3100 - (l1 + (1 : Int32)).toInt).toNat (by omega) _ ((l1 + (1 : Int32))) rfl (zF_zov hF ws_207_206) hV_m9 (by omega) (show (m 94 10).toInt = 2 from by omega) p0_m9 p1_m9 p2_m9 p3_m9 (show (m 94 76).toInt ≤ (m9 94 75).toInt from by omega) p8_m9 r_W r_DX p7_m9 r_GW r_GU (show ((m 94 10).toInt = 2 ∨ (m 94 10).toInt = 3) → zcov (m9 110) (m 112) 16 from by first | (exact fun hp => cov_one (cov_le (r_COVR hp) p5_m9 (fun k hk => (ra_112 hV (by omega)).2)) rfl (by omega) (by omega) p4_m9) | (exact fun hp => cov_le (r_COVR hp) p5_m9 (fun k hk => (ra_112 hV (by omega)).2)) | (exact fun hp => cov_cut (r_COVR hp) (by omega)) | (exact fun hp => cov_0 (by decide)) | (exact fun hp => cov_one (r_COVR hp) rfl (by omega) (by omega) (Or.inl (by omega))) | (exact fun hp => cov_one (r_COVR hp) rfl (by omega) (by omega) (Or.inr (by assumption))) | (exact fun hp => cov_cut (r_COVR hp) (by omega)) | (exfalso; omega; done) | (exfalso; contradiction; done)) (show ((m 94 10).toInt = 2 ∨ (m 94 10).toInt = 3) → zcov (m9 110) (m 114) (l1 + (1 : Int32)).toInt from by first | (exact fun hp => cov_one (cov_le (r_COVW hp) p5_m9 (fun k hk => (ra_114 hV (by have := GW_room r_GW; omega)).2)) rfl (by omega) (by omega) p4_m9) | (exact fun hp => cov_le (r_COVW hp) p5_m9 (fun k hk => (ra_114 hV (by have := GW_room r_GW; omega)).2)) | (exact fun hp => cov_cut (r_COVW hp) (by omega)) | (exact fun hp => cov_0 (by decide)) | (exact fun hp => cov_one (r_COVW hp) rfl (by omega) (by omega) (Or.inl (by omega))) | (exact fun hp => cov_one (r_COVW hp) rfl (by omega) (by omega) (Or.inr (by assumption))) | (exact fun hp => cov_cut (r_COVW hp) (by omega)) | (exfalso; omega; done) | (exfalso; contradiction; done)) r_W45
set_option maxHeartbeats 8000000 in
theorem lp_206aw_49 {X : Nat × (Nat → Int32)} {P : Option ma_V → (Nat → Nat → Int32) → Prop} {T : Nat} {m0 : Nat → Nat → Int32} (h0 : zV m0) (K : ∀ v m₉, zF wr_206 m0 m₉ → zV m₉ → (zGW T (m₉ 94 55) (m₉ 109)) → (zGU T (m₉ 94 46) (m₉ 99)) → (zOw (m₉ 99) (m₉ 103) (m₉ 111)) → (zDX (m₉ 94 10) (m₉ 99) (m₉ 112) (m₉ 113) (m₉ 114) (m₉ 94 55) (m₉ 98) (m₉ 101) (m₉ 102) (m₉ 108)) → (zHA (m₉ 94 10) (m₉ 94 11) (m₉ 94 13) (m₉ 94 14) (m₉ 94 16) (m₉ 94 61) (m₉ 94 59) (m₉ 94 60) (m₉ 99) (m₉ 102) (m₉ 103) (m₉ 111) (m₉ 117) (m₉ 98) (m₉ 101) (m₉ 108)) → (v + (m₉ 94 45) = (m0 94 45)) → P (some (.inl v)) m₉) : ∀ (n : Nat) (m : Nat → Nat → Int32) (l1 : Int32), (16 - l1.toInt).toNat = n → zF wr_206 m0 m → zV m → (0 ≤ l1.toInt) → ((m 94 10).toInt = 2) → (zKS (m 110) (m 94 75)) → (zOw (m 99) (m 103) (m 111)) → (zH2 (m 94 10) (m 94 11) (m 94 61) (m 94 77) (m 99) (m 110) (m 102)) → (zH3 (m 94 10) (m 94 13) (m 94 14) (m 94 15) (m 94 61) (m 94 77) (m 94 60) (m 99) (m 110) (m 104) (m 102) (m 103) (m 111)) → ((m 94 76).toInt ≤ (m 94 75).toInt) → (zKU (m 94 10) (m 99) (m 110)) → (zW (m 94 7) (m 98) (m 101) (m 102) (m 108)) → (zDX (m 94 10) (m 99) (m 112) (m 113) (m 114) (m 94 55) (m 98) (m 101) (m 102) (m 108)) → (zCQ (m 110) (m 98) (m 101) (m 102) (m 108) (m 119) (m 94 76) (m 94 75) (fun _ => False) 3100 0) → (zGW T (m 94 55) (m 109)) → (zGU T (m 94 46) (m 99)) → (((m 94 10).toInt = 2 ∨ (m 94 10).toInt = 3) → zcov (m 110) (m 112) l1.toInt) → ((m 94 45) = (m0 94 45)) → zm X 5 109 206 49 [(0, .inr (.inr (some 94))), (1, .inl l1)] m P := by
  intro n
  induction n using Nat.strongRecOn with
  | _ n IH =>
    intro m l1 hmu hF hV hi0 hi1 r_CMK r_OW r_H2 r_H3 hi6 r_KU r_W r_DX r_CQ r_GW r_GU r_COVR r_W45
    refine g_206_49 l1 ?_
    have f1 : 0 ≤ (m 94 10).toInt ∧ (m 94 10).toInt ≤ 6 := rs_94_10 (m := m) hV
    have f2 : 0 ≤ (m 94 76).toInt ∧ (m 94 76).toInt ≤ 3100 := rs_94_76 (m := m) hV
    have f3 : 0 ≤ (m 94 75).toInt ∧ (m 94 75).toInt ≤ 3100 := rs_94_75 (m := m) hV
    have li4 : (16 : Int32).toInt = 16 := rfl
    have b5 := i_bd l1
    refine zd (fun (h6 : (16 : Int32) ≤ l1) => ?_) (fun (h6 : ¬ (16 : Int32) ≤ l1) => ?_)
    · skip
      have g7 := i_le h6
      try have gw := GW_room r_GW
      have li8 : (0 : Int32).toInt = 0 := rfl
      exact lp_206aw_73 h0 K _ _ ((0 : Int32)) rfl hF hV (by omega) (show (m 94 10).toInt = 2 from by omega) r_CMK r_OW r_H2 r_H3 (show (m 94 76).toInt ≤ (m 94 75).toInt from by omega) r_KU r_W r_DX r_CQ r_GW r_GU (show ((m 94 10).toInt = 2 ∨ (m 94 10).toInt = 3) → zcov (m 110) (m 112) 16 from by first | (exact fun hp => cov_cut (r_COVR hp) (by omega)) | (exact fun hp => cov_0 (by decide)) | (exact fun hp => cov_one (r_COVR hp) rfl (by omega) (by omega) (Or.inl (by omega))) | (exact fun hp => cov_one (r_COVR hp) rfl (by omega) (by omega) (Or.inr (by assumption))) | (exact fun hp => cov_cut (r_COVR hp) (by omega)) | (exfalso; omega; done) | (exfalso; contradiction; done)) (show ((m 94 10).toInt = 2 ∨ (m 94 10).toInt = 3) → zcov (m 110) (m 114) (0 : Int32).toInt from by first | (exact fun hp => cov_0 (by decide)) | (exact fun hp => cov_0 (by decide)) | (exfalso; omega; done) | (exfalso; contradiction; done)) r_W45
    · skip
      have g9 := i_nle h6
      have hg10 : (0 ≤ l1 ∧ l1.toNatClampNeg < 16) := i_ix (by omega) (by omega)
      refine ⟨hg10, ?_⟩
      first | have f11 : -1 ≤ (m 112 l1.toNatClampNeg).toInt ∧ (m 112 l1.toNatClampNeg).toInt ≤ 3099 := ra_112 (m := m) hV (k := l1.toNatClampNeg) (i_ix (n := 16) (by omega) (by omega)).2 | have b12 := i_bd (m 112 l1.toNatClampNeg)
      refine sp_207 (XX := (fun _ => False)) (CU := 3100) (II := 0) ((m 112 l1.toNatClampNeg)) hV (by omega) (by omega) (show (m 94 10).toInt = 2 ∨ (m 94 10).toInt = 3 from by omega) (show (m 112 l1.toNatClampNeg).toInt < 0 ∨ (m 99) (m 112 l1.toNatClampNeg).toNatClampNeg ≠ 0 from by first | (exact ((r_DX (by omega)).1 l1.toNatClampNeg (by rw [tn_cast (by omega)]; omega))) | (exfalso; omega; done) | (exfalso; contradiction; done)) r_CMK r_OW r_H2 r_H3 (show (m 94 76).toInt ≤ (m 94 75).toInt from by omega) r_CQ r_KU (fun m1 hV_m1 p0_m1 p1_m1 p2_m1 p3_m1 p4_m1 p5_m1 p6_m1 p7_m1 p8_m1 p9_m1 p10_m1 => zmv_n ?_)
      have p0_m1 : zKS (m1 110) (m1 94 75) := p0_m1
      have p1_m1 : zOw (m 99) (m1 103) (m1 111) := p1_m1
      have p2_m1 : zH2 (m 94 10) (m 94 11) (m 94 61) (m1 94 77) (m 99) (m1 110) (m 102) := p2_m1
      have p3_m1 : zH3 (m 94 10) (m 94 13) (m 94 14) (m 94 15) (m 94 61) (m1 94 77) (m1 94 60) (m 99) (m1 110) (m1 104) (m 102) (m1 103) (m1 111) := p3_m1
      have p4_m1 : (m 112 l1.toNatClampNeg).toInt < 0 ∨ (m1 110) (m 112 l1.toNatClampNeg).toNatClampNeg ≠ 0 := p4_m1
      have p5_m1 : zle (m 110) (m1 110) := p5_m1
      have p6_m1 : (m 94 76).toInt ≤ (m1 94 75).toInt := p6_m1
      have p7_m1 : zCQ (m1 110) (m 98) (m 101) (m 102) (m 108) (m1 119) (m 94 76) (m1 94 75) (fun _ => False) 3100 0 := p7_m1
      have p8_m1 : zKU (m 94 10) (m 99) (m1 110) := p8_m1
      have p9_m1 : (m 94 10).toInt = 3 → zax (m 103) (m1 103) (m 94 60).toInt := p9_m1
      have p10_m1 : (m 94 60).toInt ≤ (m1 94 60).toInt := p10_m1
      have f13 : 0 ≤ (m1 94 75).toInt ∧ (m1 94 75).toInt ≤ 3100 := rs_94_75 (m := (zov wr_207 m m1)) hV_m1
      have f14 : 0 ≤ (m 94 60).toInt ∧ (m 94 60).toInt ≤ 1600 := rs_94_60 (m := m) hV
      have f15 : 0 ≤ (m1 94 60).toInt ∧ (m1 94 60).toInt ≤ 1600 := rs_94_60 (m := (zov wr_207 m m1)) hV_m1
      try have gw := GW_room r_GW
      first | have e16 : (l1 + (1 : Int32)).toInt = l1.toInt + (1) := i_addk rfl (by omega) (by omega) | have b17 := i_bd (l1 + (1 : Int32))
      exact IH (16 - (l1 + (1 : Int32)).toInt).toNat (by omega) _ ((l1 + (1 : Int32))) rfl (zF_zov hF ws_207_206) hV_m1 (by omega) (show (m 94 10).toInt = 2 from by omega) p0_m1 p1_m1 p2_m1 p3_m1 (show (m 94 76).toInt ≤ (m1 94 75).toInt from by omega) p8_m1 r_W r_DX p7_m1 r_GW r_GU (show ((m 94 10).toInt = 2 ∨ (m 94 10).toInt = 3) → zcov (m1 110) (m 112) (l1 + (1 : Int32)).toInt from by first | (exact fun hp => cov_one (cov_le (r_COVR hp) p5_m1 (fun k hk => (ra_112 hV (by omega)).2)) rfl (by omega) (by omega) p4_m1) | (exact fun hp => cov_le (r_COVR hp) p5_m1 (fun k hk => (ra_112 hV (by omega)).2)) | (exact fun hp => cov_cut (r_COVR hp) (by omega)) | (exact fun hp => cov_0 (by decide)) | (exact fun hp => cov_one (r_COVR hp) rfl (by omega) (by omega) (Or.inl (by omega))) | (exact fun hp => cov_one (r_COVR hp) rfl (by omega) (by omega) (Or.inr (by assumption))) | (exact fun hp => cov_cut (r_COVR hp) (by omega)) | (exfalso; omega; done) | (exfalso; contradiction; done)) r_W45
set_option maxHeartbeats 8000000 in
theorem sp_206aw {X : Nat × (Nat → Int32)} {P : Option ma_V → (Nat → Nat → Int32) → Prop} {T : Nat} {m : Nat → Nat → Int32}  (hV : zV m) (r_W : zW (m 94 7) (m 98) (m 101) (m 102) (m 108)) (r_GW : zGW T (m 94 55) (m 109)) (r_GU : zGU T (m 94 46) (m 99)) (r_OW : zOw (m 99) (m 103) (m 111)) (r_DX : zDX (m 94 10) (m 99) (m 112) (m 113) (m 114) (m 94 55) (m 98) (m 101) (m 102) (m 108)) (r_HA : zHA (m 94 10) (m 94 11) (m 94 13) (m 94 14) (m 94 16) (m 94 61) (m 94 59) (m 94 60) (m 99) (m 102) (m 103) (m 111) (m 117) (m 98) (m 101) (m 108)) (hpre6 : (m 94 10).toInt = 2) (KZ : ∀ v m₉, zV (zov wr_206 m m₉) → (zGW T (m₉ 94 55) (m₉ 109)) → (zGU T (m 94 46) (m₉ 99)) → (zOw (m₉ 99) (m₉ 103) (m₉ 111)) → (zDX (m 94 10) (m₉ 99) (m 112) (m₉ 113) (m₉ 114) (m₉ 94 55) (m 98) (m 101) (m 102) (m 108)) → (zHA (m 94 10) (m 94 11) (m 94 13) (m 94 14) (m 94 16) (m₉ 94 61) (m₉ 94 59) (m₉ 94 60) (m₉ 99) (m 102) (m₉ 103) (m₉ 111) (m 117) (m 98) (m 101) (m 108)) → (v + (m₉ 94 45) = (m 94 45)) → P (some (.inl v)) (zov wr_206 m m₉)) : zm X 5 109 206 0 [(0, .inr (.inr (some 94)))] m P := by
  have K : ∀ v m₉, zF wr_206 m m₉ → zV m₉ → (zGW T (m₉ 94 55) (m₉ 109)) → (zGU T (m₉ 94 46) (m₉ 99)) → (zOw (m₉ 99) (m₉ 103) (m₉ 111)) → (zDX (m₉ 94 10) (m₉ 99) (m₉ 112) (m₉ 113) (m₉ 114) (m₉ 94 55) (m₉ 98) (m₉ 101) (m₉ 102) (m₉ 108)) → (zHA (m₉ 94 10) (m₉ 94 11) (m₉ 94 13) (m₉ 94 14) (m₉ 94 16) (m₉ 94 61) (m₉ 94 59) (m₉ 94 60) (m₉ 99) (m₉ 102) (m₉ 103) (m₉ 111) (m₉ 117) (m₉ 98) (m₉ 101) (m₉ 108)) → (v + (m₉ 94 45) = (m 94 45)) → P (some (.inl v)) m₉ := by
    intro v m₉ hf z q0 q1 q2 q3 q4 q5
    have e := zov_eq hf
    rw [e] at z ⊢
    try rw [e] at q0
    try rw [e] at q1
    try rw [e] at q2
    try rw [e] at q3
    try rw [e] at q4
    try rw [e] at q5
    exact KZ v m₉ z q0 q1 q2 q3 q4 q5
  refine g_206_0  ?_
  have f1 : 0 ≤ (m 94 10).toInt ∧ (m 94 10).toInt ≤ 6 := rs_94_10 (m := m) hV
  have hV2 : zV (ma_u m 94 47 ((m 94 47) + (1 : Int32))) := uf_94_47 hV
  refine sp_189  hV2  (fun m1 hV_m1 p0_m1 => zmv_n ?_)
  have p0_m1 : ∀ s : Nat, s < 3100 → (m1 110) s = 0 := p0_m1
  try have gw := GW_room r_GW
  have li4 : (0 : Int32).toInt = 0 := rfl
  have hV3 : zV (ma_u (zov wr_189 (ma_u m 94 47 ((m 94 47) + (1 : Int32))) m1) 94 75 (0 : Int32)) := us_94_75 hV_m1 (by omega) (by omega)
  have hV5 : zV (ma_u (ma_u (zov wr_189 (ma_u m 94 47 ((m 94 47) + (1 : Int32))) m1) 94 75 (0 : Int32)) 94 76 (0 : Int32)) := us_94_76 hV3 (by omega) (by omega)
  have li7 : (1 : Int32).toInt = 1 := rfl
  have f8 : 0 ≤ (m 94 61).toInt ∧ (m 94 61).toInt ≤ 1 := rs_94_61 (m := m) hV
  first | have e9 : ((1 : Int32) - (m 94 61)).toInt = (1 : Int32).toInt - (m 94 61).toInt := i_sub (by omega) (by omega) | have b10 := i_bd ((1 : Int32) - (m 94 61))
  have hV6 : zV (ma_u (ma_u (ma_u (zov wr_189 (ma_u m 94 47 ((m 94 47) + (1 : Int32))) m1) 94 75 (0 : Int32)) 94 76 (0 : Int32)) 94 61 ((1 : Int32) - (m 94 61))) := us_94_61 hV5 (by omega) (by omega)
  have f12 : 0 ≤ (m 94 11).toInt ∧ (m 94 11).toInt ≤ 1500 := rs_94_11 (m := m) hV
  first | have f13 := i_mul01 (x := ((1 : Int32) - (m 94 61))) (y := (m 94 11)) (by omega) (by omega) (by omega) (by omega) | have b14 := i_bd (((1 : Int32) - (m 94 61)) * (m 94 11))
  have hV11 : zV (ma_u (ma_u (ma_u (ma_u (zov wr_189 (ma_u m 94 47 ((m 94 47) + (1 : Int32))) m1) 94 75 (0 : Int32)) 94 76 (0 : Int32)) 94 61 ((1 : Int32) - (m 94 61))) 94 77 (((1 : Int32) - (m 94 61)) * (m 94 11))) := us_94_77 hV6 (by omega) (by omega)
  exact lp_206aw_49 hV K _ _ ((0 : Int32)) rfl (zF_u (zF_u (zF_u (zF_u (zF_zov (zF_u zF_rfl rfl) ws_189_206) rfl) rfl) rfl) rfl) hV11 (by omega) (show (m 94 10).toInt = 2 from by omega) (show zKS (m1 110) (0 : Int32) from by first | (exact KS_0 (by omega)) | (exfalso; omega; done) | (exfalso; contradiction; done)) r_OW (show zH2 (m 94 10) (m 94 11) ((1 : Int32) - (m 94 61)) (((1 : Int32) - (m 94 61)) * (m 94 11)) (m 99) (m1 110) (m 102) from by first | (exact fun _ => H2_0 r_HA (by omega) p0_m1 (mul_B2 (by omega) (by omega) (by omega) (by omega)) (fun t ht => (ra_102 hV ht).1)) | (exfalso; omega; done) | (exfalso; contradiction; done)) (show zH3 (m 94 10) (m 94 13) (m 94 14) (m 94 15) ((1 : Int32) - (m 94 61)) (((1 : Int32) - (m 94 61)) * (m 94 11)) (m 94 60) (m 99) (m1 110) (m 104) (m 102) (m 103) (m 111) from by first | (exact fun hp => absurd hp (by omega)) | (exfalso; omega; done) | (exfalso; contradiction; done)) (show (0 : Int32).toInt ≤ (0 : Int32).toInt from by omega) (show zKU (m 94 10) (m 99) (m1 110) from by first | (exact KU_none p0_m1) | (exfalso; omega; done) | (exfalso; contradiction; done)) r_W r_DX (show zCQ (m1 110) (m 98) (m 101) (m 102) (m 108) (m 119) (0 : Int32) (0 : Int32) (fun _ => False) 3100 0 from by first | (exact CQ_none p0_m1 (by omega)) | (exfalso; omega; done) | (exfalso; contradiction; done)) r_GW r_GU (show ((m 94 10).toInt = 2 ∨ (m 94 10).toInt = 3) → zcov (m1 110) (m 112) (0 : Int32).toInt from by first | (exact fun hp => cov_0 (by decide)) | (exact fun hp => cov_0 (by decide)) | (exfalso; omega; done) | (exfalso; contradiction; done)) (show (m 94 45) = (m 94 45) from by first | (exact rfl) | (exfalso; omega; done) | (exfalso; contradiction; done))
theorem lp_223aw_49 {X : Nat × (Nat → Int32)} {P : Option ma_V → (Nat → Nat → Int32) → Prop} {T : Nat} {m0 : Nat → Nat → Int32} (h0 : zV m0) (K : ∀ v m₉, zF wr_223 m0 m₉ → zV m₉ → (zGW T (m₉ 94 55) (m₉ 109)) → (zGU T (m₉ 94 46) (m₉ 99)) → (zOw (m₉ 99) (m₉ 103) (m₉ 111)) → (zDX (m₉ 94 10) (m₉ 99) (m₉ 112) (m₉ 113) (m₉ 114) (m₉ 94 55) (m₉ 98) (m₉ 101) (m₉ 102) (m₉ 108)) → (zGG (m₉ 94 58) (m₉ 94 56) (m₉ 94 57) (m₉ 106)) → ((m₉ 94 58).toInt = 0 ∨ ((m₉ 94 58).toInt = 1 ∧ (m₉ 94 57).toInt < (m₉ 94 56).toInt ∧ (m₉ 94 57).toInt = (m0 94 57).toInt)) → (v + (m₉ 94 45) = (m0 94 45)) → P (some (.inl v)) m₉) : ∀ (n : Nat) (m : Nat → Nat → Int32) (l1 : Int32), (3100 - l1.toInt).toNat = n → zF wr_223 m0 m → zV m → (0 ≤ l1.toInt) → (zW (m 94 7) (m 98) (m 101) (m 102) (m 108)) → (zGW T (m 94 55) (m 109)) → (zGU T (m 94 46) (m 99)) → (zOw (m 99) (m 103) (m 111)) → (zDX (m 94 10) (m 99) (m 112) (m 113) (m 114) (m 94 55) (m 98) (m 101) (m 102) (m 108)) → ((m 94 10).toInt = 5) → ((m 94 57).toInt = (m0 94 57).toInt) → ((m 94 45) = (m0 94 45)) → zm X 4 88 223 49 [(0, .inr (.inr (some 94))), (1, .inl l1)] m P := by
  intro n
  induction n using Nat.strongRecOn with
  | _ n IH =>
    intro m l1 hmu hF hV hi0 r_W r_GW r_GU r_OW r_DX hi6 hi7 r_W45
    refine g_223_49 l1 ?_
    have f1 : 0 ≤ (m 94 10).toInt ∧ (m 94 10).toInt ≤ 6 := rs_94_10 (m := m) hV
    have f2 : 0 ≤ (m 94 57).toInt ∧ (m 94 57).toInt ≤ 3100 := rs_94_57 (m := m) hV
    have f3 : 0 ≤ (m0 94 57).toInt ∧ (m0 94 57).toInt ≤ 3100 := rs_94_57 (m := m0) h0
    have li4 : (3100 : Int32).toInt = 3100 := rfl
    have b5 := i_bd l1
    refine zd (fun (h6 : (3100 : Int32) ≤ l1) => ?_) (fun (h6 : ¬ (3100 : Int32) ≤ l1) => ?_)
    · skip
      have g7 := i_le h6
      have li9 : (0 : Int32).toInt = 0 := rfl
      have hV8 : zV (ma_u m 94 73 (0 : Int32)) := us_94_73 hV (by omega) (by omega)
      refine sp_194  hV8 (show (0 : Int32).toInt = 0 from by omega) r_W r_GW (show ((m 94 10).toInt = 2 ∨ (m 94 10).toInt = 3) → zCL (m 110) (m 98) (m 101) (m 102) (m 108) (m 118) (0 : Int32) 3100 0 from by first | (exact fun hp => absurd hp (by omega)) | (exfalso; omega; done) | (exfalso; contradiction; done)) (show zKU (m 94 10) (m 99) (m 110) from by first | (exact fun hp => absurd hp (by omega)) | (exfalso; omega; done) | (exfalso; contradiction; done)) r_DX (show ((m 94 10).toInt = 2 ∨ (m 94 10).toInt = 3) → zcov (m 110) (m 112) 16 from by first | (exact fun hp => absurd hp (by omega)) | (exact fun hp => cov_0 (by decide)) | (exfalso; omega; done) | (exfalso; contradiction; done)) (show ((m 94 10).toInt = 2 ∨ (m 94 10).toInt = 3) → zcov (m 110) (m 114) (m 94 55).toInt from by first | (exact fun hp => absurd hp (by omega)) | (exact fun hp => cov_0 (by decide)) | (exfalso; omega; done) | (exfalso; contradiction; done)) (fun m1 hV_m1 p0_m1 p1_m1 p2_m1 p3_m1 p4_m1 p5_m1 p6_m1 p7_m1 => zmv_n ?_)
      have p0_m1 : (m1 94 73).toInt = 0 := p0_m1
      have p1_m1 : zGW T (m1 94 55) (m1 109) := p1_m1
      have p2_m1 : ((m 94 10).toInt = 2 ∨ (m 94 10).toInt = 3) → zCL (m1 110) (m 98) (m 101) (m 102) (m 108) (m1 118) (m1 94 73) 3100 0 := p2_m1
      have p3_m1 : zKU (m 94 10) (m 99) (m1 110) := p3_m1
      have p4_m1 : zDX (m 94 10) (m 99) (m 112) (m1 113) (m1 114) (m1 94 55) (m 98) (m 101) (m 102) (m 108) := p4_m1
      have p5_m1 : ((m 94 10).toInt = 2 ∨ (m 94 10).toInt = 3) → zcov (m1 110) (m 112) 16 := p5_m1
      have p6_m1 : ((m 94 10).toInt = 2 ∨ (m 94 10).toInt = 3) → zcov (m1 110) (m1 114) (m1 94 55).toInt := p6_m1
      have p7_m1 : zuw (m 113) (m1 113) := p7_m1
      have f10 : 0 ≤ (m1 94 73).toInt ∧ (m1 94 73).toInt ≤ 3100 := rs_94_73 (m := (zov wr_194 (ma_u m 94 73 (0 : Int32)) m1)) hV_m1
      refine sp_199  hV_m1  (fun m3 hV_m3 p0_m3 p1_m3 => zmv_n ?_)
      have p0_m3 : zuw (m1 113) (m3 113) := p0_m3
      have p1_m3 : zcov (m1 110) (m3 113) 16 := p1_m3
      have hV11 : zV (ma_u (zov wr_199 (zov wr_194 (ma_u m 94 73 (0 : Int32)) m1) m3) 94 58 (0 : Int32)) := us_94_58 hV_m3 (by omega) (by omega)
      refine sp_200aw  hV11 r_W r_GU r_OW (fun v6 m5 hV_m5 p0_m5 p1_m5 p2_m5 p3_m5 p4_m5 => zmi_n ?_)
      have p0_m5 : zrm (m 99) (m5 99) (m1 110) 3100 := p0_m5
      have p1_m5 : zowr (m 111) (m5 111) (m 99) (m1 110) (m 103) := p1_m5
      have p2_m5 : zGU T (m 94 46) (m5 99) := p2_m5
      have p3_m5 : zOw (m5 99) (m 103) (m5 111) := p3_m5
      have p4_m5 : v6 + (m5 94 45) = (m 94 45) := p4_m5
      have b12 := i_bd v6
      have f13 : 0 ≤ (m 94 56).toInt ∧ (m 94 56).toInt ≤ 3100 := rs_94_56 (m := m) hV
      exact K (v6) _ (zF_zov (zF_u (zF_zov (zF_zov (zF_u hF rfl) ws_194_223) ws_199_223) rfl) ws_200_223) hV_m5 p1_m1 p2_m5 p3_m5 (show zDX (m 94 10) (m5 99) (m 112) (m3 113) (m1 114) (m1 94 55) (m 98) (m 101) (m 102) (m 108) from by first | (exact fun hp => absurd hp (by omega)) | (exfalso; omega; done) | (exfalso; contradiction; done)) (show zGG (0 : Int32) (m 94 56) (m 94 57) (m 106) from by first | (exact fun z => absurd z (by decide)) | (exact fun z => absurd z (by omega)) | (exfalso; omega; done) | (exfalso; contradiction; done)) (show (0 : Int32).toInt = 0 ∨ ((0 : Int32).toInt = 1 ∧ (m 94 57).toInt < (m 94 56).toInt ∧ (m 94 57).toInt = (m0 94 57).toInt) from by omega) (show v6 + (m5 94 45) = (m0 94 45) from by first | (exact p4_m5) | (exact i_w0) | (exact p4_m5.trans r_W45) | (exfalso; omega; done) | (exfalso; contradiction; done))
    · skip
      have g14 := i_nle h6
      have hg15 : (0 ≤ l1 ∧ l1.toNatClampNeg < 3100) := i_ix (by omega) (by omega)
      refine ⟨hg15, ?_⟩
      first | have f16 : 0 ≤ (m 99 l1.toNatClampNeg).toInt ∧ (m 99 l1.toNatClampNeg).toInt ≤ 1 := ra_99 (m := m) hV (k := l1.toNatClampNeg) (i_ix (n := 3100) (by omega) (by omega)).2 | have b17 := i_bd (m 99 l1.toNatClampNeg)
      have li18 : (0 : Int32).toInt = 0 := rfl
      refine zd (fun (h19 : (m 99 l1.toNatClampNeg) = (0 : Int32)) => ?_) (fun (h19 : ¬ (m 99 l1.toNatClampNeg) = (0 : Int32)) => ?_)
      · skip
        have g20 := i_eq h19
        have hg21 : (0 ≤ l1 ∧ l1.toNatClampNeg < 3100) := i_ix (by omega) (by omega)
        refine ⟨hg21, ?_⟩
        have hV22 : zV (ma_u m 110 l1.toNatClampNeg (0 : Int32)) := ua_110 hV (by omega) (by omega)
        first | have e23 : (l1 + (1 : Int32)).toInt = l1.toInt + (1) := i_addk rfl (by omega) (by omega) | have b24 := i_bd (l1 + (1 : Int32))
        exact IH (3100 - (l1 + (1 : Int32)).toInt).toNat (by omega) _ ((l1 + (1 : Int32))) rfl (zF_u hF rfl) hV22 (by omega) r_W r_GW r_GU r_OW r_DX (show (m 94 10).toInt = 5 from by omega) (show (m 94 57).toInt = (m0 94 57).toInt from by omega) r_W45
      · skip
        have g25 := i_ne h19
        have hg26 : (0 ≤ l1 ∧ l1.toNatClampNeg < 3100) := i_ix (by omega) (by omega)
        refine ⟨hg26, ?_⟩
        have b27 := i_bd (m 106 l1.toNatClampNeg)
        refine zd (fun (h28 : (m 106 l1.toNatClampNeg) = (0 : Int32)) => ?_) (fun (h28 : ¬ (m 106 l1.toNatClampNeg) = (0 : Int32)) => ?_)
        · skip
          have g29 := i_eq h28
          have hg30 : (0 ≤ l1 ∧ l1.toNatClampNeg < 3100) := i_ix (by omega) (by omega)
          refine ⟨hg30, ?_⟩
          have hV31 : zV (ma_u m 110 l1.toNatClampNeg (0 : Int32)) := ua_110 hV (by omega) (by omega)
          first | have e32 : (l1 + (1 : Int32)).toInt = l1.toInt + (1) := i_addk rfl (by omega) (by omega) | have b33 := i_bd (l1 + (1 : Int32))
          exact IH (3100 - (l1 + (1 : Int32)).toInt).toNat (by omega) _ ((l1 + (1 : Int32))) rfl (zF_u hF rfl) hV31 (by omega) r_W r_GW r_GU r_OW r_DX (show (m 94 10).toInt = 5 from by omega) (show (m 94 57).toInt = (m0 94 57).toInt from by omega) r_W45
        · skip
          have g34 := i_ne h28
          have hg35 : (0 ≤ l1 ∧ l1.toNatClampNeg < 3100) := i_ix (by omega) (by omega)
          refine ⟨hg35, ?_⟩
          have li37 : (1 : Int32).toInt = 1 := rfl
          have hV36 : zV (ma_u m 110 l1.toNatClampNeg (1 : Int32)) := ua_110 hV (by omega) (by omega)
          first | have e38 : (l1 + (1 : Int32)).toInt = l1.toInt + (1) := i_addk rfl (by omega) (by omega) | have b39 := i_bd (l1 + (1 : Int32))
          exact IH (3100 - (l1 + (1 : Int32)).toInt).toNat (by omega) _ ((l1 + (1 : Int32))) rfl (zF_u hF rfl) hV36 (by omega) r_W r_GW r_GU r_OW r_DX (show (m 94 10).toInt = 5 from by omega) (show (m 94 57).toInt = (m0 94 57).toInt from by omega) r_W45
theorem sp_223aw {X : Nat × (Nat → Int32)} {P : Option ma_V → (Nat → Nat → Int32) → Prop} {T : Nat} {m : Nat → Nat → Int32}  (hV : zV m) (r_W : zW (m 94 7) (m 98) (m 101) (m 102) (m 108)) (r_GW : zGW T (m 94 55) (m 109)) (r_GU : zGU T (m 94 46) (m 99)) (r_OW : zOw (m 99) (m 103) (m 111)) (r_DX : zDX (m 94 10) (m 99) (m 112) (m 113) (m 114) (m 94 55) (m 98) (m 101) (m 102) (m 108)) (r_G1 : zG1 (m 94 56) (m 94 57) (m 106)) (hpre6 : (m 94 10).toInt = 5) (hpre7 : (m 94 58).toInt = 1) (KZ : ∀ v m₉, zV (zov wr_223 m m₉) → (zGW T (m₉ 94 55) (m₉ 109)) → (zGU T (m 94 46) (m₉ 99)) → (zOw (m₉ 99) (m 103) (m₉ 111)) → (zDX (m 94 10) (m₉ 99) (m 112) (m₉ 113) (m₉ 114) (m₉ 94 55) (m 98) (m 101) (m 102) (m 108)) → (zGG (m₉ 94 58) (m₉ 94 56) (m 94 57) (m₉ 106)) → ((m₉ 94 58).toInt = 0 ∨ ((m₉ 94 58).toInt = 1 ∧ (m 94 57).toInt < (m₉ 94 56).toInt ∧ (m 94 57).toInt = (m 94 57).toInt)) → (v + (m₉ 94 45) = (m 94 45)) → P (some (.inl v)) (zov wr_223 m m₉)) : zm X 4 88 223 0 [(0, .inr (.inr (some 94)))] m P := by
  have K : ∀ v m₉, zF wr_223 m m₉ → zV m₉ → (zGW T (m₉ 94 55) (m₉ 109)) → (zGU T (m₉ 94 46) (m₉ 99)) → (zOw (m₉ 99) (m₉ 103) (m₉ 111)) → (zDX (m₉ 94 10) (m₉ 99) (m₉ 112) (m₉ 113) (m₉ 114) (m₉ 94 55) (m₉ 98) (m₉ 101) (m₉ 102) (m₉ 108)) → (zGG (m₉ 94 58) (m₉ 94 56) (m₉ 94 57) (m₉ 106)) → ((m₉ 94 58).toInt = 0 ∨ ((m₉ 94 58).toInt = 1 ∧ (m₉ 94 57).toInt < (m₉ 94 56).toInt ∧ (m₉ 94 57).toInt = (m 94 57).toInt)) → (v + (m₉ 94 45) = (m 94 45)) → P (some (.inl v)) m₉ := by
    intro v m₉ hf z q0 q1 q2 q3 q4 q5 q6
    have e := zov_eq hf
    rw [e] at z ⊢
    try rw [e] at q0
    try rw [e] at q1
    try rw [e] at q2
    try rw [e] at q3
    try rw [e] at q4
    try rw [e] at q5
    try rw [e] at q6
    exact KZ v m₉ z q0 q1 q2 q3 q4 q5 q6
  refine g_223_0  ?_
  have f1 : 0 ≤ (m 94 10).toInt ∧ (m 94 10).toInt ≤ 6 := rs_94_10 (m := m) hV
  have f2 : 0 ≤ (m 94 58).toInt ∧ (m 94 58).toInt ≤ 1 := rs_94_58 (m := m) hV
  have f3 : 0 ≤ (m 94 56).toInt ∧ (m 94 56).toInt ≤ 3100 := rs_94_56 (m := m) hV
  have f4 : 0 ≤ (m 94 57).toInt ∧ (m 94 57).toInt ≤ 3100 := rs_94_57 (m := m) hV
  refine zd (fun (h5 : (m 94 56) ≤ (m 94 57)) => ?_) (fun (h5 : ¬ (m 94 56) ≤ (m 94 57)) => ?_)
  · skip
    have g6 := i_le h5
    have f7 : 0 ≤ (m 94 9).toInt ∧ (m 94 9).toInt ≤ 1 := rs_94_9 (m := m) hV
    have li8 : (0 : Int32).toInt = 0 := rfl
    refine zd (fun (h9 : (m 94 9) = (0 : Int32)) => ?_) (fun (h9 : ¬ (m 94 9) = (0 : Int32)) => ?_)
    · skip
      have g10 := i_eq h9
      refine sp_220  hV r_G1 (fun m1 hV_m1 p0_m1 p1_m1 => zmv_n ?_)
      have p0_m1 : zG1 (m1 94 56) (m 94 57) (m1 106) := p0_m1
      have p1_m1 : (m 94 56).toInt ≤ (m1 94 56).toInt := p1_m1
      have f11 : 0 ≤ (m1 94 56).toInt ∧ (m1 94 56).toInt ≤ 3100 := rs_94_56 (m := (zov wr_220 m m1)) hV_m1
      refine zd (fun (h12 : (m1 94 56) ≤ (m 94 57)) => ?_) (fun (h12 : ¬ (m1 94 56) ≤ (m 94 57)) => ?_)
      · skip
        have g13 := i_le h12
        have hV14 : zV (ma_u (zov wr_220 m m1) 94 47 ((m 94 47) + (1 : Int32))) := uf_94_47 hV_m1
        exact lp_223aw_49 hV K _ _ ((0 : Int32)) rfl (zF_u (zF_zov zF_rfl ws_220_223) rfl) hV14 (by omega) r_W r_GW r_GU r_OW r_DX (show (m 94 10).toInt = 5 from by omega) (show (m 94 57).toInt = (m 94 57).toInt from by omega) (show (m 94 45) = (m 94 45) from by first | (exact rfl) | (exfalso; omega; done) | (exfalso; contradiction; done))
      · skip
        have g15 := i_nle h12
        exact K ((0 : Int32)) _ (zF_zov zF_rfl ws_220_223) hV_m1 r_GW r_GU r_OW r_DX (show zGG (m 94 58) (m1 94 56) (m 94 57) (m1 106) from by first | (exact fun _ => p0_m1) | (exact fun z => absurd z (by decide)) | (exact fun z => absurd z (by omega)) | (exfalso; omega; done) | (exfalso; contradiction; done)) (show (m 94 58).toInt = 0 ∨ ((m 94 58).toInt = 1 ∧ (m 94 57).toInt < (m1 94 56).toInt ∧ (m 94 57).toInt = (m 94 57).toInt) from by omega) (show (0 : Int32) + (m 94 45) = (m 94 45) from by first | (exact i_w0) | (exfalso; omega; done) | (exfalso; contradiction; done))
    · skip
      have g16 := i_ne h9
      refine zd (fun (h17 : (m 94 56) ≤ (m 94 57)) => ?_) (fun (h17 : ¬ (m 94 56) ≤ (m 94 57)) => ?_)
      · skip
        have g18 := i_le h17
        have hV19 : zV (ma_u m 94 47 ((m 94 47) + (1 : Int32))) := uf_94_47 hV
        exact lp_223aw_49 hV K _ _ ((0 : Int32)) rfl (zF_u zF_rfl rfl) hV19 (by omega) r_W r_GW r_GU r_OW r_DX (show (m 94 10).toInt = 5 from by omega) (show (m 94 57).toInt = (m 94 57).toInt from by omega) (show (m 94 45) = (m 94 45) from by first | (exact rfl) | (exfalso; omega; done) | (exfalso; contradiction; done))
      · skip
        have g20 := i_nle h17
        exact K ((0 : Int32)) _ zF_rfl hV r_GW r_GU r_OW r_DX (show zGG (m 94 58) (m 94 56) (m 94 57) (m 106) from by first | (exact fun _ => r_G1) | (exact fun z => absurd z (by decide)) | (exact fun z => absurd z (by omega)) | (exfalso; omega; done) | (exfalso; contradiction; done)) (show (m 94 58).toInt = 0 ∨ ((m 94 58).toInt = 1 ∧ (m 94 57).toInt < (m 94 56).toInt ∧ (m 94 57).toInt = (m 94 57).toInt) from by omega) (show (0 : Int32) + (m 94 45) = (m 94 45) from by first | (exact i_w0) | (exfalso; omega; done) | (exfalso; contradiction; done))
  · skip
    have g21 := i_nle h5
    have li22 : (0 : Int32).toInt = 0 := rfl
    exact K ((0 : Int32)) _ zF_rfl hV r_GW r_GU r_OW r_DX (show zGG (m 94 58) (m 94 56) (m 94 57) (m 106) from by first | (exact fun _ => r_G1) | (exact fun z => absurd z (by decide)) | (exact fun z => absurd z (by omega)) | (exfalso; omega; done) | (exfalso; contradiction; done)) (show (m 94 58).toInt = 0 ∨ ((m 94 58).toInt = 1 ∧ (m 94 57).toInt < (m 94 56).toInt ∧ (m 94 57).toInt = (m 94 57).toInt) from by omega) (show (0 : Int32) + (m 94 45) = (m 94 45) from by first | (exact i_w0) | (exfalso; omega; done) | (exfalso; contradiction; done))
theorem lp_230aw_2 {X : Nat × (Nat → Int32)} {P : Option ma_V → (Nat → Nat → Int32) → Prop} {T : Nat} {m0 : Nat → Nat → Int32} (h0 : zV m0) (K : ∀ v m₉, zF wr_230 m0 m₉ → zV m₉ → (zGW T (m₉ 94 55) (m₉ 109)) → (zGU T (m₉ 94 46) (m₉ 99)) → (zOw (m₉ 99) (m₉ 103) (m₉ 111)) → (zDX (m₉ 94 10) (m₉ 99) (m₉ 112) (m₉ 113) (m₉ 114) (m₉ 94 55) (m₉ 98) (m₉ 101) (m₉ 102) (m₉ 108)) → (zGG (m₉ 94 58) (m₉ 94 56) (m₉ 94 57) (m₉ 106)) → ((m₉ 94 58).toInt = 0) → (v + (m₉ 94 45) = (m0 94 45)) → P (some (.inl v)) m₉) : ∀ (n : Nat) (m : Nat → Nat → Int32) (l1 : Int32), ((zfm (m 94 58) (m 94 57) (m 94 56) : Int)).toNat = n → zF wr_230 m0 m → zV m → (zW (m 94 7) (m 98) (m 101) (m 102) (m 108)) → (zGW T (m 94 55) (m 109)) → (zGU T (m 94 46) (m 99)) → (zOw (m 99) (m 103) (m 111)) → (zDX (m 94 10) (m 99) (m 112) (m 113) (m 114) (m 94 55) (m 98) (m 101) (m 102) (m 108)) → (zGG (m 94 58) (m 94 56) (m 94 57) (m 106)) → ((m 94 10).toInt = 5) → (l1 + (m 94 45) = (m0 94 45)) → zm X 5 109 230 2 [(0, .inr (.inr (some 94))), (1, .inl l1)] m P := by
  intro n
  induction n using Nat.strongRecOn with
  | _ n IH =>
    intro m l1 hmu hF hV r_W r_GW r_GU r_OW r_DX r_GG hi6 r_WD
    refine g_230_2 l1 ?_
    have f1 : 0 ≤ (m 94 10).toInt ∧ (m 94 10).toInt ≤ 6 := rs_94_10 (m := m) hV
    have f2 : 0 ≤ (m 94 58).toInt ∧ (m 94 58).toInt ≤ 1 := rs_94_58 (m := m) hV
    have li3 : (0 : Int32).toInt = 0 := rfl
    refine zd (fun (h4 : (m 94 58) = (0 : Int32)) => ?_) (fun (h4 : ¬ (m 94 58) = (0 : Int32)) => ?_)
    · skip
      have g5 := i_eq h4
      try have g0 := (r_GG (by omega)).1
      have b6 := i_bd l1
      exact K (l1) _ hF hV r_GW r_GU r_OW r_DX r_GG (show (m 94 58).toInt = 0 from by omega) r_WD
    · skip
      have g7 := i_ne h4
      have li8 : (3100 : Int32).toInt = 3100 := rfl
      refine sp_222 ((3100 : Int32)) hV r_W (show zG1 (m 94 56) (m 94 57) (m 106) from by first | (exact G1_0 (by omega) (by omega)) | (exact r_GG (by omega)) | (exfalso; omega; done) | (exfalso; contradiction; done)) (fun v2 m1 hV_m1 p0_m1 p1_m1 p2_m1 => zmi_n ?_)
      have p0_m1 : zG1 (m1 94 56) (m1 94 57) (m1 106) := p0_m1
      have p1_m1 : (m 94 56).toInt ≤ (m1 94 56).toInt := p1_m1
      have p2_m1 : (m 94 57).toInt ≤ (m1 94 57).toInt ∧ ((m1 94 56).toInt ≤ (m1 94 57).toInt ∨ (m 94 57).toInt + (3100 : Int32).toInt ≤ (m1 94 57).toInt) := p2_m1
      have f9 : 0 ≤ (m 94 56).toInt ∧ (m 94 56).toInt ≤ 3100 := rs_94_56 (m := m) hV
      have f10 : 0 ≤ (m1 94 56).toInt ∧ (m1 94 56).toInt ≤ 3100 := rs_94_56 (m := (zov wr_222 m m1)) hV_m1
      have f11 : 0 ≤ (m 94 57).toInt ∧ (m 94 57).toInt ≤ 3100 := rs_94_57 (m := m) hV
      have f12 : 0 ≤ (m1 94 57).toInt ∧ (m1 94 57).toInt ≤ 3100 := rs_94_57 (m := (zov wr_222 m m1)) hV_m1
      refine sp_223aw  hV_m1 r_W r_GW r_GU r_OW r_DX p0_m1 (show (m 94 10).toInt = 5 from by omega) (show (m 94 58).toInt = 1 from by omega) (fun v4 m3 hV_m3 p0_m3 p1_m3 p2_m3 p3_m3 p4_m3 p5_m3 p6_m3 => zmi_n ?_)
      have p0_m3 : zGW T (m3 94 55) (m3 109) := p0_m3
      have p1_m3 : zGU T (m 94 46) (m3 99) := p1_m3
      have p2_m3 : zOw (m3 99) (m 103) (m3 111) := p2_m3
      have p3_m3 : zDX (m 94 10) (m3 99) (m 112) (m3 113) (m3 114) (m3 94 55) (m 98) (m 101) (m 102) (m 108) := p3_m3
      have p4_m3 : zGG (m3 94 58) (m3 94 56) (m1 94 57) (m3 106) := p4_m3
      have p5_m3 : (m3 94 58).toInt = 0 ∨ ((m3 94 58).toInt = 1 ∧ (m1 94 57).toInt < (m3 94 56).toInt ∧ (m1 94 57).toInt = (m1 94 57).toInt) := p5_m3
      have p6_m3 : v4 + (m3 94 45) = (m 94 45) := p6_m3
      have f13 : 0 ≤ (m3 94 58).toInt ∧ (m3 94 58).toInt ≤ 1 := rs_94_58 (m := (zov wr_223 (zov wr_222 m m1) m3)) hV_m3
      have f14 : 0 ≤ (m3 94 56).toInt ∧ (m3 94 56).toInt ≤ 3100 := rs_94_56 (m := (zov wr_223 (zov wr_222 m m1) m3)) hV_m3
      try have g1 := p0_m1.1
      try have g0 := (r_GG (by omega)).1
      have b15 := i_bd l1
      have b16 := i_bd v4
      first | have e17 : (l1 + v4).toInt = l1.toInt + v4.toInt := i_add (by omega) (by omega) | have b18 := i_bd (l1 + v4)
      exact IH ((zfm (m3 94 58) (m1 94 57) (m3 94 56) : Int)).toNat (by have zq := zfm_lt (im := m 94 58) (ga := m 94 57) (gm := m 94 56) (im₉ := (m3 94 58)) (ga₉ := (m1 94 57)) (gm₉ := (m3 94 56)) (by omega) (by omega) (by omega) (by omega); omega) _ ((l1 + v4)) rfl (zF_zov (zF_zov hF ws_222_230) ws_223_230) hV_m3 r_W p0_m3 p1_m3 p2_m3 p3_m3 p4_m3 (show (m 94 10).toInt = 5 from by omega) (show (l1 + v4) + (m3 94 45) = (m0 94 45) from by first | (exact p6_m3) | (exact i_w0) | (exact i_wt p6_m3 r_WD) | (exact r_WD) | (exfalso; omega; done) | (exfalso; contradiction; done))
theorem sp_230aw {X : Nat × (Nat → Int32)} {P : Option ma_V → (Nat → Nat → Int32) → Prop} {T : Nat} {m : Nat → Nat → Int32}  (hV : zV m) (r_W : zW (m 94 7) (m 98) (m 101) (m 102) (m 108)) (r_GW : zGW T (m 94 55) (m 109)) (r_GU : zGU T (m 94 46) (m 99)) (r_OW : zOw (m 99) (m 103) (m 111)) (r_DX : zDX (m 94 10) (m 99) (m 112) (m 113) (m 114) (m 94 55) (m 98) (m 101) (m 102) (m 108)) (r_GG : zGG (m 94 58) (m 94 56) (m 94 57) (m 106)) (hpre6 : (m 94 10).toInt = 5) (KZ : ∀ v m₉, zV (zov wr_230 m m₉) → (zGW T (m₉ 94 55) (m₉ 109)) → (zGU T (m 94 46) (m₉ 99)) → (zOw (m₉ 99) (m 103) (m₉ 111)) → (zDX (m 94 10) (m₉ 99) (m 112) (m₉ 113) (m₉ 114) (m₉ 94 55) (m 98) (m 101) (m 102) (m 108)) → (zGG (m₉ 94 58) (m₉ 94 56) (m₉ 94 57) (m₉ 106)) → ((m₉ 94 58).toInt = 0) → (v + (m₉ 94 45) = (m 94 45)) → P (some (.inl v)) (zov wr_230 m m₉)) : zm X 5 109 230 0 [(0, .inr (.inr (some 94)))] m P := by
  have K : ∀ v m₉, zF wr_230 m m₉ → zV m₉ → (zGW T (m₉ 94 55) (m₉ 109)) → (zGU T (m₉ 94 46) (m₉ 99)) → (zOw (m₉ 99) (m₉ 103) (m₉ 111)) → (zDX (m₉ 94 10) (m₉ 99) (m₉ 112) (m₉ 113) (m₉ 114) (m₉ 94 55) (m₉ 98) (m₉ 101) (m₉ 102) (m₉ 108)) → (zGG (m₉ 94 58) (m₉ 94 56) (m₉ 94 57) (m₉ 106)) → ((m₉ 94 58).toInt = 0) → (v + (m₉ 94 45) = (m 94 45)) → P (some (.inl v)) m₉ := by
    intro v m₉ hf z q0 q1 q2 q3 q4 q5 q6
    have e := zov_eq hf
    rw [e] at z ⊢
    try rw [e] at q0
    try rw [e] at q1
    try rw [e] at q2
    try rw [e] at q3
    try rw [e] at q4
    try rw [e] at q5
    try rw [e] at q6
    exact KZ v m₉ z q0 q1 q2 q3 q4 q5 q6
  refine g_230_0  ?_
  have f1 : 0 ≤ (m 94 10).toInt ∧ (m 94 10).toInt ≤ 6 := rs_94_10 (m := m) hV
  try have g0 := (r_GG (by omega)).1
  have li2 : (0 : Int32).toInt = 0 := rfl
  have f3 : 0 ≤ (m 94 58).toInt ∧ (m 94 58).toInt ≤ 1 := rs_94_58 (m := m) hV
  have f4 : 0 ≤ (m 94 57).toInt ∧ (m 94 57).toInt ≤ 3100 := rs_94_57 (m := m) hV
  have f5 : 0 ≤ (m 94 56).toInt ∧ (m 94 56).toInt ≤ 3100 := rs_94_56 (m := m) hV
  exact lp_230aw_2 hV K _ _ ((0 : Int32)) rfl zF_rfl hV r_W r_GW r_GU r_OW r_DX r_GG (show (m 94 10).toInt = 5 from by omega) (show (0 : Int32) + (m 94 45) = (m 94 45) from by first | (exact i_w0) | (exact r_WD) | (exfalso; omega; done) | (exfalso; contradiction; done))
set_option maxHeartbeats 8000000 in
theorem lp_235aw_199 {X : Nat × (Nat → Int32)} {P : Option ma_V → (Nat → Nat → Int32) → Prop} {T : Nat} {m0 : Nat → Nat → Int32} (h0 : zV m0) (K : ∀ v m₉, zF wr_235 m0 m₉ → zV m₉ → (zGW T (m₉ 94 55) (m₉ 109)) → (zGU T (m₉ 94 46) (m₉ 99)) → (zOw (m₉ 99) (m₉ 103) (m₉ 111)) → (zDX (m₉ 94 10) (m₉ 99) (m₉ 112) (m₉ 113) (m₉ 114) (m₉ 94 55) (m₉ 98) (m₉ 101) (m₉ 102) (m₉ 108)) → (zRG1 (m₉ 94 18) (m₉ 94 64) (m₉ 94 63) (m₉ 99) (m₉ 103) (m₉ 102) (m₉ 116)) → (v + (m₉ 94 45) = (m0 94 45)) → P (some (.inl v)) m₉) {n161 : Nat} (OUT161 : ∀ (m₉ : Nat → Nat → Int32) (l1 : Int32) (l2 : Int32) (l3 : Int32) (l4 : Int32), (((128 - cnt (m₉ 124) 128 : Nat) : Int)).toNat < n161 → zF wr_235 m0 m₉ → zV m₉ → (0 ≤ l3.toInt) → (l3.toInt ≤ 1) → (-1 ≤ l2.toInt ∧ l2.toInt < (m₉ 94 64).toInt) → (l4.toInt = -1 ∨ (0 ≤ l4.toInt ∧ l4.toInt < (m₉ 94 64).toInt ∧ (m₉ 124) l4.toNatClampNeg = 0)) → (zW (m₉ 94 7) (m₉ 98) (m₉ 101) (m₉ 102) (m₉ 108)) → (zGW T (m₉ 94 55) (m₉ 109)) → (zGU T (m₉ 94 46) (m₉ 99)) → (zOw (m₉ 99) (m₉ 103) (m₉ 111)) → (zDX (m₉ 94 10) (m₉ 99) (m₉ 112) (m₉ 113) (m₉ 114) (m₉ 94 55) (m₉ 98) (m₉ 101) (m₉ 102) (m₉ 108)) → (zRG1 (m₉ 94 18) (m₉ 94 64) (m₉ 94 63) (m₉ 99) (m₉ 103) (m₉ 102) (m₉ 116)) → ((m₉ 94 10).toInt = 6) → (l1 + (m₉ 94 45) = (m0 94 45)) → zm X 5 108 235 161 [(0, .inr (.inr (some 94))), (1, .inl l1), (2, .inl l2), (3, .inl l3), (4, .inl l4)] m₉ P) : ∀ (n : Nat) (m : Nat → Nat → Int32) (l1 : Int32) (l2 : Int32) (l3 : Int32) (l4 : Int32) (l5 : Int32) (l6 : Int32), (l6.toInt - l5.toInt).toNat = n → zF wr_235 m0 m → zV m → (0 ≤ l3.toInt) → (l3.toInt ≤ 1) → (-1 ≤ l2.toInt ∧ l2.toInt < (m 94 64).toInt) → (0 ≤ l4.toInt) → (l4.toInt < (m 94 64).toInt) → (0 ≤ l5.toInt) → (l6.toInt ≤ 1500) → (l5.toInt ≤ 1600) → (128 - cnt (m 124) 128 < n161) → (zW (m 94 7) (m 98) (m 101) (m 102) (m 108)) → (zGW T (m 94 55) (m 109)) → (zGU T (m 94 46) (m 99)) → (zOw (m 99) (m 103) (m 111)) → (zDX (m 94 10) (m 99) (m 112) (m 113) (m 114) (m 94 55) (m 98) (m 101) (m 102) (m 108)) → (zRG1 (m 94 18) (m 94 64) (m 94 63) (m 99) (m 103) (m 102) (m 116)) → ((m 94 10).toInt = 6) → (l1 + (m 94 45) = (m0 94 45)) → zm X 5 108 235 199 [(0, .inr (.inr (some 94))), (1, .inl l1), (2, .inl l2), (3, .inl l3), (4, .inl l4), (5, .inl l5), (6, .inl l6)] m P := by
  intro n
  induction n using Nat.strongRecOn with
  | _ n IH =>
    intro m l1 l2 l3 l4 l5 l6 hmu hF hV hi0 hi1 hi2 hi3 hi4 hi5 hi6 hi7 r_MD r_W r_GW r_GU r_OW r_DX r_RG hi15 r_WD
    refine g_235_199 l1 l2 l3 l4 l5 l6 ?_
    have f1 : 0 ≤ (m 94 64).toInt ∧ (m 94 64).toInt ≤ 93 := rs_94_64 (m := m) hV
    have f2 : 0 ≤ (m 94 10).toInt ∧ (m 94 10).toInt ≤ 6 := rs_94_10 (m := m) hV
    have b3 := i_bd l6
    have b4 := i_bd l5
    refine zd (fun (h5 : l6 ≤ l5) => ?_) (fun (h5 : ¬ l6 ≤ l5) => ?_)
    · skip
      have g6 := i_le h5
      have b7 := i_bd l3
      have li8 : (0 : Int32).toInt = 0 := rfl
      refine zd (fun (h9 : l3 = (0 : Int32)) => ?_) (fun (h9 : ¬ l3 = (0 : Int32)) => ?_)
      · skip
        have g10 := i_eq h9
        refine sp_236  hV  (fun v2 m1 hV_m1 p0_m1 => zmi_n ?_)
        have p0_m1 : v2.toInt = -1 ∨ (0 ≤ v2.toInt ∧ v2.toInt < (m 94 64).toInt ∧ (m 124) v2.toNatClampNeg = 0) := p0_m1
        try have rpr := r_RG.2.2.2.1
        try have rsi := r_RG.1
        try have rrg := r_RG.2.1
        try have rml := RG_ml (r := l4) r_RG (by have := rs_94_18 hV; omega) (by have := rs_94_64 hV; omega)
        try have rml2 := RG_ml (r := l2) r_RG (by have := rs_94_18 hV; omega) (by have := rs_94_64 hV; omega)
        have b11 := i_bd l1
        have b12 := i_bd l2
        have b13 := i_bd v2
        exact OUT161 _ (l1) (l2) (l3) (v2) (show (((128 - cnt (m 124) 128 : Nat) : Int)).toNat < n161 from by omega) (zF_zov hF ws_236_235) hV_m1 (by omega) (by omega) (show -1 ≤ l2.toInt ∧ l2.toInt < (m 94 64).toInt from by omega) p0_m1 r_W r_GW r_GU r_OW r_DX r_RG (show (m 94 10).toInt = 6 from by omega) r_WD
      · skip
        have g14 := i_ne h9
        have b15 := i_bd l4
        try have rpr := r_RG.2.2.2.1
        try have rsi := r_RG.1
        try have rrg := r_RG.2.1
        try have rml := RG_ml (r := l4) r_RG (by have := rs_94_18 hV; omega) (by have := rs_94_64 hV; omega)
        try have rml2 := RG_ml (r := l2) r_RG (by have := rs_94_18 hV; omega) (by have := rs_94_64 hV; omega)
        have hg16 : (0 ≤ l4 ∧ l4.toNatClampNeg < 128) := i_ix (by omega) (by omega)
        refine ⟨hg16, ?_⟩
        have hV17 : zV (ma_u m 116 l4.toNatClampNeg (0 : Int32)) := ua_116 hV (by omega) (by omega)
        refine sp_236  hV17  (fun v4 m3 hV_m3 p0_m3 => zmi_n ?_)
        have p0_m3 : v4.toInt = -1 ∨ (0 ≤ v4.toInt ∧ v4.toInt < (m 94 64).toInt ∧ (m 124) v4.toNatClampNeg = 0) := p0_m3
        try have rpr := r_RG.2.2.2.1
        try have rsi := r_RG.1
        try have rrg := r_RG.2.1
        try have rml := RG_ml (r := l4) r_RG (by have := rs_94_18 hV; omega) (by have := rs_94_64 hV; omega)
        try have rml2 := RG_ml (r := l2) r_RG (by have := rs_94_18 hV; omega) (by have := rs_94_64 hV; omega)
        have b18 := i_bd l1
        have b19 := i_bd l2
        have b20 := i_bd v4
        exact OUT161 _ (l1) (l2) (l3) (v4) (show (((128 - cnt (m 124) 128 : Nat) : Int)).toNat < n161 from by omega) (zF_zov (zF_u hF rfl) ws_236_235) hV_m3 (by omega) (by omega) (show -1 ≤ l2.toInt ∧ l2.toInt < (m 94 64).toInt from by omega) p0_m3 r_W r_GW r_GU r_OW r_DX (show zRG1 (m 94 18) (m 94 64) (m 94 63) (m 99) (m 103) (m 102) ((ma_u m 116 l4.toNatClampNeg (0 : Int32)) 116) from by first | (exact RG_put r_RG (by omega)) | (exfalso; omega; done) | (exfalso; contradiction; done)) (show (m 94 10).toInt = 6 from by omega) r_WD
    · skip
      have g21 := i_nle h5
      have b22 := i_bd l3
      have li23 : (0 : Int32).toInt = 0 := rfl
      refine zd (fun (h24 : l3 = (0 : Int32)) => ?_) (fun (h24 : ¬ l3 = (0 : Int32)) => ?_)
      · skip
        have g25 := i_eq h24
        refine zd (fun (h26 : l3 = (0 : Int32)) => ?_) (fun (h26 : ¬ l3 = (0 : Int32)) => ?_)
        · skip
          have g27 := i_eq h26
          refine sp_236  hV  (fun v6 m5 hV_m5 p0_m5 => zmi_n ?_)
          have p0_m5 : v6.toInt = -1 ∨ (0 ≤ v6.toInt ∧ v6.toInt < (m 94 64).toInt ∧ (m 124) v6.toNatClampNeg = 0) := p0_m5
          try have rpr := r_RG.2.2.2.1
          try have rsi := r_RG.1
          try have rrg := r_RG.2.1
          try have rml := RG_ml (r := l4) r_RG (by have := rs_94_18 hV; omega) (by have := rs_94_64 hV; omega)
          try have rml2 := RG_ml (r := l2) r_RG (by have := rs_94_18 hV; omega) (by have := rs_94_64 hV; omega)
          have b28 := i_bd l1
          have b29 := i_bd l2
          have b30 := i_bd v6
          exact OUT161 _ (l1) (l2) (l3) (v6) (show (((128 - cnt (m 124) 128 : Nat) : Int)).toNat < n161 from by omega) (zF_zov hF ws_236_235) hV_m5 (by omega) (by omega) (show -1 ≤ l2.toInt ∧ l2.toInt < (m 94 64).toInt from by omega) p0_m5 r_W r_GW r_GU r_OW r_DX r_RG (show (m 94 10).toInt = 6 from by omega) r_WD
        · skip
          have g31 := i_ne h26
          have b32 := i_bd l4
          try have rpr := r_RG.2.2.2.1
          try have rsi := r_RG.1
          try have rrg := r_RG.2.1
          try have rml := RG_ml (r := l4) r_RG (by have := rs_94_18 hV; omega) (by have := rs_94_64 hV; omega)
          try have rml2 := RG_ml (r := l2) r_RG (by have := rs_94_18 hV; omega) (by have := rs_94_64 hV; omega)
          have hg33 : (0 ≤ l4 ∧ l4.toNatClampNeg < 128) := i_ix (by omega) (by omega)
          refine ⟨hg33, ?_⟩
          have hV34 : zV (ma_u m 116 l4.toNatClampNeg (0 : Int32)) := ua_116 hV (by omega) (by omega)
          refine sp_236  hV34  (fun v8 m7 hV_m7 p0_m7 => zmi_n ?_)
          have p0_m7 : v8.toInt = -1 ∨ (0 ≤ v8.toInt ∧ v8.toInt < (m 94 64).toInt ∧ (m 124) v8.toNatClampNeg = 0) := p0_m7
          try have rpr := r_RG.2.2.2.1
          try have rsi := r_RG.1
          try have rrg := r_RG.2.1
          try have rml := RG_ml (r := l4) r_RG (by have := rs_94_18 hV; omega) (by have := rs_94_64 hV; omega)
          try have rml2 := RG_ml (r := l2) r_RG (by have := rs_94_18 hV; omega) (by have := rs_94_64 hV; omega)
          have b35 := i_bd l1
          have b36 := i_bd l2
          have b37 := i_bd v8
          exact OUT161 _ (l1) (l2) (l3) (v8) (show (((128 - cnt (m 124) 128 : Nat) : Int)).toNat < n161 from by omega) (zF_zov (zF_u hF rfl) ws_236_235) hV_m7 (by omega) (by omega) (show -1 ≤ l2.toInt ∧ l2.toInt < (m 94 64).toInt from by omega) p0_m7 r_W r_GW r_GU r_OW r_DX (show zRG1 (m 94 18) (m 94 64) (m 94 63) (m 99) (m 103) (m 102) ((ma_u m 116 l4.toNatClampNeg (0 : Int32)) 116) from by first | (exact RG_put r_RG (by omega)) | (exfalso; omega; done) | (exfalso; contradiction; done)) (show (m 94 10).toInt = 6 from by omega) r_WD
      · skip
        have g38 := i_ne h24
        try have rpr := r_RG.2.2.2.1
        try have rsi := r_RG.1
        try have rrg := r_RG.2.1
        try have rml := RG_ml (r := l4) r_RG (by have := rs_94_18 hV; omega) (by have := rs_94_64 hV; omega)
        try have rml2 := RG_ml (r := l2) r_RG (by have := rs_94_18 hV; omega) (by have := rs_94_64 hV; omega)
        have hg39 : (0 ≤ l5 ∧ l5.toNatClampNeg < 4600) := i_ix (by omega) (by omega)
        refine ⟨hg39, ?_⟩
        first | have f40 : -1 ≤ (m 111 l5.toNatClampNeg).toInt ∧ (m 111 l5.toNatClampNeg).toInt ≤ 3099 := ra_111 (m := m) hV (k := l5.toNatClampNeg) (i_ix (n := 4600) (by omega) (by omega)).2 | have b41 := i_bd (m 111 l5.toNatClampNeg)
        refine zd (fun (h42 : (0 : Int32) ≤ (m 111 l5.toNatClampNeg)) => ?_) (fun (h42 : ¬ (0 : Int32) ≤ (m 111 l5.toNatClampNeg)) => ?_)
        · skip
          have g43 := i_le h42
          try have ow5 := r_OW l5.toNatClampNeg (by omega) (by omega)
          try have ra5 := RG_at r_RG (s := (m 111 l5.toNatClampNeg).toNatClampNeg) (by omega) ow5.1
          have hg44 : (0 ≤ (m 111 l5.toNatClampNeg) ∧ (m 111 l5.toNatClampNeg).toNatClampNeg < 3100) := i_ix (by omega) (by omega)
          refine ⟨hg44, ?_⟩
          have b45 := i_bd l2
          refine zd (fun (h46 : l2 < (0 : Int32)) => ?_) (fun (h46 : ¬ l2 < (0 : Int32)) => ?_)
          · skip
            have g47 := i_lt h46
            refine sp_234  hV  (fun v10 m9 hV_m9 p0_m9 => zmi_n ?_)
            have p0_m9 : zLE (m 116) (m 94 64) v10 := p0_m9
            try have lel := LE_lo p0_m9
            try have lno := LE_no (pr := m 94 63) p0_m9 (by assumption) (by omega) (by omega)
            try have lrg := RG_LE r_RG p0_m9 (by have := rs_94_18 hV; omega) (by have := rs_94_64 hV; omega)
            have b48 := i_bd v10
            refine zd (fun (h49 : (0 : Int32) ≤ v10) => ?_) (fun (h49 : ¬ (0 : Int32) ≤ v10) => ?_)
            · skip
              have g50 := i_le h49
              refine zd (fun (h51 : l3 = (0 : Int32)) => ?_) (fun (h51 : ¬ l3 = (0 : Int32)) => ?_)
              · skip
                have g52 := i_eq h51
                try have rpr := r_RG.2.2.2.1
                try have rsi := r_RG.1
                try have rrg := r_RG.2.1
                try have rml := RG_ml (r := l4) r_RG (by have := rs_94_18 hV; omega) (by have := rs_94_64 hV; omega)
                try have rml2 := RG_ml (r := l2) r_RG (by have := rs_94_18 hV; omega) (by have := rs_94_64 hV; omega)
                have b53 := i_bd l1
                have b54 := i_bd l4
                first | have f55 : 0 ≤ (m 102 (m 111 l5.toNatClampNeg).toNatClampNeg).toInt ∧ (m 102 (m 111 l5.toNatClampNeg).toNatClampNeg).toInt ≤ 60 := ra_102 (m := m) hV (k := (m 111 l5.toNatClampNeg).toNatClampNeg) (i_ix (n := 3100) (by omega) (by omega)).2 | have b56 := i_bd (m 102 (m 111 l5.toNatClampNeg).toNatClampNeg)
                first | have e57 : ((m 102 (m 111 l5.toNatClampNeg).toNatClampNeg) + (1 : Int32)).toInt = (m 102 (m 111 l5.toNatClampNeg).toNatClampNeg).toInt + (1) := i_addk rfl (by omega) (by omega) | have b58 := i_bd ((m 102 (m 111 l5.toNatClampNeg).toNatClampNeg) + (1 : Int32))
                first | have e59 : (l5 + ((m 102 (m 111 l5.toNatClampNeg).toNatClampNeg) + (1 : Int32))).toInt = l5.toInt + ((m 102 (m 111 l5.toNatClampNeg).toNatClampNeg) + (1 : Int32)).toInt := i_add (by omega) (by omega) | have b60 := i_bd (l5 + ((m 102 (m 111 l5.toNatClampNeg).toNatClampNeg) + (1 : Int32)))
                exact IH (l6.toInt - (l5 + ((m 102 (m 111 l5.toNatClampNeg).toNatClampNeg) + (1 : Int32))).toInt).toNat (by omega) _ (l1) (v10) (l3) (l4) ((l5 + ((m 102 (m 111 l5.toNatClampNeg).toNatClampNeg) + (1 : Int32)))) (l6) rfl (zF_zov hF ws_234_235) hV_m9 (by omega) (by omega) (show -1 ≤ v10.toInt ∧ v10.toInt < (m 94 64).toInt from by omega) (by omega) (show l4.toInt < (m 94 64).toInt from by omega) (by omega) (by omega) (by omega) r_MD r_W r_GW r_GU r_OW r_DX r_RG (show (m 94 10).toInt = 6 from by omega) r_WD
              · skip
                have g61 := i_ne h51
                try have rpr := r_RG.2.2.2.1
                try have rsi := r_RG.1
                try have rrg := r_RG.2.1
                try have rml := RG_ml (r := l4) r_RG (by have := rs_94_18 hV; omega) (by have := rs_94_64 hV; omega)
                try have rml2 := RG_ml (r := l2) r_RG (by have := rs_94_18 hV; omega) (by have := rs_94_64 hV; omega)
                have hg62 : (0 ≤ v10 ∧ v10.toNatClampNeg < 128) := i_ix (by omega) (by omega)
                refine ⟨hg62, ?_⟩
                have f63 : 0 ≤ (m 94 18).toInt ∧ (m 94 18).toInt ≤ 256 := rs_94_18 (m := m) hV
                first | have f64 := i_muln (x := v10) (y := (m 94 18)) (by omega) (by omega) (by omega) (by omega) | have b65 := i_bd (v10 * (m 94 18))
                first | have f66 : 0 ≤ (m 116 v10.toNatClampNeg).toInt ∧ (m 116 v10.toNatClampNeg).toInt ≤ 4600 := ra_116 (m := m) hV (k := v10.toNatClampNeg) (i_ix (n := 128) (by omega) (by omega)).2 | have b67 := i_bd (m 116 v10.toNatClampNeg)
                first | have e68 : ((v10 * (m 94 18)) + (m 116 v10.toNatClampNeg)).toInt = (v10 * (m 94 18)).toInt + (m 116 v10.toNatClampNeg).toInt := i_add (by omega) (by omega) | have b69 := i_bd ((v10 * (m 94 18)) + (m 116 v10.toNatClampNeg))
                refine sp_205 ((m 111 l5.toNatClampNeg)) (((v10 * (m 94 18)) + (m 116 v10.toNatClampNeg))) hV_m9 (by omega) (by omega) (by omega) (by omega) (show (m 99) (m 111 l5.toNatClampNeg).toNatClampNeg ≠ 0 from by first | (assumption; done) | (exact ow5.1) | (exfalso; omega; done) | (exfalso; contradiction; done)) r_OW (fun m11 hV_m11 p0_m11 p1_m11 => zmv_n ?_)
                have p0_m11 : zOw (m 99) (m11 103) (m11 111) := p0_m11
                have p1_m11 : zmov (m 111 l5.toNatClampNeg) ((v10 * (m 94 18)) + (m 116 v10.toNatClampNeg)) (m 103) (m 111) (m11 103) (m11 111) := p1_m11
                try have rpr := r_RG.2.2.2.1
                try have rsi := r_RG.1
                try have rrg := r_RG.2.1
                try have rml := RG_ml (r := l4) r_RG (by have := rs_94_18 hV; omega) (by have := rs_94_64 hV; omega)
                try have rml2 := RG_ml (r := l2) r_RG (by have := rs_94_18 hV; omega) (by have := rs_94_64 hV; omega)
                have hg70 : (0 ≤ v10 ∧ v10.toNatClampNeg < 128) := i_ix (by omega) (by omega)
                refine ⟨hg70, ?_⟩
                try have ow5 := p0_m11 l5.toNatClampNeg (by omega) (by omega)
                try have ra5 := RG_at r_RG (s := (m 111 l5.toNatClampNeg).toNatClampNeg) (by omega) ow5.1
                have hg71 : (0 ≤ (m 111 l5.toNatClampNeg) ∧ (m 111 l5.toNatClampNeg).toNatClampNeg < 3100) := i_ix (by omega) (by omega)
                refine ⟨hg71, ?_⟩
                try have rpr := r_RG.2.2.2.1
                try have rsi := r_RG.1
                try have rrg := r_RG.2.1
                try have rml := RG_ml (r := l4) r_RG (by have := rs_94_18 hV; omega) (by have := rs_94_64 hV; omega)
                try have rml2 := RG_ml (r := l2) r_RG (by have := rs_94_18 hV; omega) (by have := rs_94_64 hV; omega)
                have hg72 : (0 ≤ v10 ∧ v10.toNatClampNeg < 128) := i_ix (by omega) (by omega)
                refine ⟨hg72, ?_⟩
                try have rpr := r_RG.2.2.2.1
                try have rsi := r_RG.1
                try have rrg := r_RG.2.1
                try have rml := RG_ml (r := l4) r_RG (by have := rs_94_18 hV; omega) (by have := rs_94_64 hV; omega)
                try have rml2 := RG_ml (r := l2) r_RG (by have := rs_94_18 hV; omega) (by have := rs_94_64 hV; omega)
                first | have f74 : 0 ≤ (m 102 (m 111 l5.toNatClampNeg).toNatClampNeg).toInt ∧ (m 102 (m 111 l5.toNatClampNeg).toNatClampNeg).toInt ≤ 60 := ra_102 (m := m) hV (k := (m 111 l5.toNatClampNeg).toNatClampNeg) (i_ix (n := 3100) (by omega) (by omega)).2 | have b75 := i_bd (m 102 (m 111 l5.toNatClampNeg).toNatClampNeg)
                first | have e76 : ((m 102 (m 111 l5.toNatClampNeg).toNatClampNeg) + (1 : Int32)).toInt = (m 102 (m 111 l5.toNatClampNeg).toNatClampNeg).toInt + (1) := i_addk rfl (by omega) (by omega) | have b77 := i_bd ((m 102 (m 111 l5.toNatClampNeg).toNatClampNeg) + (1 : Int32))
                first | have e78 : ((m 116 v10.toNatClampNeg) + ((m 102 (m 111 l5.toNatClampNeg).toNatClampNeg) + (1 : Int32))).toInt = (m 116 v10.toNatClampNeg).toInt + ((m 102 (m 111 l5.toNatClampNeg).toNatClampNeg) + (1 : Int32)).toInt := i_add (by omega) (by omega) | have b79 := i_bd ((m 116 v10.toNatClampNeg) + ((m 102 (m 111 l5.toNatClampNeg).toNatClampNeg) + (1 : Int32)))
                have hV73 : zV (ma_u (zov wr_205 (zov wr_234 m m9) m11) 116 v10.toNatClampNeg ((m 116 v10.toNatClampNeg) + ((m 102 (m 111 l5.toNatClampNeg).toNatClampNeg) + (1 : Int32)))) := ua_116 hV_m11 (by omega) (by omega)
                have b80 := i_bd l1
                have b81 := i_bd l4
                first | have e82 : (l5 + ((m 102 (m 111 l5.toNatClampNeg).toNatClampNeg) + (1 : Int32))).toInt = l5.toInt + ((m 102 (m 111 l5.toNatClampNeg).toNatClampNeg) + (1 : Int32)).toInt := i_add (by omega) (by omega) | have b83 := i_bd (l5 + ((m 102 (m 111 l5.toNatClampNeg).toNatClampNeg) + (1 : Int32)))
                exact IH (l6.toInt - (l5 + ((m 102 (m 111 l5.toNatClampNeg).toNatClampNeg) + (1 : Int32))).toInt).toNat (by omega) _ (l1) (v10) (l3) (l4) ((l5 + ((m 102 (m 111 l5.toNatClampNeg).toNatClampNeg) + (1 : Int32)))) (l6) rfl (zF_u (zF_zov (zF_zov hF ws_234_235) ws_205_235) rfl) hV73 (by omega) (by omega) (show -1 ≤ v10.toInt ∧ v10.toInt < (m 94 64).toInt from by omega) (by omega) (show l4.toInt < (m 94 64).toInt from by omega) (by omega) (by omega) (by omega) r_MD r_W r_GW r_GU p0_m11 r_DX (show zRG1 (m 94 18) (m 94 64) (m 94 63) (m 99) (m11 103) (m 102) ((ma_u m 116 v10.toNatClampNeg ((m 116 v10.toNatClampNeg) + ((m 102 (m 111 l5.toNatClampNeg).toNatClampNeg) + (1 : Int32)))) 116) from by first | (exact RG_put (RG_mv2 r_RG p1_m11 (by omega)) (by omega)) | (exact RG_put r_RG (by omega)) | (exfalso; omega; done) | (exfalso; contradiction; done)) (show (m 94 10).toInt = 6 from by omega) r_WD
            · skip
              have g84 := i_nle h49
              try have rpr := r_RG.2.2.2.1
              try have rsi := r_RG.1
              try have rrg := r_RG.2.1
              try have rml := RG_ml (r := l4) r_RG (by have := rs_94_18 hV; omega) (by have := rs_94_64 hV; omega)
              try have rml2 := RG_ml (r := l2) r_RG (by have := rs_94_18 hV; omega) (by have := rs_94_64 hV; omega)
              have b85 := i_bd l1
              have b86 := i_bd l4
              first | have f87 : 0 ≤ (m 102 (m 111 l5.toNatClampNeg).toNatClampNeg).toInt ∧ (m 102 (m 111 l5.toNatClampNeg).toNatClampNeg).toInt ≤ 60 := ra_102 (m := m) hV (k := (m 111 l5.toNatClampNeg).toNatClampNeg) (i_ix (n := 3100) (by omega) (by omega)).2 | have b88 := i_bd (m 102 (m 111 l5.toNatClampNeg).toNatClampNeg)
              first | have e89 : ((m 102 (m 111 l5.toNatClampNeg).toNatClampNeg) + (1 : Int32)).toInt = (m 102 (m 111 l5.toNatClampNeg).toNatClampNeg).toInt + (1) := i_addk rfl (by omega) (by omega) | have b90 := i_bd ((m 102 (m 111 l5.toNatClampNeg).toNatClampNeg) + (1 : Int32))
              first | have e91 : (l5 + ((m 102 (m 111 l5.toNatClampNeg).toNatClampNeg) + (1 : Int32))).toInt = l5.toInt + ((m 102 (m 111 l5.toNatClampNeg).toNatClampNeg) + (1 : Int32)).toInt := i_add (by omega) (by omega) | have b92 := i_bd (l5 + ((m 102 (m 111 l5.toNatClampNeg).toNatClampNeg) + (1 : Int32)))
              exact IH (l6.toInt - (l5 + ((m 102 (m 111 l5.toNatClampNeg).toNatClampNeg) + (1 : Int32))).toInt).toNat (by omega) _ (l1) (l2) ((0 : Int32)) (l4) ((l5 + ((m 102 (m 111 l5.toNatClampNeg).toNatClampNeg) + (1 : Int32)))) (l6) rfl (zF_zov hF ws_234_235) hV_m9 (by omega) (by omega) (show -1 ≤ l2.toInt ∧ l2.toInt < (m 94 64).toInt from by omega) (by omega) (show l4.toInt < (m 94 64).toInt from by omega) (by omega) (by omega) (by omega) r_MD r_W r_GW r_GU r_OW r_DX r_RG (show (m 94 10).toInt = 6 from by omega) r_WD
          · skip
            have g93 := i_nlt h46
            try have rpr := r_RG.2.2.2.1
            try have rsi := r_RG.1
            try have rrg := r_RG.2.1
            try have rml := RG_ml (r := l4) r_RG (by have := rs_94_18 hV; omega) (by have := rs_94_64 hV; omega)
            try have rml2 := RG_ml (r := l2) r_RG (by have := rs_94_18 hV; omega) (by have := rs_94_64 hV; omega)
            have hg94 : (0 ≤ l2 ∧ l2.toNatClampNeg < 128) := i_ix (by omega) (by omega)
            refine ⟨hg94, ?_⟩
            try have ow5 := r_OW l5.toNatClampNeg (by omega) (by omega)
            try have ra5 := RG_at r_RG (s := (m 111 l5.toNatClampNeg).toNatClampNeg) (by omega) ow5.1
            have hg95 : (0 ≤ (m 111 l5.toNatClampNeg) ∧ (m 111 l5.toNatClampNeg).toNatClampNeg < 3100) := i_ix (by omega) (by omega)
            refine ⟨hg95, ?_⟩
            first | have f96 : 0 ≤ (m 116 l2.toNatClampNeg).toInt ∧ (m 116 l2.toNatClampNeg).toInt ≤ 4600 := ra_116 (m := m) hV (k := l2.toNatClampNeg) (i_ix (n := 128) (by omega) (by omega)).2 | have b97 := i_bd (m 116 l2.toNatClampNeg)
            first | have f98 : 0 ≤ (m 102 (m 111 l5.toNatClampNeg).toNatClampNeg).toInt ∧ (m 102 (m 111 l5.toNatClampNeg).toNatClampNeg).toInt ≤ 60 := ra_102 (m := m) hV (k := (m 111 l5.toNatClampNeg).toNatClampNeg) (i_ix (n := 3100) (by omega) (by omega)).2 | have b99 := i_bd (m 102 (m 111 l5.toNatClampNeg).toNatClampNeg)
            first | have e100 : ((m 102 (m 111 l5.toNatClampNeg).toNatClampNeg) + (1 : Int32)).toInt = (m 102 (m 111 l5.toNatClampNeg).toNatClampNeg).toInt + (1) := i_addk rfl (by omega) (by omega) | have b101 := i_bd ((m 102 (m 111 l5.toNatClampNeg).toNatClampNeg) + (1 : Int32))
            first | have e102 : ((m 116 l2.toNatClampNeg) + ((m 102 (m 111 l5.toNatClampNeg).toNatClampNeg) + (1 : Int32))).toInt = (m 116 l2.toNatClampNeg).toInt + ((m 102 (m 111 l5.toNatClampNeg).toNatClampNeg) + (1 : Int32)).toInt := i_add (by omega) (by omega) | have b103 := i_bd ((m 116 l2.toNatClampNeg) + ((m 102 (m 111 l5.toNatClampNeg).toNatClampNeg) + (1 : Int32)))
            have f104 : 0 ≤ (m 94 18).toInt ∧ (m 94 18).toInt ≤ 256 := rs_94_18 (m := m) hV
            refine zd (fun (h105 : ((m 116 l2.toNatClampNeg) + ((m 102 (m 111 l5.toNatClampNeg).toNatClampNeg) + (1 : Int32))) ≤ (m 94 18)) => ?_) (fun (h105 : ¬ ((m 116 l2.toNatClampNeg) + ((m 102 (m 111 l5.toNatClampNeg).toNatClampNeg) + (1 : Int32))) ≤ (m 94 18)) => ?_)
            · skip
              have g106 := i_le h105
              refine zd (fun (h107 : l3 = (0 : Int32)) => ?_) (fun (h107 : ¬ l3 = (0 : Int32)) => ?_)
              · skip
                have g108 := i_eq h107
                try have rpr := r_RG.2.2.2.1
                try have rsi := r_RG.1
                try have rrg := r_RG.2.1
                try have rml := RG_ml (r := l4) r_RG (by have := rs_94_18 hV; omega) (by have := rs_94_64 hV; omega)
                try have rml2 := RG_ml (r := l2) r_RG (by have := rs_94_18 hV; omega) (by have := rs_94_64 hV; omega)
                have b109 := i_bd l1
                have b110 := i_bd l4
                first | have e111 : (l5 + ((m 102 (m 111 l5.toNatClampNeg).toNatClampNeg) + (1 : Int32))).toInt = l5.toInt + ((m 102 (m 111 l5.toNatClampNeg).toNatClampNeg) + (1 : Int32)).toInt := i_add (by omega) (by omega) | have b112 := i_bd (l5 + ((m 102 (m 111 l5.toNatClampNeg).toNatClampNeg) + (1 : Int32)))
                exact IH (l6.toInt - (l5 + ((m 102 (m 111 l5.toNatClampNeg).toNatClampNeg) + (1 : Int32))).toInt).toNat (by omega) _ (l1) (l2) (l3) (l4) ((l5 + ((m 102 (m 111 l5.toNatClampNeg).toNatClampNeg) + (1 : Int32)))) (l6) rfl hF hV (by omega) (by omega) (show -1 ≤ l2.toInt ∧ l2.toInt < (m 94 64).toInt from by omega) (by omega) (show l4.toInt < (m 94 64).toInt from by omega) (by omega) (by omega) (by omega) r_MD r_W r_GW r_GU r_OW r_DX r_RG (show (m 94 10).toInt = 6 from by omega) r_WD
              · skip
                have g113 := i_ne h107
                try have rpr := r_RG.2.2.2.1
                try have rsi := r_RG.1
                try have rrg := r_RG.2.1
                try have rml := RG_ml (r := l4) r_RG (by have := rs_94_18 hV; omega) (by have := rs_94_64 hV; omega)
                try have rml2 := RG_ml (r := l2) r_RG (by have := rs_94_18 hV; omega) (by have := rs_94_64 hV; omega)
                have hg114 : (0 ≤ l2 ∧ l2.toNatClampNeg < 128) := i_ix (by omega) (by omega)
                refine ⟨hg114, ?_⟩
                first | have f115 := i_muln (x := l2) (y := (m 94 18)) (by omega) (by omega) (by omega) (by omega) | have b116 := i_bd (l2 * (m 94 18))
                first | have e117 : ((l2 * (m 94 18)) + (m 116 l2.toNatClampNeg)).toInt = (l2 * (m 94 18)).toInt + (m 116 l2.toNatClampNeg).toInt := i_add (by omega) (by omega) | have b118 := i_bd ((l2 * (m 94 18)) + (m 116 l2.toNatClampNeg))
                refine sp_205 ((m 111 l5.toNatClampNeg)) (((l2 * (m 94 18)) + (m 116 l2.toNatClampNeg))) hV (by omega) (by omega) (by omega) (by omega) (show (m 99) (m 111 l5.toNatClampNeg).toNatClampNeg ≠ 0 from by first | (assumption; done) | (exact ow5.1) | (exfalso; omega; done) | (exfalso; contradiction; done)) r_OW (fun m13 hV_m13 p0_m13 p1_m13 => zmv_n ?_)
                have p0_m13 : zOw (m 99) (m13 103) (m13 111) := p0_m13
                have p1_m13 : zmov (m 111 l5.toNatClampNeg) ((l2 * (m 94 18)) + (m 116 l2.toNatClampNeg)) (m 103) (m 111) (m13 103) (m13 111) := p1_m13
                try have rpr := r_RG.2.2.2.1
                try have rsi := r_RG.1
                try have rrg := r_RG.2.1
                try have rml := RG_ml (r := l4) r_RG (by have := rs_94_18 hV; omega) (by have := rs_94_64 hV; omega)
                try have rml2 := RG_ml (r := l2) r_RG (by have := rs_94_18 hV; omega) (by have := rs_94_64 hV; omega)
                have hg119 : (0 ≤ l2 ∧ l2.toNatClampNeg < 128) := i_ix (by omega) (by omega)
                refine ⟨hg119, ?_⟩
                try have ow5 := p0_m13 l5.toNatClampNeg (by omega) (by omega)
                try have ra5 := RG_at r_RG (s := (m 111 l5.toNatClampNeg).toNatClampNeg) (by omega) ow5.1
                have hg120 : (0 ≤ (m 111 l5.toNatClampNeg) ∧ (m 111 l5.toNatClampNeg).toNatClampNeg < 3100) := i_ix (by omega) (by omega)
                refine ⟨hg120, ?_⟩
                try have rpr := r_RG.2.2.2.1
                try have rsi := r_RG.1
                try have rrg := r_RG.2.1
                try have rml := RG_ml (r := l4) r_RG (by have := rs_94_18 hV; omega) (by have := rs_94_64 hV; omega)
                try have rml2 := RG_ml (r := l2) r_RG (by have := rs_94_18 hV; omega) (by have := rs_94_64 hV; omega)
                have hg121 : (0 ≤ l2 ∧ l2.toNatClampNeg < 128) := i_ix (by omega) (by omega)
                refine ⟨hg121, ?_⟩
                try have rpr := r_RG.2.2.2.1
                try have rsi := r_RG.1
                try have rrg := r_RG.2.1
                try have rml := RG_ml (r := l4) r_RG (by have := rs_94_18 hV; omega) (by have := rs_94_64 hV; omega)
                try have rml2 := RG_ml (r := l2) r_RG (by have := rs_94_18 hV; omega) (by have := rs_94_64 hV; omega)
                have hV122 : zV (ma_u (zov wr_205 m m13) 116 l2.toNatClampNeg ((m 116 l2.toNatClampNeg) + ((m 102 (m 111 l5.toNatClampNeg).toNatClampNeg) + (1 : Int32)))) := ua_116 hV_m13 (by omega) (by omega)
                have b123 := i_bd l1
                have b124 := i_bd l4
                first | have e125 : (l5 + ((m 102 (m 111 l5.toNatClampNeg).toNatClampNeg) + (1 : Int32))).toInt = l5.toInt + ((m 102 (m 111 l5.toNatClampNeg).toNatClampNeg) + (1 : Int32)).toInt := i_add (by omega) (by omega) | have b126 := i_bd (l5 + ((m 102 (m 111 l5.toNatClampNeg).toNatClampNeg) + (1 : Int32)))
                exact IH (l6.toInt - (l5 + ((m 102 (m 111 l5.toNatClampNeg).toNatClampNeg) + (1 : Int32))).toInt).toNat (by omega) _ (l1) (l2) (l3) (l4) ((l5 + ((m 102 (m 111 l5.toNatClampNeg).toNatClampNeg) + (1 : Int32)))) (l6) rfl (zF_u (zF_zov hF ws_205_235) rfl) hV122 (by omega) (by omega) (show -1 ≤ l2.toInt ∧ l2.toInt < (m 94 64).toInt from by omega) (by omega) (show l4.toInt < (m 94 64).toInt from by omega) (by omega) (by omega) (by omega) r_MD r_W r_GW r_GU p0_m13 r_DX (show zRG1 (m 94 18) (m 94 64) (m 94 63) (m 99) (m13 103) (m 102) ((ma_u m 116 l2.toNatClampNeg ((m 116 l2.toNatClampNeg) + ((m 102 (m 111 l5.toNatClampNeg).toNatClampNeg) + (1 : Int32)))) 116) from by first | (exact RG_put (RG_mv2 r_RG p1_m13 (by omega)) (by omega)) | (exact RG_put r_RG (by omega)) | (exfalso; omega; done) | (exfalso; contradiction; done)) (show (m 94 10).toInt = 6 from by omega) r_WD
            · skip
              have g127 := i_nle h105
              refine sp_234  hV  (fun v16 m15 hV_m15 p0_m15 => zmi_n ?_)
              have p0_m15 : zLE (m 116) (m 94 64) v16 := p0_m15
              try have lel := LE_lo p0_m15
              try have lno := LE_no (pr := m 94 63) p0_m15 (by assumption) (by omega) (by omega)
              try have lrg := RG_LE r_RG p0_m15 (by have := rs_94_18 hV; omega) (by have := rs_94_64 hV; omega)
              have b128 := i_bd v16
              refine zd (fun (h129 : (0 : Int32) ≤ v16) => ?_) (fun (h129 : ¬ (0 : Int32) ≤ v16) => ?_)
              · skip
                have g130 := i_le h129
                refine zd (fun (h131 : l3 = (0 : Int32)) => ?_) (fun (h131 : ¬ l3 = (0 : Int32)) => ?_)
                · skip
                  have g132 := i_eq h131
                  try have rpr := r_RG.2.2.2.1
                  try have rsi := r_RG.1
                  try have rrg := r_RG.2.1
                  try have rml := RG_ml (r := l4) r_RG (by have := rs_94_18 hV; omega) (by have := rs_94_64 hV; omega)
                  try have rml2 := RG_ml (r := l2) r_RG (by have := rs_94_18 hV; omega) (by have := rs_94_64 hV; omega)
                  have b133 := i_bd l1
                  have b134 := i_bd l4
                  first | have e135 : (l5 + ((m 102 (m 111 l5.toNatClampNeg).toNatClampNeg) + (1 : Int32))).toInt = l5.toInt + ((m 102 (m 111 l5.toNatClampNeg).toNatClampNeg) + (1 : Int32)).toInt := i_add (by omega) (by omega) | have b136 := i_bd (l5 + ((m 102 (m 111 l5.toNatClampNeg).toNatClampNeg) + (1 : Int32)))
                  exact IH (l6.toInt - (l5 + ((m 102 (m 111 l5.toNatClampNeg).toNatClampNeg) + (1 : Int32))).toInt).toNat (by omega) _ (l1) (v16) (l3) (l4) ((l5 + ((m 102 (m 111 l5.toNatClampNeg).toNatClampNeg) + (1 : Int32)))) (l6) rfl (zF_zov hF ws_234_235) hV_m15 (by omega) (by omega) (show -1 ≤ v16.toInt ∧ v16.toInt < (m 94 64).toInt from by omega) (by omega) (show l4.toInt < (m 94 64).toInt from by omega) (by omega) (by omega) (by omega) r_MD r_W r_GW r_GU r_OW r_DX r_RG (show (m 94 10).toInt = 6 from by omega) r_WD
                · skip
                  have g137 := i_ne h131
                  try have rpr := r_RG.2.2.2.1
                  try have rsi := r_RG.1
                  try have rrg := r_RG.2.1
                  try have rml := RG_ml (r := l4) r_RG (by have := rs_94_18 hV; omega) (by have := rs_94_64 hV; omega)
                  try have rml2 := RG_ml (r := l2) r_RG (by have := rs_94_18 hV; omega) (by have := rs_94_64 hV; omega)
                  have hg138 : (0 ≤ v16 ∧ v16.toNatClampNeg < 128) := i_ix (by omega) (by omega)
                  refine ⟨hg138, ?_⟩
                  first | have f139 := i_muln (x := v16) (y := (m 94 18)) (by omega) (by omega) (by omega) (by omega) | have b140 := i_bd (v16 * (m 94 18))
                  first | have f141 : 0 ≤ (m 116 v16.toNatClampNeg).toInt ∧ (m 116 v16.toNatClampNeg).toInt ≤ 4600 := ra_116 (m := m) hV (k := v16.toNatClampNeg) (i_ix (n := 128) (by omega) (by omega)).2 | have b142 := i_bd (m 116 v16.toNatClampNeg)
                  first | have e143 : ((v16 * (m 94 18)) + (m 116 v16.toNatClampNeg)).toInt = (v16 * (m 94 18)).toInt + (m 116 v16.toNatClampNeg).toInt := i_add (by omega) (by omega) | have b144 := i_bd ((v16 * (m 94 18)) + (m 116 v16.toNatClampNeg))
                  refine sp_205 ((m 111 l5.toNatClampNeg)) (((v16 * (m 94 18)) + (m 116 v16.toNatClampNeg))) hV_m15 (by omega) (by omega) (by omega) (by omega) (show (m 99) (m 111 l5.toNatClampNeg).toNatClampNeg ≠ 0 from by first | (assumption; done) | (exact ow5.1) | (exfalso; omega; done) | (exfalso; contradiction; done)) r_OW (fun m17 hV_m17 p0_m17 p1_m17 => zmv_n ?_)
                  have p0_m17 : zOw (m 99) (m17 103) (m17 111) := p0_m17
                  have p1_m17 : zmov (m 111 l5.toNatClampNeg) ((v16 * (m 94 18)) + (m 116 v16.toNatClampNeg)) (m 103) (m 111) (m17 103) (m17 111) := p1_m17
                  try have rpr := r_RG.2.2.2.1
                  try have rsi := r_RG.1
                  try have rrg := r_RG.2.1
                  try have rml := RG_ml (r := l4) r_RG (by have := rs_94_18 hV; omega) (by have := rs_94_64 hV; omega)
                  try have rml2 := RG_ml (r := l2) r_RG (by have := rs_94_18 hV; omega) (by have := rs_94_64 hV; omega)
                  have hg145 : (0 ≤ v16 ∧ v16.toNatClampNeg < 128) := i_ix (by omega) (by omega)
                  refine ⟨hg145, ?_⟩
                  try have ow5 := p0_m17 l5.toNatClampNeg (by omega) (by omega)
                  try have ra5 := RG_at r_RG (s := (m 111 l5.toNatClampNeg).toNatClampNeg) (by omega) ow5.1
                  have hg146 : (0 ≤ (m 111 l5.toNatClampNeg) ∧ (m 111 l5.toNatClampNeg).toNatClampNeg < 3100) := i_ix (by omega) (by omega)
                  refine ⟨hg146, ?_⟩
                  try have rpr := r_RG.2.2.2.1
                  try have rsi := r_RG.1
                  try have rrg := r_RG.2.1
                  try have rml := RG_ml (r := l4) r_RG (by have := rs_94_18 hV; omega) (by have := rs_94_64 hV; omega)
                  try have rml2 := RG_ml (r := l2) r_RG (by have := rs_94_18 hV; omega) (by have := rs_94_64 hV; omega)
                  have hg147 : (0 ≤ v16 ∧ v16.toNatClampNeg < 128) := i_ix (by omega) (by omega)
                  refine ⟨hg147, ?_⟩
                  try have rpr := r_RG.2.2.2.1
                  try have rsi := r_RG.1
                  try have rrg := r_RG.2.1
                  try have rml := RG_ml (r := l4) r_RG (by have := rs_94_18 hV; omega) (by have := rs_94_64 hV; omega)
                  try have rml2 := RG_ml (r := l2) r_RG (by have := rs_94_18 hV; omega) (by have := rs_94_64 hV; omega)
                  first | have e149 : ((m 116 v16.toNatClampNeg) + ((m 102 (m 111 l5.toNatClampNeg).toNatClampNeg) + (1 : Int32))).toInt = (m 116 v16.toNatClampNeg).toInt + ((m 102 (m 111 l5.toNatClampNeg).toNatClampNeg) + (1 : Int32)).toInt := i_add (by omega) (by omega) | have b150 := i_bd ((m 116 v16.toNatClampNeg) + ((m 102 (m 111 l5.toNatClampNeg).toNatClampNeg) + (1 : Int32)))
                  have hV148 : zV (ma_u (zov wr_205 (zov wr_234 m m15) m17) 116 v16.toNatClampNeg ((m 116 v16.toNatClampNeg) + ((m 102 (m 111 l5.toNatClampNeg).toNatClampNeg) + (1 : Int32)))) := ua_116 hV_m17 (by omega) (by omega)
                  have b151 := i_bd l1
                  have b152 := i_bd l4
                  first | have e153 : (l5 + ((m 102 (m 111 l5.toNatClampNeg).toNatClampNeg) + (1 : Int32))).toInt = l5.toInt + ((m 102 (m 111 l5.toNatClampNeg).toNatClampNeg) + (1 : Int32)).toInt := i_add (by omega) (by omega) | have b154 := i_bd (l5 + ((m 102 (m 111 l5.toNatClampNeg).toNatClampNeg) + (1 : Int32)))
                  exact IH (l6.toInt - (l5 + ((m 102 (m 111 l5.toNatClampNeg).toNatClampNeg) + (1 : Int32))).toInt).toNat (by omega) _ (l1) (v16) (l3) (l4) ((l5 + ((m 102 (m 111 l5.toNatClampNeg).toNatClampNeg) + (1 : Int32)))) (l6) rfl (zF_u (zF_zov (zF_zov hF ws_234_235) ws_205_235) rfl) hV148 (by omega) (by omega) (show -1 ≤ v16.toInt ∧ v16.toInt < (m 94 64).toInt from by omega) (by omega) (show l4.toInt < (m 94 64).toInt from by omega) (by omega) (by omega) (by omega) r_MD r_W r_GW r_GU p0_m17 r_DX (show zRG1 (m 94 18) (m 94 64) (m 94 63) (m 99) (m17 103) (m 102) ((ma_u m 116 v16.toNatClampNeg ((m 116 v16.toNatClampNeg) + ((m 102 (m 111 l5.toNatClampNeg).toNatClampNeg) + (1 : Int32)))) 116) from by first | (exact RG_put (RG_mv2 r_RG p1_m17 (by omega)) (by omega)) | (exact RG_put r_RG (by omega)) | (exfalso; omega; done) | (exfalso; contradiction; done)) (show (m 94 10).toInt = 6 from by omega) r_WD
              · skip
                have g155 := i_nle h129
                try have rpr := r_RG.2.2.2.1
                try have rsi := r_RG.1
                try have rrg := r_RG.2.1
                try have rml := RG_ml (r := l4) r_RG (by have := rs_94_18 hV; omega) (by have := rs_94_64 hV; omega)
                try have rml2 := RG_ml (r := l2) r_RG (by have := rs_94_18 hV; omega) (by have := rs_94_64 hV; omega)
                have b156 := i_bd l1
                have b157 := i_bd l4
                first | have e158 : (l5 + ((m 102 (m 111 l5.toNatClampNeg).toNatClampNeg) + (1 : Int32))).toInt = l5.toInt + ((m 102 (m 111 l5.toNatClampNeg).toNatClampNeg) + (1 : Int32)).toInt := i_add (by omega) (by omega) | have b159 := i_bd (l5 + ((m 102 (m 111 l5.toNatClampNeg).toNatClampNeg) + (1 : Int32)))
                exact IH (l6.toInt - (l5 + ((m 102 (m 111 l5.toNatClampNeg).toNatClampNeg) + (1 : Int32))).toInt).toNat (by omega) _ (l1) (l2) ((0 : Int32)) (l4) ((l5 + ((m 102 (m 111 l5.toNatClampNeg).toNatClampNeg) + (1 : Int32)))) (l6) rfl (zF_zov hF ws_234_235) hV_m15 (by omega) (by omega) (show -1 ≤ l2.toInt ∧ l2.toInt < (m 94 64).toInt from by omega) (by omega) (show l4.toInt < (m 94 64).toInt from by omega) (by omega) (by omega) (by omega) r_MD r_W r_GW r_GU r_OW r_DX r_RG (show (m 94 10).toInt = 6 from by omega) r_WD
        · skip
          have g160 := i_nle h42
          try have rpr := r_RG.2.2.2.1
          try have rsi := r_RG.1
          try have rrg := r_RG.2.1
          try have rml := RG_ml (r := l4) r_RG (by have := rs_94_18 hV; omega) (by have := rs_94_64 hV; omega)
          try have rml2 := RG_ml (r := l2) r_RG (by have := rs_94_18 hV; omega) (by have := rs_94_64 hV; omega)
          have b161 := i_bd l1
          have b162 := i_bd l2
          have b163 := i_bd l4
          first | have e164 : (l5 + (1 : Int32)).toInt = l5.toInt + (1) := i_addk rfl (by omega) (by omega) | have b165 := i_bd (l5 + (1 : Int32))
          exact IH (l6.toInt - (l5 + (1 : Int32)).toInt).toNat (by omega) _ (l1) (l2) (l3) (l4) ((l5 + (1 : Int32))) (l6) rfl hF hV (by omega) (by omega) (show -1 ≤ l2.toInt ∧ l2.toInt < (m 94 64).toInt from by omega) (by omega) (show l4.toInt < (m 94 64).toInt from by omega) (by omega) (by omega) (by omega) r_MD r_W r_GW r_GU r_OW r_DX r_RG (show (m 94 10).toInt = 6 from by omega) r_WD
theorem lp_235aw_161 {X : Nat × (Nat → Int32)} {P : Option ma_V → (Nat → Nat → Int32) → Prop} {T : Nat} {m0 : Nat → Nat → Int32} (h0 : zV m0) (K : ∀ v m₉, zF wr_235 m0 m₉ → zV m₉ → (zGW T (m₉ 94 55) (m₉ 109)) → (zGU T (m₉ 94 46) (m₉ 99)) → (zOw (m₉ 99) (m₉ 103) (m₉ 111)) → (zDX (m₉ 94 10) (m₉ 99) (m₉ 112) (m₉ 113) (m₉ 114) (m₉ 94 55) (m₉ 98) (m₉ 101) (m₉ 102) (m₉ 108)) → (zRG1 (m₉ 94 18) (m₉ 94 64) (m₉ 94 63) (m₉ 99) (m₉ 103) (m₉ 102) (m₉ 116)) → (v + (m₉ 94 45) = (m0 94 45)) → P (some (.inl v)) m₉) : ∀ (n : Nat) (m : Nat → Nat → Int32) (l1 : Int32) (l2 : Int32) (l3 : Int32) (l4 : Int32), (((128 - cnt (m 124) 128 : Nat) : Int)).toNat = n → zF wr_235 m0 m → zV m → (0 ≤ l3.toInt) → (l3.toInt ≤ 1) → (-1 ≤ l2.toInt ∧ l2.toInt < (m 94 64).toInt) → (l4.toInt = -1 ∨ (0 ≤ l4.toInt ∧ l4.toInt < (m 94 64).toInt ∧ (m 124) l4.toNatClampNeg = 0)) → (zW (m 94 7) (m 98) (m 101) (m 102) (m 108)) → (zGW T (m 94 55) (m 109)) → (zGU T (m 94 46) (m 99)) → (zOw (m 99) (m 103) (m 111)) → (zDX (m 94 10) (m 99) (m 112) (m 113) (m 114) (m 94 55) (m 98) (m 101) (m 102) (m 108)) → (zRG1 (m 94 18) (m 94 64) (m 94 63) (m 99) (m 103) (m 102) (m 116)) → ((m 94 10).toInt = 6) → (l1 + (m 94 45) = (m0 94 45)) → zm X 5 108 235 161 [(0, .inr (.inr (some 94))), (1, .inl l1), (2, .inl l2), (3, .inl l3), (4, .inl l4)] m P := by
  intro n
  induction n using Nat.strongRecOn with
  | _ n IH =>
    intro m l1 l2 l3 l4 hmu hF hV hi0 hi1 hi2 r_SP r_W r_GW r_GU r_OW r_DX r_RG hi10 r_WD
    refine g_235_161 l1 l2 l3 l4 ?_
    have f1 : 0 ≤ (m 94 64).toInt ∧ (m 94 64).toInt ≤ 93 := rs_94_64 (m := m) hV
    have f2 : 0 ≤ (m 94 10).toInt ∧ (m 94 10).toInt ≤ 6 := rs_94_10 (m := m) hV
    have b3 := i_bd l4
    have li4 : (0 : Int32).toInt = 0 := rfl
    refine zd (fun (h5 : l4 < (0 : Int32)) => ?_) (fun (h5 : ¬ l4 < (0 : Int32)) => ?_)
    · skip
      have g6 := i_lt h5
      have b7 := i_bd l2
      refine zd (fun (h8 : l2 < (0 : Int32)) => ?_) (fun (h8 : ¬ l2 < (0 : Int32)) => ?_)
      · skip
        have g9 := i_lt h8
        have f10 : 0 ≤ (m 94 63).toInt ∧ (m 94 63).toInt ≤ 127 := rs_94_63 (m := m) hV
        try have rpr := r_RG.2.2.2.1
        try have rsi := r_RG.1
        try have rrg := r_RG.2.1
        try have rml := RG_ml (r := l4) r_RG (by have := rs_94_18 hV; omega) (by have := rs_94_64 hV; omega)
        try have rml2 := RG_ml (r := l2) r_RG (by have := rs_94_18 hV; omega) (by have := rs_94_64 hV; omega)
        have hg11 : (0 ≤ (m 94 63) ∧ (m 94 63).toNatClampNeg < 128) := i_ix (by omega) (by omega)
        refine ⟨hg11, ?_⟩
        first | have f12 : 0 ≤ (m 116 (m 94 63).toNatClampNeg).toInt ∧ (m 116 (m 94 63).toNatClampNeg).toInt ≤ 4600 := ra_116 (m := m) hV (k := (m 94 63).toNatClampNeg) (i_ix (n := 128) (by omega) (by omega)).2 | have b13 := i_bd (m 116 (m 94 63).toNatClampNeg)
        refine zd (fun (h14 : (m 116 (m 94 63).toNatClampNeg) = (0 : Int32)) => ?_) (fun (h14 : ¬ (m 116 (m 94 63).toNatClampNeg) = (0 : Int32)) => ?_)
        · skip
          have g15 := i_eq h14
          refine sp_234  hV  (fun v2 m1 hV_m1 p0_m1 => zmi_n ?_)
          have p0_m1 : zLE (m 116) (m 94 64) v2 := p0_m1
          try have lel := LE_lo p0_m1
          try have lno := LE_no (pr := m 94 63) p0_m1 (by assumption) (by omega) (by omega)
          try have lrg := RG_LE r_RG p0_m1 (by have := rs_94_18 hV; omega) (by have := rs_94_64 hV; omega)
          try have rpr := r_RG.2.2.2.1
          try have rsi := r_RG.1
          try have rrg := r_RG.2.1
          try have rml := RG_ml (r := l4) r_RG (by have := rs_94_18 hV; omega) (by have := rs_94_64 hV; omega)
          try have rml2 := RG_ml (r := l2) r_RG (by have := rs_94_18 hV; omega) (by have := rs_94_64 hV; omega)
          have b17 := i_bd v2
          have hV16 : zV (ma_u (zov wr_234 m m1) 94 63 v2) := us_94_63 hV_m1 (by omega) (by omega)
          have b18 := i_bd l1
          exact K (l1) _ (zF_u (zF_zov hF ws_234_235) rfl) hV16 r_GW r_GU r_OW r_DX (show zRG1 (m 94 18) (m 94 64) v2 (m 99) (m 103) (m 102) (m 116) from by first | (exact RG_pr r_RG (by omega) (by omega)) | (exact RG_pr r_RG (LE_no p0_m1 (by assumption) (by omega) (by omega)).1 (LE_no p0_m1 (by assumption) (by omega) (by omega)).2) | (exfalso; omega; done) | (exfalso; contradiction; done)) r_WD
        · skip
          have g19 := i_ne h14
          try have rpr := r_RG.2.2.2.1
          try have rsi := r_RG.1
          try have rrg := r_RG.2.1
          try have rml := RG_ml (r := l4) r_RG (by have := rs_94_18 hV; omega) (by have := rs_94_64 hV; omega)
          try have rml2 := RG_ml (r := l2) r_RG (by have := rs_94_18 hV; omega) (by have := rs_94_64 hV; omega)
          have b20 := i_bd l1
          exact K (l1) _ hF hV r_GW r_GU r_OW r_DX r_RG r_WD
      · skip
        have g21 := i_nlt h8
        try have rpr := r_RG.2.2.2.1
        try have rsi := r_RG.1
        try have rrg := r_RG.2.1
        try have rml := RG_ml (r := l4) r_RG (by have := rs_94_18 hV; omega) (by have := rs_94_64 hV; omega)
        try have rml2 := RG_ml (r := l2) r_RG (by have := rs_94_18 hV; omega) (by have := rs_94_64 hV; omega)
        have hV22 : zV (ma_u m 94 63 l2) := us_94_63 hV (by omega) (by omega)
        have b23 := i_bd l1
        exact K (l1) _ (zF_u hF rfl) hV22 r_GW r_GU r_OW r_DX (show zRG1 (m 94 18) (m 94 64) l2 (m 99) (m 103) (m 102) (m 116) from by first | (exact RG_pr r_RG (by omega) (by omega)) | (exfalso; omega; done) | (exfalso; contradiction; done)) r_WD
    · skip
      have g24 := i_nlt h5
      have b25 := i_bd l3
      refine zd (fun (h26 : l3 = (0 : Int32)) => ?_) (fun (h26 : ¬ l3 = (0 : Int32)) => ?_)
      · skip
        have g27 := i_eq h26
        have b28 := i_bd l2
        refine zd (fun (h29 : l2 < (0 : Int32)) => ?_) (fun (h29 : ¬ l2 < (0 : Int32)) => ?_)
        · skip
          have g30 := i_lt h29
          have f31 : 0 ≤ (m 94 63).toInt ∧ (m 94 63).toInt ≤ 127 := rs_94_63 (m := m) hV
          try have rpr := r_RG.2.2.2.1
          try have rsi := r_RG.1
          try have rrg := r_RG.2.1
          try have rml := RG_ml (r := l4) r_RG (by have := rs_94_18 hV; omega) (by have := rs_94_64 hV; omega)
          try have rml2 := RG_ml (r := l2) r_RG (by have := rs_94_18 hV; omega) (by have := rs_94_64 hV; omega)
          have hg32 : (0 ≤ (m 94 63) ∧ (m 94 63).toNatClampNeg < 128) := i_ix (by omega) (by omega)
          refine ⟨hg32, ?_⟩
          first | have f33 : 0 ≤ (m 116 (m 94 63).toNatClampNeg).toInt ∧ (m 116 (m 94 63).toNatClampNeg).toInt ≤ 4600 := ra_116 (m := m) hV (k := (m 94 63).toNatClampNeg) (i_ix (n := 128) (by omega) (by omega)).2 | have b34 := i_bd (m 116 (m 94 63).toNatClampNeg)
          refine zd (fun (h35 : (m 116 (m 94 63).toNatClampNeg) = (0 : Int32)) => ?_) (fun (h35 : ¬ (m 116 (m 94 63).toNatClampNeg) = (0 : Int32)) => ?_)
          · skip
            have g36 := i_eq h35
            refine sp_234  hV  (fun v4 m3 hV_m3 p0_m3 => zmi_n ?_)
            have p0_m3 : zLE (m 116) (m 94 64) v4 := p0_m3
            try have lel := LE_lo p0_m3
            try have lno := LE_no (pr := m 94 63) p0_m3 (by assumption) (by omega) (by omega)
            try have lrg := RG_LE r_RG p0_m3 (by have := rs_94_18 hV; omega) (by have := rs_94_64 hV; omega)
            try have rpr := r_RG.2.2.2.1
            try have rsi := r_RG.1
            try have rrg := r_RG.2.1
            try have rml := RG_ml (r := l4) r_RG (by have := rs_94_18 hV; omega) (by have := rs_94_64 hV; omega)
            try have rml2 := RG_ml (r := l2) r_RG (by have := rs_94_18 hV; omega) (by have := rs_94_64 hV; omega)
            have b38 := i_bd v4
            have hV37 : zV (ma_u (zov wr_234 m m3) 94 63 v4) := us_94_63 hV_m3 (by omega) (by omega)
            have b39 := i_bd l1
            exact K (l1) _ (zF_u (zF_zov hF ws_234_235) rfl) hV37 r_GW r_GU r_OW r_DX (show zRG1 (m 94 18) (m 94 64) v4 (m 99) (m 103) (m 102) (m 116) from by first | (exact RG_pr r_RG (by omega) (by omega)) | (exact RG_pr r_RG (LE_no p0_m3 (by assumption) (by omega) (by omega)).1 (LE_no p0_m3 (by assumption) (by omega) (by omega)).2) | (exfalso; omega; done) | (exfalso; contradiction; done)) r_WD
          · skip
            have g40 := i_ne h35
            try have rpr := r_RG.2.2.2.1
            try have rsi := r_RG.1
            try have rrg := r_RG.2.1
            try have rml := RG_ml (r := l4) r_RG (by have := rs_94_18 hV; omega) (by have := rs_94_64 hV; omega)
            try have rml2 := RG_ml (r := l2) r_RG (by have := rs_94_18 hV; omega) (by have := rs_94_64 hV; omega)
            have b41 := i_bd l1
            exact K (l1) _ hF hV r_GW r_GU r_OW r_DX r_RG r_WD
        · skip
          have g42 := i_nlt h29
          try have rpr := r_RG.2.2.2.1
          try have rsi := r_RG.1
          try have rrg := r_RG.2.1
          try have rml := RG_ml (r := l4) r_RG (by have := rs_94_18 hV; omega) (by have := rs_94_64 hV; omega)
          try have rml2 := RG_ml (r := l2) r_RG (by have := rs_94_18 hV; omega) (by have := rs_94_64 hV; omega)
          have hV43 : zV (ma_u m 94 63 l2) := us_94_63 hV (by omega) (by omega)
          have b44 := i_bd l1
          exact K (l1) _ (zF_u hF rfl) hV43 r_GW r_GU r_OW r_DX (show zRG1 (m 94 18) (m 94 64) l2 (m 99) (m 103) (m 102) (m 116) from by first | (exact RG_pr r_RG (by omega) (by omega)) | (exfalso; omega; done) | (exfalso; contradiction; done)) r_WD
      · skip
        have g45 := i_ne h26
        try have rpr := r_RG.2.2.2.1
        try have rsi := r_RG.1
        try have rrg := r_RG.2.1
        try have rml := RG_ml (r := l4) r_RG (by have := rs_94_18 hV; omega) (by have := rs_94_64 hV; omega)
        try have rml2 := RG_ml (r := l2) r_RG (by have := rs_94_18 hV; omega) (by have := rs_94_64 hV; omega)
        try have sp4 := r_SP
        have hg46 : (0 ≤ l4 ∧ l4.toNatClampNeg < 128) := i_ix (by omega) (by omega)
        refine ⟨hg46, ?_⟩
        try have rpr := r_RG.2.2.2.1
        try have rsi := r_RG.1
        try have rrg := r_RG.2.1
        try have rml := RG_ml (r := l4) r_RG (by have := rs_94_18 hV; omega) (by have := rs_94_64 hV; omega)
        try have rml2 := RG_ml (r := l2) r_RG (by have := rs_94_18 hV; omega) (by have := rs_94_64 hV; omega)
        have hg47 : (0 ≤ l4 ∧ l4.toNatClampNeg < 128) := i_ix (by omega) (by omega)
        refine ⟨hg47, ?_⟩
        try have rpr := r_RG.2.2.2.1
        try have rsi := r_RG.1
        try have rrg := r_RG.2.1
        try have rml := RG_ml (r := l4) r_RG (by have := rs_94_18 hV; omega) (by have := rs_94_64 hV; omega)
        try have rml2 := RG_ml (r := l2) r_RG (by have := rs_94_18 hV; omega) (by have := rs_94_64 hV; omega)
        have li49 : (1 : Int32).toInt = 1 := rfl
        have hV48 : zV (ma_u m 124 l4.toNatClampNeg (1 : Int32)) := ua_124 hV (by omega) (by omega)
        have b50 := i_bd l1
        have b51 := i_bd l2
        have f52 : 0 ≤ (m 94 18).toInt ∧ (m 94 18).toInt ≤ 256 := rs_94_18 (m := m) hV
        first | have f53 := i_muln (x := l4) (y := (m 94 18)) (by omega) (by omega) (by omega) (by omega) | have b54 := i_bd (l4 * (m 94 18))
        first | have f55 : 0 ≤ (m 116 l4.toNatClampNeg).toInt ∧ (m 116 l4.toNatClampNeg).toInt ≤ 4600 := ra_116 (m := m) hV (k := l4.toNatClampNeg) (i_ix (n := 128) (by omega) (by omega)).2 | have b56 := i_bd (m 116 l4.toNatClampNeg)
        first | have e57 : ((l4 * (m 94 18)) + (m 116 l4.toNatClampNeg)).toInt = (l4 * (m 94 18)).toInt + (m 116 l4.toNatClampNeg).toInt := i_add (by omega) (by omega) | have b58 := i_bd ((l4 * (m 94 18)) + (m 116 l4.toNatClampNeg))
        exact lp_235aw_199 h0 K (fun _ _ _ _ _ z1 z2 z3 y0 y1 y2 y3 y4 y5 y6 y7 y8 y9 y10 y11 => IH _ z1 _ _ _ _ _ rfl z2 z3 y0 y1 y2 y3 y4 y5 y6 y7 y8 y9 y10 y11) _ _ (l1) (l2) (l3) (l4) ((l4 * (m 94 18))) (((l4 * (m 94 18)) + (m 116 l4.toNatClampNeg))) rfl (zF_u hF rfl) hV48 (by omega) (by omega) (show -1 ≤ l2.toInt ∧ l2.toInt < (m 94 64).toInt from by omega) (by omega) (show l4.toInt < (m 94 64).toInt from by omega) (by omega) (by omega) (by omega) (show 128 - cnt ((ma_u m 124 l4.toNatClampNeg (1 : Int32)) 124) 128 < n from by first | (have zq := dn_lt (m := m) (c := 124) (k := l4.toNatClampNeg) (n := 128) (x := (1 : Int32)) (by omega) (by rcases r_SP with z | z; omega; exact z.2.2) (by decide); omega; done) | (exfalso; omega; done) | (exfalso; contradiction; done)) r_W r_GW r_GU r_OW r_DX r_RG (show (m 94 10).toInt = 6 from by omega) r_WD
theorem lp_235aw_121 {X : Nat × (Nat → Int32)} {P : Option ma_V → (Nat → Nat → Int32) → Prop} {T : Nat} {m0 : Nat → Nat → Int32} (h0 : zV m0) (K : ∀ v m₉, zF wr_235 m0 m₉ → zV m₉ → (zGW T (m₉ 94 55) (m₉ 109)) → (zGU T (m₉ 94 46) (m₉ 99)) → (zOw (m₉ 99) (m₉ 103) (m₉ 111)) → (zDX (m₉ 94 10) (m₉ 99) (m₉ 112) (m₉ 113) (m₉ 114) (m₉ 94 55) (m₉ 98) (m₉ 101) (m₉ 102) (m₉ 108)) → (zRG1 (m₉ 94 18) (m₉ 94 64) (m₉ 94 63) (m₉ 99) (m₉ 103) (m₉ 102) (m₉ 116)) → (v + (m₉ 94 45) = (m0 94 45)) → P (some (.inl v)) m₉) : ∀ (n : Nat) (m : Nat → Nat → Int32) (l1 : Int32) (l2 : Int32), (128 - l2.toInt).toNat = n → zF wr_235 m0 m → zV m → (0 ≤ l2.toInt) → (zW (m 94 7) (m 98) (m 101) (m 102) (m 108)) → (zGW T (m 94 55) (m 109)) → (zGU T (m 94 46) (m 99)) → (zOw (m 99) (m 103) (m 111)) → (zDX (m 94 10) (m 99) (m 112) (m 113) (m 114) (m 94 55) (m 98) (m 101) (m 102) (m 108)) → (zRG1 (m 94 18) (m 94 64) (m 94 63) (m 99) (m 103) (m 102) (m 116)) → ((m 94 10).toInt = 6) → (l1 + (m 94 45) = (m0 94 45)) → zm X 5 108 235 121 [(0, .inr (.inr (some 94))), (1, .inl l1), (2, .inl l2)] m P := by
  intro n
  induction n using Nat.strongRecOn with
  | _ n IH =>
    intro m l1 l2 hmu hF hV hi0 r_W r_GW r_GU r_OW r_DX r_RG hi7 r_WD
    refine g_235_121 l1 l2 ?_
    have f1 : 0 ≤ (m 94 10).toInt ∧ (m 94 10).toInt ≤ 6 := rs_94_10 (m := m) hV
    have f2 : 0 ≤ (m 94 64).toInt ∧ (m 94 64).toInt ≤ 93 := rs_94_64 (m := m) hV
    have b3 := i_bd l2
    refine zd (fun (h4 : (m 94 64) ≤ l2) => ?_) (fun (h4 : ¬ (m 94 64) ≤ l2) => ?_)
    · skip
      have g5 := i_le h4
      refine sp_236  hV  (fun v2 m1 hV_m1 p0_m1 => zmi_n ?_)
      have p0_m1 : v2.toInt = -1 ∨ (0 ≤ v2.toInt ∧ v2.toInt < (m 94 64).toInt ∧ (m 124) v2.toNatClampNeg = 0) := p0_m1
      try have rpr := r_RG.2.2.2.1
      try have rsi := r_RG.1
      try have rrg := r_RG.2.1
      try have rml := RG_ml (r := l4) r_RG (by have := rs_94_18 hV; omega) (by have := rs_94_64 hV; omega)
      try have rml2 := RG_ml (r := l2) r_RG (by have := rs_94_18 hV; omega) (by have := rs_94_64 hV; omega)
      have b6 := i_bd l1
      have li7 : (-1 : Int32).toInt = -1 := rfl
      have li8 : (1 : Int32).toInt = 1 := rfl
      have b9 := i_bd v2
      exact lp_235aw_161 h0 K _ _ (l1) ((-1 : Int32)) ((1 : Int32)) (v2) rfl (zF_zov hF ws_236_235) hV_m1 (by omega) (by omega) (show -1 ≤ (-1 : Int32).toInt ∧ (-1 : Int32).toInt < (m 94 64).toInt from by omega) p0_m1 r_W r_GW r_GU r_OW r_DX r_RG (show (m 94 10).toInt = 6 from by omega) r_WD
    · skip
      have g10 := i_nle h4
      try have au := RG_at r_RG (s := l2.toNatClampNeg) (by omega) (by assumption)
      try have rsi := r_RG.1
      try have dv : 0 ≤ (l2).toInt ∧ (l2).toInt ≤ 93 := i_div16 (by omega) (by omega) (by omega)
      have hg11 : (0 ≤ l2 ∧ l2.toNatClampNeg < 128) := i_ix (by omega) (by omega)
      refine ⟨hg11, ?_⟩
      have b12 := i_bd (m 122 l2.toNatClampNeg)
      have li13 : (0 : Int32).toInt = 0 := rfl
      refine zd (fun (h14 : (m 122 l2.toNatClampNeg) = (0 : Int32)) => ?_) (fun (h14 : ¬ (m 122 l2.toNatClampNeg) = (0 : Int32)) => ?_)
      · skip
        have g15 := i_eq h14
        try have rpr := r_RG.2.2.2.1
        try have rsi := r_RG.1
        try have rrg := r_RG.2.1
        try have rml := RG_ml (r := l4) r_RG (by have := rs_94_18 hV; omega) (by have := rs_94_64 hV; omega)
        try have rml2 := RG_ml (r := l2) r_RG (by have := rs_94_18 hV; omega) (by have := rs_94_64 hV; omega)
        have hg16 : (0 ≤ l2 ∧ l2.toNatClampNeg < 128) := i_ix (by omega) (by omega)
        refine ⟨hg16, ?_⟩
        try have rpr := r_RG.2.2.2.1
        try have rsi := r_RG.1
        try have rrg := r_RG.2.1
        try have rml := RG_ml (r := l4) r_RG (by have := rs_94_18 hV; omega) (by have := rs_94_64 hV; omega)
        try have rml2 := RG_ml (r := l2) r_RG (by have := rs_94_18 hV; omega) (by have := rs_94_64 hV; omega)
        have hV17 : zV (ma_u m 116 l2.toNatClampNeg (0 : Int32)) := ua_116 hV (by omega) (by omega)
        have b18 := i_bd l1
        first | have e19 : (l2 + (1 : Int32)).toInt = l2.toInt + (1) := i_addk rfl (by omega) (by omega) | have b20 := i_bd (l2 + (1 : Int32))
        exact IH (128 - (l2 + (1 : Int32)).toInt).toNat (by omega) _ (l1) ((l2 + (1 : Int32))) rfl (zF_u hF rfl) hV17 (by omega) r_W r_GW r_GU r_OW r_DX (show zRG1 (m 94 18) (m 94 64) (m 94 63) (m 99) (m 103) (m 102) ((ma_u m 116 l2.toNatClampNeg (0 : Int32)) 116) from by first | (exact RG_put r_RG (by omega)) | (exfalso; omega; done) | (exfalso; contradiction; done)) (show (m 94 10).toInt = 6 from by omega) r_WD
      · skip
        have g21 := i_ne h14
        try have rpr := r_RG.2.2.2.1
        try have rsi := r_RG.1
        try have rrg := r_RG.2.1
        try have rml := RG_ml (r := l4) r_RG (by have := rs_94_18 hV; omega) (by have := rs_94_64 hV; omega)
        try have rml2 := RG_ml (r := l2) r_RG (by have := rs_94_18 hV; omega) (by have := rs_94_64 hV; omega)
        have b22 := i_bd l1
        first | have e23 : (l2 + (1 : Int32)).toInt = l2.toInt + (1) := i_addk rfl (by omega) (by omega) | have b24 := i_bd (l2 + (1 : Int32))
        exact IH (128 - (l2 + (1 : Int32)).toInt).toNat (by omega) _ (l1) ((l2 + (1 : Int32))) rfl hF hV (by omega) r_W r_GW r_GU r_OW r_DX r_RG (show (m 94 10).toInt = 6 from by omega) r_WD
theorem lp_235aw_44 {X : Nat × (Nat → Int32)} {P : Option ma_V → (Nat → Nat → Int32) → Prop} {T : Nat} {m0 : Nat → Nat → Int32} (h0 : zV m0) (K : ∀ v m₉, zF wr_235 m0 m₉ → zV m₉ → (zGW T (m₉ 94 55) (m₉ 109)) → (zGU T (m₉ 94 46) (m₉ 99)) → (zOw (m₉ 99) (m₉ 103) (m₉ 111)) → (zDX (m₉ 94 10) (m₉ 99) (m₉ 112) (m₉ 113) (m₉ 114) (m₉ 94 55) (m₉ 98) (m₉ 101) (m₉ 102) (m₉ 108)) → (zRG1 (m₉ 94 18) (m₉ 94 64) (m₉ 94 63) (m₉ 99) (m₉ 103) (m₉ 102) (m₉ 116)) → (v + (m₉ 94 45) = (m0 94 45)) → P (some (.inl v)) m₉) : ∀ (n : Nat) (m : Nat → Nat → Int32) (l1 : Int32) (l2 : Int32), (3100 - l2.toInt).toNat = n → zF wr_235 m0 m → zV m → (0 ≤ l2.toInt) → (zW (m 94 7) (m 98) (m 101) (m 102) (m 108)) → (zGW T (m 94 55) (m 109)) → (zGU T (m 94 46) (m 99)) → (zOw (m 99) (m 103) (m 111)) → (zDX (m 94 10) (m 99) (m 112) (m 113) (m 114) (m 94 55) (m 98) (m 101) (m 102) (m 108)) → (zRG1 (m 94 18) (m 94 64) (m 94 63) (m 99) (m 103) (m 102) (m 116)) → ((m 94 10).toInt = 6) → (l1 + (m 94 45) = (m0 94 45)) → zm X 5 108 235 44 [(0, .inr (.inr (some 94))), (1, .inl l1), (2, .inl l2)] m P := by
  intro n
  induction n using Nat.strongRecOn with
  | _ n IH =>
    intro m l1 l2 hmu hF hV hi0 r_W r_GW r_GU r_OW r_DX r_RG hi7 r_WD
    refine g_235_44 l1 l2 ?_
    have f1 : 0 ≤ (m 94 10).toInt ∧ (m 94 10).toInt ≤ 6 := rs_94_10 (m := m) hV
    have li2 : (3100 : Int32).toInt = 3100 := rfl
    have b3 := i_bd l2
    refine zd (fun (h4 : (3100 : Int32) ≤ l2) => ?_) (fun (h4 : ¬ (3100 : Int32) ≤ l2) => ?_)
    · skip
      have g5 := i_le h4
      try have rpr := r_RG.2.2.2.1
      try have rsi := r_RG.1
      try have rrg := r_RG.2.1
      try have rml := RG_ml (r := l4) r_RG (by have := rs_94_18 hV; omega) (by have := rs_94_64 hV; omega)
      try have rml2 := RG_ml (r := l2) r_RG (by have := rs_94_18 hV; omega) (by have := rs_94_64 hV; omega)
      have b6 := i_bd l1
      have li7 : (0 : Int32).toInt = 0 := rfl
      exact lp_235aw_121 h0 K _ _ (l1) ((0 : Int32)) rfl hF hV (by omega) r_W r_GW r_GU r_OW r_DX r_RG (show (m 94 10).toInt = 6 from by omega) r_WD
    · skip
      have g8 := i_nle h4
      have hg9 : (0 ≤ l2 ∧ l2.toNatClampNeg < 3100) := i_ix (by omega) (by omega)
      refine ⟨hg9, ?_⟩
      first | have f10 : 0 ≤ (m 99 l2.toNatClampNeg).toInt ∧ (m 99 l2.toNatClampNeg).toInt ≤ 1 := ra_99 (m := m) hV (k := l2.toNatClampNeg) (i_ix (n := 3100) (by omega) (by omega)).2 | have b11 := i_bd (m 99 l2.toNatClampNeg)
      have li12 : (0 : Int32).toInt = 0 := rfl
      refine zd (fun (h13 : (m 99 l2.toNatClampNeg) = (0 : Int32)) => ?_) (fun (h13 : ¬ (m 99 l2.toNatClampNeg) = (0 : Int32)) => ?_)
      · skip
        have g14 := i_eq h13
        try have rpr := r_RG.2.2.2.1
        try have rsi := r_RG.1
        try have rrg := r_RG.2.1
        try have rml := RG_ml (r := l4) r_RG (by have := rs_94_18 hV; omega) (by have := rs_94_64 hV; omega)
        try have rml2 := RG_ml (r := l2) r_RG (by have := rs_94_18 hV; omega) (by have := rs_94_64 hV; omega)
        have b15 := i_bd l1
        first | have e16 : (l2 + (1 : Int32)).toInt = l2.toInt + (1) := i_addk rfl (by omega) (by omega) | have b17 := i_bd (l2 + (1 : Int32))
        exact IH (3100 - (l2 + (1 : Int32)).toInt).toNat (by omega) _ (l1) ((l2 + (1 : Int32))) rfl hF hV (by omega) r_W r_GW r_GU r_OW r_DX r_RG (show (m 94 10).toInt = 6 from by omega) r_WD
      · skip
        have g18 := i_ne h13
        try have rpr := r_RG.2.2.2.1
        try have rsi := r_RG.1
        try have rrg := r_RG.2.1
        try have rml := RG_ml (r := l4) r_RG (by have := rs_94_18 hV; omega) (by have := rs_94_64 hV; omega)
        try have rml2 := RG_ml (r := l2) r_RG (by have := rs_94_18 hV; omega) (by have := rs_94_64 hV; omega)
        have hg19 : (0 ≤ l2 ∧ l2.toNatClampNeg < 3100) := i_ix (by omega) (by omega)
        refine ⟨hg19, ?_⟩
        have f20 : 0 ≤ (m 94 18).toInt ∧ (m 94 18).toInt ≤ 256 := rs_94_18 (m := m) hV
        have hg21 : (m 94 18) ≠ 0 := i_nz (by omega)
        refine ⟨hg21, ?_⟩
        first | have f22 : 0 ≤ (m 103 l2.toNatClampNeg).toInt ∧ (m 103 l2.toNatClampNeg).toInt ≤ 4599 := ra_103 (m := m) hV (k := l2.toNatClampNeg) (i_ix (n := 3100) (by omega) (by omega)).2 | have b23 := i_bd (m 103 l2.toNatClampNeg)
        first | have f24 := i_div (x := (m 103 l2.toNatClampNeg)) (y := (m 94 18)) (by omega) (by omega) | have b25 := i_bd ((m 103 l2.toNatClampNeg) / (m 94 18))
        try have au := RG_at r_RG (s := l2.toNatClampNeg) (by omega) (by assumption)
        try have rsi := r_RG.1
        try have dv : 0 ≤ (((m 103 l2.toNatClampNeg) / (m 94 18))).toInt ∧ (((m 103 l2.toNatClampNeg) / (m 94 18))).toInt ≤ 93 := i_div16 (by omega) (by omega) (by omega)
        have hg26 : (0 ≤ ((m 103 l2.toNatClampNeg) / (m 94 18)) ∧ ((m 103 l2.toNatClampNeg) / (m 94 18)).toNatClampNeg < 128) := i_ix (by omega) (by omega)
        refine ⟨hg26, ?_⟩
        try have ow5 := r_OW l5.toNatClampNeg (by omega) (by omega)
        try have ra5 := RG_at r_RG (s := (m 111 l5.toNatClampNeg).toNatClampNeg) (by omega) ow5.1
        have hg27 : (0 ≤ l2 ∧ l2.toNatClampNeg < 3100) := i_ix (by omega) (by omega)
        refine ⟨hg27, ?_⟩
        try have au := RG_at r_RG (s := l2.toNatClampNeg) (by omega) (by assumption)
        try have rsi := r_RG.1
        try have dv : 0 ≤ (((m 103 l2.toNatClampNeg) / (m 94 18))).toInt ∧ (((m 103 l2.toNatClampNeg) / (m 94 18))).toInt ≤ 93 := i_div16 (by omega) (by omega) (by omega)
        have hg28 : (0 ≤ ((m 103 l2.toNatClampNeg) / (m 94 18)) ∧ ((m 103 l2.toNatClampNeg) / (m 94 18)).toNatClampNeg < 128) := i_ix (by omega) (by omega)
        refine ⟨hg28, ?_⟩
        have hg29 : (0 ≤ l2 ∧ l2.toNatClampNeg < 3100) := i_ix (by omega) (by omega)
        refine ⟨hg29, ?_⟩
        have b30 := i_bd (m 107 l2.toNatClampNeg)
        refine zd (fun (h31 : (m 107 l2.toNatClampNeg) ≤ (0 : Int32)) => ?_) (fun (h31 : ¬ (m 107 l2.toNatClampNeg) ≤ (0 : Int32)) => ?_)
        · skip
          have g32 := i_le h31
          try have rpr := r_RG.2.2.2.1
          try have rsi := r_RG.1
          try have rrg := r_RG.2.1
          try have rml := RG_ml (r := l4) r_RG (by have := rs_94_18 hV; omega) (by have := rs_94_64 hV; omega)
          try have rml2 := RG_ml (r := l2) r_RG (by have := rs_94_18 hV; omega) (by have := rs_94_64 hV; omega)
          have hV33 : zV (ma_u m 122 ((m 103 l2.toNatClampNeg) / (m 94 18)).toNatClampNeg ((m 122 ((m 103 l2.toNatClampNeg) / (m 94 18)).toNatClampNeg) + ((m 102 l2.toNatClampNeg) + (1 : Int32)))) := ua_122 hV
          have b34 := i_bd l1
          first | have e35 : (l2 + (1 : Int32)).toInt = l2.toInt + (1) := i_addk rfl (by omega) (by omega) | have b36 := i_bd (l2 + (1 : Int32))
          exact IH (3100 - (l2 + (1 : Int32)).toInt).toNat (by omega) _ (l1) ((l2 + (1 : Int32))) rfl (zF_u hF rfl) hV33 (by omega) r_W r_GW r_GU r_OW r_DX r_RG (show (m 94 10).toInt = 6 from by omega) r_WD
        · skip
          have g37 := i_nle h31
          try have rpr := r_RG.2.2.2.1
          try have rsi := r_RG.1
          try have rrg := r_RG.2.1
          try have rml := RG_ml (r := l4) r_RG (by have := rs_94_18 hV; omega) (by have := rs_94_64 hV; omega)
          try have rml2 := RG_ml (r := l2) r_RG (by have := rs_94_18 hV; omega) (by have := rs_94_64 hV; omega)
          have hg38 : (0 ≤ l2 ∧ l2.toNatClampNeg < 3100) := i_ix (by omega) (by omega)
          refine ⟨hg38, ?_⟩
          have hg39 : (m 94 18) ≠ 0 := i_nz (by omega)
          refine ⟨hg39, ?_⟩
          try have au := RG_at r_RG (s := l2.toNatClampNeg) (by omega) (by assumption)
          try have rsi := r_RG.1
          try have dv : 0 ≤ (((m 103 l2.toNatClampNeg) / (m 94 18))).toInt ∧ (((m 103 l2.toNatClampNeg) / (m 94 18))).toInt ≤ 93 := i_div16 (by omega) (by omega) (by omega)
          have hg40 : (0 ≤ ((m 103 l2.toNatClampNeg) / (m 94 18)) ∧ ((m 103 l2.toNatClampNeg) / (m 94 18)).toNatClampNeg < 128) := i_ix (by omega) (by omega)
          refine ⟨hg40, ?_⟩
          try have rpr := r_RG.2.2.2.1
          try have rsi := r_RG.1
          try have rrg := r_RG.2.1
          try have rml := RG_ml (r := l4) r_RG (by have := rs_94_18 hV; omega) (by have := rs_94_64 hV; omega)
          try have rml2 := RG_ml (r := l2) r_RG (by have := rs_94_18 hV; omega) (by have := rs_94_64 hV; omega)
          have hV41 : zV (ma_u m 122 ((m 103 l2.toNatClampNeg) / (m 94 18)).toNatClampNeg ((m 122 ((m 103 l2.toNatClampNeg) / (m 94 18)).toNatClampNeg) + ((m 102 l2.toNatClampNeg) + (1 : Int32)))) := ua_122 hV
          have li43 : (1 : Int32).toInt = 1 := rfl
          have hV42 : zV (ma_u (ma_u m 122 ((m 103 l2.toNatClampNeg) / (m 94 18)).toNatClampNeg ((m 122 ((m 103 l2.toNatClampNeg) / (m 94 18)).toNatClampNeg) + ((m 102 l2.toNatClampNeg) + (1 : Int32)))) 123 ((m 103 l2.toNatClampNeg) / (m 94 18)).toNatClampNeg (1 : Int32)) := ua_123 hV41 (by omega) (by omega)
          have b44 := i_bd l1
          first | have e45 : (l2 + (1 : Int32)).toInt = l2.toInt + (1) := i_addk rfl (by omega) (by omega) | have b46 := i_bd (l2 + (1 : Int32))
          exact IH (3100 - (l2 + (1 : Int32)).toInt).toNat (by omega) _ (l1) ((l2 + (1 : Int32))) rfl (zF_u (zF_u hF rfl) rfl) hV42 (by omega) r_W r_GW r_GU r_OW r_DX r_RG (show (m 94 10).toInt = 6 from by omega) r_WD
theorem lp_235aw_7 {X : Nat × (Nat → Int32)} {P : Option ma_V → (Nat → Nat → Int32) → Prop} {T : Nat} {m0 : Nat → Nat → Int32} (h0 : zV m0) (K : ∀ v m₉, zF wr_235 m0 m₉ → zV m₉ → (zGW T (m₉ 94 55) (m₉ 109)) → (zGU T (m₉ 94 46) (m₉ 99)) → (zOw (m₉ 99) (m₉ 103) (m₉ 111)) → (zDX (m₉ 94 10) (m₉ 99) (m₉ 112) (m₉ 113) (m₉ 114) (m₉ 94 55) (m₉ 98) (m₉ 101) (m₉ 102) (m₉ 108)) → (zRG1 (m₉ 94 18) (m₉ 94 64) (m₉ 94 63) (m₉ 99) (m₉ 103) (m₉ 102) (m₉ 116)) → (v + (m₉ 94 45) = (m0 94 45)) → P (some (.inl v)) m₉) : ∀ (n : Nat) (m : Nat → Nat → Int32) (l1 : Int32) (l2 : Int32), (128 - l2.toInt).toNat = n → zF wr_235 m0 m → zV m → (0 ≤ l2.toInt) → (zW (m 94 7) (m 98) (m 101) (m 102) (m 108)) → (zGW T (m 94 55) (m 109)) → (zGU T (m 94 46) (m 99)) → (zOw (m 99) (m 103) (m 111)) → (zDX (m 94 10) (m 99) (m 112) (m 113) (m 114) (m 94 55) (m 98) (m 101) (m 102) (m 108)) → (zRG1 (m 94 18) (m 94 64) (m 94 63) (m 99) (m 103) (m 102) (m 116)) → ((m 94 10).toInt = 6) → (l1 + (m 94 45) = (m0 94 45)) → zm X 5 108 235 7 [(0, .inr (.inr (some 94))), (1, .inl l1), (2, .inl l2)] m P := by
  intro n
  induction n using Nat.strongRecOn with
  | _ n IH =>
    intro m l1 l2 hmu hF hV hi0 r_W r_GW r_GU r_OW r_DX r_RG hi7 r_WD
    refine g_235_7 l1 l2 ?_
    have f1 : 0 ≤ (m 94 10).toInt ∧ (m 94 10).toInt ≤ 6 := rs_94_10 (m := m) hV
    have f2 : 0 ≤ (m 94 64).toInt ∧ (m 94 64).toInt ≤ 93 := rs_94_64 (m := m) hV
    have b3 := i_bd l2
    refine zd (fun (h4 : (m 94 64) ≤ l2) => ?_) (fun (h4 : ¬ (m 94 64) ≤ l2) => ?_)
    · skip
      have g5 := i_le h4
      try have rpr := r_RG.2.2.2.1
      try have rsi := r_RG.1
      try have rrg := r_RG.2.1
      try have rml := RG_ml (r := l4) r_RG (by have := rs_94_18 hV; omega) (by have := rs_94_64 hV; omega)
      try have rml2 := RG_ml (r := l2) r_RG (by have := rs_94_18 hV; omega) (by have := rs_94_64 hV; omega)
      have b6 := i_bd l1
      have li7 : (0 : Int32).toInt = 0 := rfl
      exact lp_235aw_44 h0 K _ _ (l1) ((0 : Int32)) rfl hF hV (by omega) r_W r_GW r_GU r_OW r_DX r_RG (show (m 94 10).toInt = 6 from by omega) r_WD
    · skip
      have g8 := i_nle h4
      try have au := RG_at r_RG (s := l2.toNatClampNeg) (by omega) (by assumption)
      try have rsi := r_RG.1
      try have dv : 0 ≤ (l2).toInt ∧ (l2).toInt ≤ 93 := i_div16 (by omega) (by omega) (by omega)
      have hg9 : (0 ≤ l2 ∧ l2.toNatClampNeg < 128) := i_ix (by omega) (by omega)
      refine ⟨hg9, ?_⟩
      try have au := RG_at r_RG (s := l2.toNatClampNeg) (by omega) (by assumption)
      try have rsi := r_RG.1
      try have dv : 0 ≤ (l2).toInt ∧ (l2).toInt ≤ 93 := i_div16 (by omega) (by omega) (by omega)
      have hg10 : (0 ≤ l2 ∧ l2.toNatClampNeg < 128) := i_ix (by omega) (by omega)
      refine ⟨hg10, ?_⟩
      try have rpr := r_RG.2.2.2.1
      try have rsi := r_RG.1
      try have rrg := r_RG.2.1
      try have rml := RG_ml (r := l4) r_RG (by have := rs_94_18 hV; omega) (by have := rs_94_64 hV; omega)
      try have rml2 := RG_ml (r := l2) r_RG (by have := rs_94_18 hV; omega) (by have := rs_94_64 hV; omega)
      have hg11 : (0 ≤ l2 ∧ l2.toNatClampNeg < 128) := i_ix (by omega) (by omega)
      refine ⟨hg11, ?_⟩
      try have rpr := r_RG.2.2.2.1
      try have rsi := r_RG.1
      try have rrg := r_RG.2.1
      try have rml := RG_ml (r := l4) r_RG (by have := rs_94_18 hV; omega) (by have := rs_94_64 hV; omega)
      try have rml2 := RG_ml (r := l2) r_RG (by have := rs_94_18 hV; omega) (by have := rs_94_64 hV; omega)
      have hV12 : zV (ma_u m 122 l2.toNatClampNeg (0 : Int32)) := ua_122 hV
      have li14 : (0 : Int32).toInt = 0 := rfl
      have hV13 : zV (ma_u (ma_u m 122 l2.toNatClampNeg (0 : Int32)) 123 l2.toNatClampNeg (0 : Int32)) := ua_123 hV12 (by omega) (by omega)
      have hV15 : zV (ma_u (ma_u (ma_u m 122 l2.toNatClampNeg (0 : Int32)) 123 l2.toNatClampNeg (0 : Int32)) 124 l2.toNatClampNeg (0 : Int32)) := ua_124 hV13 (by omega) (by omega)
      have b16 := i_bd l1
      first | have e17 : (l2 + (1 : Int32)).toInt = l2.toInt + (1) := i_addk rfl (by omega) (by omega) | have b18 := i_bd (l2 + (1 : Int32))
      exact IH (128 - (l2 + (1 : Int32)).toInt).toNat (by omega) _ (l1) ((l2 + (1 : Int32))) rfl (zF_u (zF_u (zF_u hF rfl) rfl) rfl) hV15 (by omega) r_W r_GW r_GU r_OW r_DX r_RG (show (m 94 10).toInt = 6 from by omega) r_WD
theorem sp_235aw {X : Nat × (Nat → Int32)} {P : Option ma_V → (Nat → Nat → Int32) → Prop} {T : Nat} {m : Nat → Nat → Int32}  (hV : zV m) (r_W : zW (m 94 7) (m 98) (m 101) (m 102) (m 108)) (r_GW : zGW T (m 94 55) (m 109)) (r_GU : zGU T (m 94 46) (m 99)) (r_OW : zOw (m 99) (m 103) (m 111)) (r_DX : zDX (m 94 10) (m 99) (m 112) (m 113) (m 114) (m 94 55) (m 98) (m 101) (m 102) (m 108)) (r_RG : zRG1 (m 94 18) (m 94 64) (m 94 63) (m 99) (m 103) (m 102) (m 116)) (hpre6 : (m 94 10).toInt = 6) (KZ : ∀ v m₉, zV (zov wr_235 m m₉) → (zGW T (m₉ 94 55) (m₉ 109)) → (zGU T (m 94 46) (m₉ 99)) → (zOw (m₉ 99) (m₉ 103) (m₉ 111)) → (zDX (m 94 10) (m₉ 99) (m 112) (m₉ 113) (m₉ 114) (m₉ 94 55) (m 98) (m 101) (m 102) (m 108)) → (zRG1 (m 94 18) (m 94 64) (m₉ 94 63) (m₉ 99) (m₉ 103) (m 102) (m₉ 116)) → (v + (m₉ 94 45) = (m 94 45)) → P (some (.inl v)) (zov wr_235 m m₉)) : zm X 5 108 235 0 [(0, .inr (.inr (some 94)))] m P := by
  have K : ∀ v m₉, zF wr_235 m m₉ → zV m₉ → (zGW T (m₉ 94 55) (m₉ 109)) → (zGU T (m₉ 94 46) (m₉ 99)) → (zOw (m₉ 99) (m₉ 103) (m₉ 111)) → (zDX (m₉ 94 10) (m₉ 99) (m₉ 112) (m₉ 113) (m₉ 114) (m₉ 94 55) (m₉ 98) (m₉ 101) (m₉ 102) (m₉ 108)) → (zRG1 (m₉ 94 18) (m₉ 94 64) (m₉ 94 63) (m₉ 99) (m₉ 103) (m₉ 102) (m₉ 116)) → (v + (m₉ 94 45) = (m 94 45)) → P (some (.inl v)) m₉ := by
    intro v m₉ hf z q0 q1 q2 q3 q4 q5
    have e := zov_eq hf
    rw [e] at z ⊢
    try rw [e] at q0
    try rw [e] at q1
    try rw [e] at q2
    try rw [e] at q3
    try rw [e] at q4
    try rw [e] at q5
    exact KZ v m₉ z q0 q1 q2 q3 q4 q5
  refine g_235_0  ?_
  have f1 : 0 ≤ (m 94 10).toInt ∧ (m 94 10).toInt ≤ 6 := rs_94_10 (m := m) hV
  refine sp_187aw  hV r_W r_GW r_GU r_OW r_DX (fun v2 m1 hV_m1 p0_m1 p1_m1 p2_m1 p3_m1 p4_m1 p5_m1 => zmi_n ?_)
  have p0_m1 : zGW T (m1 94 55) (m1 109) := p0_m1
  have p1_m1 : zGU T (m 94 46) (m1 99) := p1_m1
  have p2_m1 : zOw (m1 99) (m 103) (m1 111) := p2_m1
  have p3_m1 : zDX (m 94 10) (m1 99) (m 112) (m1 113) (m1 114) (m1 94 55) (m 98) (m 101) (m 102) (m 108) := p3_m1
  have p4_m1 : zsw (m 99) (m1 99) (m 111) (m1 111) (m 103) := p4_m1
  have p5_m1 : v2 + (m1 94 45) = (m 94 45) := p5_m1
  try have rpr := r_RG.2.2.2.1
  try have rsi := r_RG.1
  try have rrg := r_RG.2.1
  try have rml := RG_ml (r := l4) r_RG (by have := rs_94_18 hV; omega) (by have := rs_94_64 hV; omega)
  try have rml2 := RG_ml (r := l2) r_RG (by have := rs_94_18 hV; omega) (by have := rs_94_64 hV; omega)
  have b2 := i_bd v2
  have li3 : (0 : Int32).toInt = 0 := rfl
  exact lp_235aw_7 hV K _ _ (v2) ((0 : Int32)) rfl (zF_zov zF_rfl ws_187_235) hV_m1 (by omega) r_W p0_m1 p1_m1 p2_m1 p3_m1 (show zRG1 (m 94 18) (m 94 64) (m 94 63) (m1 99) (m 103) (m 102) (m 116) from by first | (exact RG_sub r_RG p4_m1.1) | (exfalso; omega; done) | (exfalso; contradiction; done)) (show (m 94 10).toInt = 6 from by omega) p5_m1
theorem sp_211aw {X : Nat × (Nat → Int32)} {P : Option ma_V → (Nat → Nat → Int32) → Prop} {T : Nat} {m : Nat → Nat → Int32}  (hV : zV m) (r_W : zW (m 94 7) (m 98) (m 101) (m 102) (m 108)) (r_GW : zGW T (m 94 55) (m 109)) (r_GU : zGU T (m 94 46) (m 99)) (r_OW : zOw (m 99) (m 103) (m 111)) (r_DX : zDX (m 94 10) (m 99) (m 112) (m 113) (m 114) (m 94 55) (m 98) (m 101) (m 102) (m 108)) (r_HA : zHA (m 94 10) (m 94 11) (m 94 13) (m 94 14) (m 94 16) (m 94 61) (m 94 59) (m 94 60) (m 99) (m 102) (m 103) (m 111) (m 117) (m 98) (m 101) (m 108)) (hpre6 : (m 94 10).toInt = 3) (KZ : ∀ v m₉, zV (zov wr_211 m m₉) → (zGW T (m₉ 94 55) (m₉ 109)) → (zGU T (m 94 46) (m₉ 99)) → (zOw (m₉ 99) (m₉ 103) (m₉ 111)) → (zDX (m 94 10) (m₉ 99) (m 112) (m₉ 113) (m₉ 114) (m₉ 94 55) (m 98) (m 101) (m 102) (m 108)) → (zHA (m 94 10) (m 94 11) (m 94 13) (m 94 14) (m 94 16) (m 94 61) (m 94 59) (m₉ 94 60) (m₉ 99) (m 102) (m₉ 103) (m₉ 111) (m₉ 117) (m 98) (m 101) (m 108)) → (v + (m₉ 94 45) = (m 94 45)) → P (some (.inl v)) (zov wr_211 m m₉)) : zm X 5 108 211 0 [(0, .inr (.inr (some 94)))] m P := by
  have K : ∀ v m₉, zF wr_211 m m₉ → zV m₉ → (zGW T (m₉ 94 55) (m₉ 109)) → (zGU T (m₉ 94 46) (m₉ 99)) → (zOw (m₉ 99) (m₉ 103) (m₉ 111)) → (zDX (m₉ 94 10) (m₉ 99) (m₉ 112) (m₉ 113) (m₉ 114) (m₉ 94 55) (m₉ 98) (m₉ 101) (m₉ 102) (m₉ 108)) → (zHA (m₉ 94 10) (m₉ 94 11) (m₉ 94 13) (m₉ 94 14) (m₉ 94 16) (m₉ 94 61) (m₉ 94 59) (m₉ 94 60) (m₉ 99) (m₉ 102) (m₉ 103) (m₉ 111) (m₉ 117) (m₉ 98) (m₉ 101) (m₉ 108)) → (v + (m₉ 94 45) = (m 94 45)) → P (some (.inl v)) m₉ := by
    intro v m₉ hf z q0 q1 q2 q3 q4 q5
    have e := zov_eq hf
    rw [e] at z ⊢
    try rw [e] at q0
    try rw [e] at q1
    try rw [e] at q2
    try rw [e] at q3
    try rw [e] at q4
    try rw [e] at q5
    exact KZ v m₉ z q0 q1 q2 q3 q4 q5
  refine g_211_0  ?_
  have f1 : 0 ≤ (m 94 10).toInt ∧ (m 94 10).toInt ≤ 6 := rs_94_10 (m := m) hV
  try have hc4 := (r_HA.2 (by omega)).1
  refine sp_187aw  hV r_W r_GW r_GU r_OW r_DX (fun v2 m1 hV_m1 p0_m1 p1_m1 p2_m1 p3_m1 p4_m1 p5_m1 => zmi_n ?_)
  have p0_m1 : zGW T (m1 94 55) (m1 109) := p0_m1
  have p1_m1 : zGU T (m 94 46) (m1 99) := p1_m1
  have p2_m1 : zOw (m1 99) (m 103) (m1 111) := p2_m1
  have p3_m1 : zDX (m 94 10) (m1 99) (m 112) (m1 113) (m1 114) (m1 94 55) (m 98) (m 101) (m 102) (m 108) := p3_m1
  have p4_m1 : zsw (m 99) (m1 99) (m 111) (m1 111) (m 103) := p4_m1
  have p5_m1 : v2 + (m1 94 45) = (m 94 45) := p5_m1
  have f2 : 0 ≤ (m 94 14).toInt ∧ (m 94 14).toInt ≤ 1500 := rs_94_14 (m := m) hV
  try have hc4 := (r_HA.2 (by omega)).1
  refine sp_204 (G := True) (E := (m 94 60).toInt) ((m 94 14)) hV_m1 (by omega) (by omega) p2_m1 (show True → 0 ≤ (m 94 60).toInt ∧ zPK (m 94 14).toInt (m 94 60).toInt (m1 99) (m 102) (m 103) (m1 111) from by first | (exact fun _ => ⟨by have := rs_94_60 hV; omega, PK_sub (r_HA.2 (by omega)).2.2.2.1 p4_m1 (fun t ht => ⟨(ra_103 hV ht).1, by have := (ra_103 hV ht).2; omega⟩)⟩) | (exfalso; omega; done) | (exfalso; contradiction; done)) (fun v4 m3 hV_m3 p0_m3 p1_m3 p2_m3 p3_m3 => zmi_n ?_)
  have p0_m3 : zOw (m1 99) (m3 103) (m3 111) := p0_m3
  have p1_m3 : True → v4.toInt ≤ (m 94 60).toInt ∧ zPK (m 94 14).toInt v4.toInt (m1 99) (m 102) (m3 103) (m3 111) := p1_m3
  have p2_m3 : zLO (m 94 14).toInt (m 103) (m3 103) := p2_m3
  have p3_m3 : 0 ≤ v4.toInt ∧ v4.toInt ≤ 1600 := p3_m3
  have b4 := i_bd v4
  have hV3 : zV (ma_u (zov wr_204 (zov wr_187 m m1) m3) 94 60 v4) := us_94_60 hV_m3 (by omega) (by omega)
  try have hc4 := (r_HA.2 (by omega)).1
  have f5 : 0 ≤ (m 94 16).toInt ∧ (m 94 16).toInt ≤ 64 := rs_94_16 (m := m) hV
  refine sp_212  hV3 r_W (show 4 ≤ (m 94 16).toInt from by omega) (fun m5 hV_m5 p0_m5 => zmv_n ?_)
  have p0_m5 : zDC (m 94 14).toInt (m 94 16).toInt (m1 99) (m3 103) (m 102) (m 98) (m 101) (m 108) (m5 117) := p0_m5
  try have hc4 := (r_HA.2 (by omega)).1
  have b6 := i_bd v2
  exact K (v2) _ (zF_zov (zF_u (zF_zov (zF_zov zF_rfl ws_187_211) ws_204_211) rfl) ws_212_211) hV_m5 p0_m1 p1_m1 p0_m3 p3_m1 (show zHA (m 94 10) (m 94 11) (m 94 13) (m 94 14) (m 94 16) (m 94 61) (m 94 59) v4 (m1 99) (m 102) (m3 103) (m3 111) (m5 117) (m 98) (m 101) (m 108) from by first | (exact HA_major r_HA (by omega) p4_m1.1 p2_m3 (fun t ht => (ra_102 hV ht).1) (p1_m3 trivial) p0_m5) | (exfalso; omega; done) | (exfalso; contradiction; done)) p5_m1
set_option maxHeartbeats 8000000 in
theorem lp_214aw_145 {X : Nat × (Nat → Int32)} {P : Option ma_V → (Nat → Nat → Int32) → Prop} {T : Nat} {m0 : Nat → Nat → Int32} (h0 : zV m0) (K : ∀ v m₉, zF wr_214 m0 m₉ → zV m₉ → (zGW T (m₉ 94 55) (m₉ 109)) → (zGU T (m₉ 94 46) (m₉ 99)) → (zOw (m₉ 99) (m₉ 103) (m₉ 111)) → (zDX (m₉ 94 10) (m₉ 99) (m₉ 112) (m₉ 113) (m₉ 114) (m₉ 94 55) (m₉ 98) (m₉ 101) (m₉ 102) (m₉ 108)) → (zHA (m₉ 94 10) (m₉ 94 11) (m₉ 94 13) (m₉ 94 14) (m₉ 94 16) (m₉ 94 61) (m₉ 94 59) (m₉ 94 60) (m₉ 99) (m₉ 102) (m₉ 103) (m₉ 111) (m₉ 117) (m₉ 98) (m₉ 101) (m₉ 108)) → (v + (m₉ 94 45) = (m0 94 45)) → P (some (.inl v)) m₉) : ∀ (n : Nat) (m : Nat → Nat → Int32) (l1 : Int32) (l2 : Int32) (l3 : Int32), (3100 - l3.toInt).toNat = n → zF wr_214 m0 m → zV m → (0 ≤ l2.toInt) → (0 ≤ l3.toInt) → ((m 94 10).toInt = 3) → (zKS (m 110) (m 94 75)) → (zOw (m 99) (m 103) (m 111)) → (zH2 (m 94 10) (m 94 11) (m 94 61) (m 94 77) (m 99) (m 110) (m 102)) → (zH3 (m 94 10) (m 94 13) (m 94 14) (m 94 15) (m 94 61) (m 94 77) (m 94 60) (m 99) (m 110) (m 104) (m 102) (m 103) (m 111)) → ((m 94 76).toInt ≤ (m 94 75).toInt) → (zKU (m 94 10) (m 99) (m 110)) → (zW (m 94 7) (m 98) (m 101) (m 102) (m 108)) → (zDX (m 94 10) (m 99) (m 112) (m 113) (m 114) (m 94 55) (m 98) (m 101) (m 102) (m 108)) → (4 ≤ (m 94 16).toInt) → (l2.toInt ≤ (m 94 60).toInt) → (zDK l2.toInt (m 94 16).toInt (m 110) (m 99) (m 103) (m 102) (m 98) (m 101) (m 108) (m 117)) → (zCQ (m 110) (m 98) (m 101) (m 102) (m 108) (m 119) (m 94 76) (m 94 75) (zXX (m 99) (m 103) (0 : Int32).toInt l2.toInt) 3100 0) → (zGW T (m 94 55) (m 109)) → (zGU T (m 94 46) (m 99)) → (((m 94 10).toInt = 2 ∨ (m 94 10).toInt = 3) → zcov (m 110) (m 112) 16) → (((m 94 10).toInt = 2 ∨ (m 94 10).toInt = 3) → zcov (m 110) (m 114) l3.toInt) → (l1 + (m 94 45) = (m0 94 45)) → zm X 6 129 214 145 [(0, .inr (.inr (some 94))), (1, .inl l1), (2, .inl l2), (3, .inl l3)] m P := by
  intro n
  induction n using Nat.strongRecOn with
  | _ n IH =>
    intro m l1 l2 l3 hmu hF hV hi0 hi1 hi2 r_CMK r_OW r_H2 r_H3 hi7 r_KU r_W r_DX hi11 hi12 r_DK r_CQ r_GW r_GU r_COVR r_COVW r_WD
    refine g_214_145 l1 l2 l3 ?_
    have f1 : 0 ≤ (m 94 10).toInt ∧ (m 94 10).toInt ≤ 6 := rs_94_10 (m := m) hV
    have f2 : 0 ≤ (m 94 76).toInt ∧ (m 94 76).toInt ≤ 3100 := rs_94_76 (m := m) hV
    have f3 : 0 ≤ (m 94 75).toInt ∧ (m 94 75).toInt ≤ 3100 := rs_94_75 (m := m) hV
    have f4 : 0 ≤ (m 94 16).toInt ∧ (m 94 16).toInt ≤ 64 := rs_94_16 (m := m) hV
    have f5 : 0 ≤ (m 94 60).toInt ∧ (m 94 60).toInt ≤ 1600 := rs_94_60 (m := m) hV
    have f6 : 0 ≤ (m 94 55).toInt ∧ (m 94 55).toInt ≤ 3100 := rs_94_55 (m := m) hV
    have b7 := i_bd l3
    refine zd (fun (h8 : (m 94 55) ≤ l3) => ?_) (fun (h8 : ¬ (m 94 55) ≤ l3) => ?_)
    · skip
      have g9 := i_le h8
      have b10 := i_bd l2
      try have gw := GW_room r_GW
      refine sp_216 (l2) hV (by omega) (show (m 94 10).toInt = 3 from by omega) r_CMK r_OW r_H2 r_H3 (show (m 94 76).toInt ≤ (m 94 75).toInt from by omega) r_KU r_W r_DX (show 4 ≤ (m 94 16).toInt from by omega) (show l2.toInt ≤ (m 94 60).toInt from by omega) r_DK r_CQ (fun m1 hV_m1 p0_m1 p1_m1 p2_m1 p3_m1 p4_m1 p5_m1 p6_m1 p7_m1 => zmv_n ?_)
      have p0_m1 : zKS (m1 110) (m1 94 75) := p0_m1
      have p1_m1 : zOw (m 99) (m1 103) (m1 111) := p1_m1
      have p2_m1 : zH2 (m 94 10) (m 94 11) (m 94 61) (m1 94 77) (m 99) (m1 110) (m 102) := p2_m1
      have p3_m1 : zH3 (m 94 10) (m 94 13) (m 94 14) (m 94 15) (m 94 61) (m1 94 77) (m1 94 60) (m 99) (m1 110) (m1 104) (m 102) (m1 103) (m1 111) := p3_m1
      have p4_m1 : (m 94 76).toInt ≤ (m1 94 75).toInt := p4_m1
      have p5_m1 : zKU (m 94 10) (m 99) (m1 110) := p5_m1
      have p6_m1 : zle (m 110) (m1 110) := p6_m1
      have p7_m1 : zCQ (m1 110) (m 98) (m 101) (m 102) (m 108) (m1 119) (m 94 76) (m1 94 75) (fun _ => False) 3100 0 := p7_m1
      have f11 : 0 ≤ (m1 94 75).toInt ∧ (m1 94 75).toInt ≤ 3100 := rs_94_75 (m := (zov wr_216 m m1)) hV_m1
      try have gw := GW_room r_GW
      refine sp_208 (XX := (fun _ => False))  hV_m1 (show (m 94 10).toInt = 2 ∨ (m 94 10).toInt = 3 from by omega) p0_m1 p1_m1 p2_m1 p3_m1 (show (m 94 76).toInt ≤ (m1 94 75).toInt from by omega) p5_m1 r_W r_DX p7_m1 (fun m3 hV_m3 p0_m3 p1_m3 p2_m3 p3_m3 p4_m3 p5_m3 p6_m3 p7_m3 p8_m3 => zmv_n ?_)
      have p0_m3 : zKS (m3 110) (m3 94 75) := p0_m3
      have p1_m3 : zOw (m 99) (m3 103) (m3 111) := p1_m3
      have p2_m3 : zH2 (m 94 10) (m 94 11) (m 94 61) (m3 94 77) (m 99) (m3 110) (m 102) := p2_m3
      have p3_m3 : zH3 (m 94 10) (m 94 13) (m 94 14) (m 94 15) (m 94 61) (m3 94 77) (m3 94 60) (m 99) (m3 110) (m3 104) (m 102) (m3 103) (m3 111) := p3_m3
      have p4_m3 : (m3 94 76).toInt ≤ (m3 94 75).toInt := p4_m3
      have p5_m3 : zKU (m 94 10) (m 99) (m3 110) := p5_m3
      have p6_m3 : zle (m1 110) (m3 110) := p6_m3
      have p7_m3 : zCQ (m3 110) (m 98) (m 101) (m 102) (m 108) (m3 119) (m3 94 76) (m3 94 75) (fun _ => False) 3100 0 := p7_m3
      have p8_m3 : (m3 94 75).toInt ≤ (m3 94 76).toInt := p8_m3
      have f12 : 0 ≤ (m3 94 76).toInt ∧ (m3 94 76).toInt ≤ 3100 := rs_94_76 (m := (zov wr_208 (zov wr_216 m m1) m3)) hV_m3
      have f13 : 0 ≤ (m3 94 75).toInt ∧ (m3 94 75).toInt ≤ 3100 := rs_94_75 (m := (zov wr_208 (zov wr_216 m m1) m3)) hV_m3
      have li14 : (1 : Int32).toInt = 1 := rfl
      try have gw := GW_room r_GW
      refine sp_209 (XX := (fun _ => False)) ((1 : Int32)) hV_m3 (show (m 94 10).toInt = 2 ∨ (m 94 10).toInt = 3 from by omega) p0_m3 p1_m3 p2_m3 p3_m3 (show (m3 94 76).toInt ≤ (m3 94 75).toInt from by omega) p5_m3 r_W r_DX (show (m3 94 75).toInt ≤ (m3 94 76).toInt from by omega) p7_m3 r_GW (show ((m 94 10).toInt = 2 ∨ (m 94 10).toInt = 3) → zcov (m3 110) (m 112) 16 from by first | (exact fun hp => cov_cut (r_COVR hp) (by omega)) | (exact fun hp => cov_le (cov_le (r_COVR hp) p6_m1 (fun k hk => (ra_112 hV (by omega)).2)) p6_m3 (fun k hk => (ra_112 hV (by omega)).2)) | (exact fun hp => cov_le (cov_le (cov_cut (r_COVR hp) (by omega)) p6_m1 (fun k hk => (ra_112 hV (by omega)).2)) p6_m3 (fun k hk => (ra_112 hV (by omega)).2)) | (exact fun hp => cov_le (r_COVR hp) p6_m3 (fun k hk => (ra_112 hV (by omega)).2)) | (exact fun hp => cov_le (cov_cut (r_COVR hp) (by omega)) p6_m3 (fun k hk => (ra_112 hV (by omega)).2)) | (exact fun hp => cov_0 (by decide)) | (exact fun hp => cov_one (r_COVR hp) rfl (by omega) (by omega) (Or.inl (by omega))) | (exact fun hp => cov_one (r_COVR hp) rfl (by omega) (by omega) (Or.inr (by assumption))) | (exact fun hp => cov_cut (r_COVR hp) (by omega)) | (exact fun hp => cov_le (r_COVR hp) p6_m3 (fun k hk => (ra_112 hV_m3 (by omega)).2)) | (exact fun hp => cov_le (r_COVR hp) p6_m3 (fun k hk => (ra_114 hV_m3 (by have := rs_94_55 hV; omega)).2)) | (exfalso; omega; done) | (exfalso; contradiction; done)) (show ((m 94 10).toInt = 2 ∨ (m 94 10).toInt = 3) → zcov (m3 110) (m 114) (m 94 55).toInt from by first | (exact fun hp => cov_cut (r_COVW hp) (by omega)) | (exact fun hp => cov_le (cov_le (r_COVW hp) p6_m1 (fun k hk => (ra_114 hV (by have := GW_room r_GW; omega)).2)) p6_m3 (fun k hk => (ra_114 hV (by have := GW_room r_GW; omega)).2)) | (exact fun hp => cov_le (cov_le (cov_cut (r_COVW hp) (by omega)) p6_m1 (fun k hk => (ra_114 hV (by have := GW_room r_GW; omega)).2)) p6_m3 (fun k hk => (ra_114 hV (by have := GW_room r_GW; omega)).2)) | (exact fun hp => cov_le (r_COVW hp) p6_m3 (fun k hk => (ra_114 hV (by have := GW_room r_GW; omega)).2)) | (exact fun hp => cov_le (cov_cut (r_COVW hp) (by omega)) p6_m3 (fun k hk => (ra_114 hV (by have := GW_room r_GW; omega)).2)) | (exact fun hp => cov_0 (by decide)) | (exact fun hp => cov_one (r_COVW hp) rfl (by omega) (by omega) (Or.inl (by omega))) | (exact fun hp => cov_one (r_COVW hp) rfl (by omega) (by omega) (Or.inr (by assumption))) | (exact fun hp => cov_cut (r_COVW hp) (by omega)) | (exact fun hp => cov_le (r_COVW hp) p6_m3 (fun k hk => (ra_112 hV_m3 (by omega)).2)) | (exact fun hp => cov_le (r_COVW hp) p6_m3 (fun k hk => (ra_114 hV_m3 (by have := rs_94_55 hV; omega)).2)) | (exfalso; omega; done) | (exfalso; contradiction; done)) (fun m5 hV_m5 p0_m5 p1_m5 p2_m5 p3_m5 p4_m5 p5_m5 p6_m5 p7_m5 p8_m5 p9_m5 p10_m5 p11_m5 p12_m5 => zmv_n ?_)
      have p0_m5 : zKS (m5 110) (m5 94 75) := p0_m5
      have p1_m5 : zOw (m 99) (m5 103) (m5 111) := p1_m5
      have p2_m5 : zH2 (m 94 10) (m 94 11) (m 94 61) (m5 94 77) (m 99) (m5 110) (m 102) := p2_m5
      have p3_m5 : zH3 (m 94 10) (m 94 13) (m 94 14) (m 94 15) (m 94 61) (m5 94 77) (m5 94 60) (m 99) (m5 110) (m5 104) (m 102) (m5 103) (m5 111) := p3_m5
      have p4_m5 : (m5 94 76).toInt ≤ (m5 94 75).toInt := p4_m5
      have p5_m5 : zKU (m 94 10) (m 99) (m5 110) := p5_m5
      have p6_m5 : zDX (m 94 10) (m 99) (m 112) (m5 113) (m5 114) (m5 94 55) (m 98) (m 101) (m 102) (m 108) := p6_m5
      have p7_m5 : (m5 94 75).toInt ≤ (m5 94 76).toInt := p7_m5
      have p8_m5 : zCQ (m5 110) (m 98) (m 101) (m 102) (m 108) (m5 119) (m5 94 76) (m5 94 75) (fun _ => False) 3100 0 := p8_m5
      have p9_m5 : zGW T (m5 94 55) (m5 109) := p9_m5
      have p10_m5 : ((m 94 10).toInt = 2 ∨ (m 94 10).toInt = 3) → zcov (m5 110) (m 112) 16 := p10_m5
      have p11_m5 : ((m 94 10).toInt = 2 ∨ (m 94 10).toInt = 3) → zcov (m5 110) (m5 114) (m5 94 55).toInt := p11_m5
      have p12_m5 : zuw (m 113) (m5 113) := p12_m5
      have f15 : 0 ≤ (m5 94 76).toInt ∧ (m5 94 76).toInt ≤ 3100 := rs_94_76 (m := (zov wr_209 (zov wr_208 (zov wr_216 m m1) m3) m5)) hV_m5
      have f16 : 0 ≤ (m5 94 75).toInt ∧ (m5 94 75).toInt ≤ 3100 := rs_94_75 (m := (zov wr_209 (zov wr_208 (zov wr_216 m m1) m3) m5)) hV_m5
      try have gw := GW_room p9_m5
      refine sp_199  hV_m5  (fun m7 hV_m7 p0_m7 p1_m7 => zmv_n ?_)
      have p0_m7 : zuw (m5 113) (m7 113) := p0_m7
      have p1_m7 : zcov (m5 110) (m7 113) 16 := p1_m7
      have f18 : 0 ≤ (m5 94 77).toInt ∧ (m5 94 77).toInt ≤ 4600 := rs_94_77 (m := (zov wr_209 (zov wr_208 (zov wr_216 m m1) m3) m5)) hV_m5
      have hV17 : zV (ma_u (zov wr_199 (zov wr_209 (zov wr_208 (zov wr_216 m m1) m3) m5) m7) 94 59 (m5 94 77)) := us_94_59 hV_m7 (by omega) (by omega)
      try have gw := GW_room p9_m5
      refine sp_200aw  hV17 r_W r_GU p1_m5 (fun v10 m9 hV_m9 p0_m9 p1_m9 p2_m9 p3_m9 p4_m9 => zmi_n ?_)
      have p0_m9 : zrm (m 99) (m9 99) (m5 110) 3100 := p0_m9
      have p1_m9 : zowr (m5 111) (m9 111) (m 99) (m5 110) (m5 103) := p1_m9
      have p2_m9 : zGU T (m 94 46) (m9 99) := p2_m9
      have p3_m9 : zOw (m9 99) (m5 103) (m9 111) := p3_m9
      have p4_m9 : v10 + (m9 94 45) = (m 94 45) := p4_m9
      try have gw := GW_room p9_m5
      refine sp_212  hV_m9 r_W (show 4 ≤ (m 94 16).toInt from by omega) (fun m11 hV_m11 p0_m11 => zmv_n ?_)
      have p0_m11 : zDC (m 94 14).toInt (m 94 16).toInt (m9 99) (m5 103) (m 102) (m 98) (m 101) (m 108) (m11 117) := p0_m11
      try have gw := GW_room p9_m5
      have b19 := i_bd l1
      have b20 := i_bd v10
      first | have e21 : (l1 + v10).toInt = l1.toInt + v10.toInt := i_add (by omega) (by omega) | have b22 := i_bd (l1 + v10)
      exact K ((l1 + v10)) _ (zF_zov (zF_zov (zF_u (zF_zov (zF_zov (zF_zov (zF_zov hF ws_216_214) ws_208_214) ws_209_214) ws_199_214) rfl) ws_200_214) ws_212_214) hV_m11 p9_m5 p2_m9 p3_m9 (show zDX (m 94 10) (m9 99) (m 112) (m7 113) (m5 114) (m5 94 55) (m 98) (m 101) (m 102) (m 108) from by first | (exact DX_come p8_m5 (by omega) (p10_m5 (by omega)) (p11_m5 (by omega)) p1_m7 p5_m5 p0_m9 (fun k hk => (ra_112 hV_m11 (by omega)).2) (fun k hk => (ra_114 hV_m11 (by have := GW_room p9_m5; omega)).2) (fun k hk => (ra_113 hV_m11 (by omega)).2) (W_hi r_W)) | (exfalso; omega; done) | (exfalso; contradiction; done)) (show zHA (m 94 10) (m 94 11) (m 94 13) (m 94 14) (m 94 16) (m 94 61) (m5 94 77) (m5 94 60) (m9 99) (m 102) (m5 103) (m9 111) (m11 117) (m 98) (m 101) (m 108) from by first | (exact HA_minor (by omega) (by omega) (p3_m5 (by omega)) p0_m9 p1_m9 p0_m11 (fun t ht => ⟨(ra_103 hV_m11 ht).1, Int.lt_of_le_of_lt (ra_103 hV_m11 ht).2 (by decide)⟩) (fun t ht => (ra_102 hV_m11 ht).1)) | (exfalso; omega; done) | (exfalso; contradiction; done)) (show (l1 + v10) + (m9 94 45) = (m0 94 45) from by first | (exact p4_m9) | (exact i_w0) | (exact i_wt p4_m9 r_WD) | (exact r_WD) | (exfalso; omega; done) | (exfalso; contradiction; done))
    · skip
      have g23 := i_nle h8
      have hg24 : (0 ≤ l3 ∧ l3.toNatClampNeg < 3100) := i_ix (by omega) (by omega)
      refine ⟨hg24, ?_⟩
      first | have f25 : 0 ≤ (m 114 l3.toNatClampNeg).toInt ∧ (m 114 l3.toNatClampNeg).toInt ≤ 3099 := ra_114 (m := m) hV (k := l3.toNatClampNeg) (i_ix (n := 3100) (by omega) (by omega)).2 | have b26 := i_bd (m 114 l3.toNatClampNeg)
      try have gw := GW_room r_GW
      refine sp_207 (XX := (zXX (m 99) (m 103) (0 : Int32).toInt l2.toInt)) (CU := 3100) (II := 0) ((m 114 l3.toNatClampNeg)) hV (by omega) (by omega) (show (m 94 10).toInt = 2 ∨ (m 94 10).toInt = 3 from by omega) (show (m 114 l3.toNatClampNeg).toInt < 0 ∨ (m 99) (m 114 l3.toNatClampNeg).toNatClampNeg ≠ 0 from by first | (exact ((r_DX (by omega)).2.2.1 l3.toNatClampNeg (by rw [tn_cast (by omega)]; omega))) | (exfalso; omega; done) | (exfalso; contradiction; done)) r_CMK r_OW r_H2 r_H3 (show (m 94 76).toInt ≤ (m 94 75).toInt from by omega) r_CQ r_KU (fun m13 hV_m13 p0_m13 p1_m13 p2_m13 p3_m13 p4_m13 p5_m13 p6_m13 p7_m13 p8_m13 p9_m13 p10_m13 => zmv_n ?_)
      have p0_m13 : zKS (m13 110) (m13 94 75) := p0_m13
      have p1_m13 : zOw (m 99) (m13 103) (m13 111) := p1_m13
      have p2_m13 : zH2 (m 94 10) (m 94 11) (m 94 61) (m13 94 77) (m 99) (m13 110) (m 102) := p2_m13
      have p3_m13 : zH3 (m 94 10) (m 94 13) (m 94 14) (m 94 15) (m 94 61) (m13 94 77) (m13 94 60) (m 99) (m13 110) (m13 104) (m 102) (m13 103) (m13 111) := p3_m13
      have p4_m13 : (m 114 l3.toNatClampNeg).toInt < 0 ∨ (m13 110) (m 114 l3.toNatClampNeg).toNatClampNeg ≠ 0 := p4_m13
      have p5_m13 : zle (m 110) (m13 110) := p5_m13
      have p6_m13 : (m 94 76).toInt ≤ (m13 94 75).toInt := p6_m13
      have p7_m13 : zCQ (m13 110) (m 98) (m 101) (m 102) (m 108) (m13 119) (m 94 76) (m13 94 75) (zXX (m 99) (m 103) (0 : Int32).toInt l2.toInt) 3100 0 := p7_m13
      have p8_m13 : zKU (m 94 10) (m 99) (m13 110) := p8_m13
      have p9_m13 : (m 94 10).toInt = 3 → zax (m 103) (m13 103) (m 94 60).toInt := p9_m13
      have p10_m13 : (m 94 60).toInt ≤ (m13 94 60).toInt := p10_m13
      have f27 : 0 ≤ (m13 94 75).toInt ∧ (m13 94 75).toInt ≤ 3100 := rs_94_75 (m := (zov wr_207 m m13)) hV_m13
      have f28 : 0 ≤ (m13 94 60).toInt ∧ (m13 94 60).toInt ≤ 1600 := rs_94_60 (m := (zov wr_207 m m13)) hV_m13
      try have axs := ax_at (p9_m13 (by omega)) (s := l3.toNatClampNeg) (p := l2.toInt) (by omega) (by omega) (by omega)
      try have gw := GW_room r_GW
      have b29 := i_bd l1
      have b30 := i_bd l2
      first | have e31 : (l3 + (1 : Int32)).toInt = l3.toInt + (1) := i_addk rfl (by omega) (by omega) | have b32 := i_bd (l3 + (1 : Int32))
      exact IH (3100 - (l3 + (1 : Int32)).toInt).toNat (by omega) _ (l1) (l2) ((l3 + (1 : Int32))) rfl (zF_zov hF ws_207_214) hV_m13 (by omega) (by omega) (show (m 94 10).toInt = 3 from by omega) p0_m13 p1_m13 p2_m13 p3_m13 (show (m 94 76).toInt ≤ (m13 94 75).toInt from by omega) p8_m13 r_W r_DX (show 4 ≤ (m 94 16).toInt from by omega) (show l2.toInt ≤ (m13 94 60).toInt from by omega) (show zDK l2.toInt (m 94 16).toInt (m13 110) (m 99) (m13 103) (m 102) (m 98) (m 101) (m 108) (m 117) from by first | (exact DK_ax r_DK p5_m13 (p9_m13 (by omega)) (by omega) (W_hi r_W)) | (exfalso; omega; done) | (exfalso; contradiction; done)) (show zCQ (m13 110) (m 98) (m 101) (m 102) (m 108) (m13 119) (m 94 76) (m13 94 75) (zXX (m 99) (m13 103) (0 : Int32).toInt l2.toInt) 3100 0 from by first | (exact CQ_ax p7_m13 (p9_m13 (by omega)) (by omega)) | (exfalso; omega; done) | (exfalso; contradiction; done)) r_GW r_GU (show ((m 94 10).toInt = 2 ∨ (m 94 10).toInt = 3) → zcov (m13 110) (m 112) 16 from by first | (exact fun hp => cov_one (cov_le (r_COVR hp) p5_m13 (fun k hk => (ra_112 hV (by omega)).2)) rfl (by omega) (by omega) p4_m13) | (exact fun hp => cov_le (r_COVR hp) p5_m13 (fun k hk => (ra_112 hV (by omega)).2)) | (exact fun hp => cov_cut (r_COVR hp) (by omega)) | (exact fun hp => cov_0 (by decide)) | (exact fun hp => cov_one (r_COVR hp) rfl (by omega) (by omega) (Or.inl (by omega))) | (exact fun hp => cov_one (r_COVR hp) rfl (by omega) (by omega) (Or.inr (by assumption))) | (exact fun hp => cov_cut (r_COVR hp) (by omega)) | (exfalso; omega; done) | (exfalso; contradiction; done)) (show ((m 94 10).toInt = 2 ∨ (m 94 10).toInt = 3) → zcov (m13 110) (m 114) (l3 + (1 : Int32)).toInt from by first | (exact fun hp => cov_one (cov_le (r_COVW hp) p5_m13 (fun k hk => (ra_114 hV (by have := GW_room r_GW; omega)).2)) rfl (by omega) (by omega) p4_m13) | (exact fun hp => cov_le (r_COVW hp) p5_m13 (fun k hk => (ra_114 hV (by have := GW_room r_GW; omega)).2)) | (exact fun hp => cov_cut (r_COVW hp) (by omega)) | (exact fun hp => cov_0 (by decide)) | (exact fun hp => cov_one (r_COVW hp) rfl (by omega) (by omega) (Or.inl (by omega))) | (exact fun hp => cov_one (r_COVW hp) rfl (by omega) (by omega) (Or.inr (by assumption))) | (exact fun hp => cov_cut (r_COVW hp) (by omega)) | (exfalso; omega; done) | (exfalso; contradiction; done)) r_WD
set_option maxHeartbeats 8000000 in
theorem lp_214aw_121 {X : Nat × (Nat → Int32)} {P : Option ma_V → (Nat → Nat → Int32) → Prop} {T : Nat} {m0 : Nat → Nat → Int32} (h0 : zV m0) (K : ∀ v m₉, zF wr_214 m0 m₉ → zV m₉ → (zGW T (m₉ 94 55) (m₉ 109)) → (zGU T (m₉ 94 46) (m₉ 99)) → (zOw (m₉ 99) (m₉ 103) (m₉ 111)) → (zDX (m₉ 94 10) (m₉ 99) (m₉ 112) (m₉ 113) (m₉ 114) (m₉ 94 55) (m₉ 98) (m₉ 101) (m₉ 102) (m₉ 108)) → (zHA (m₉ 94 10) (m₉ 94 11) (m₉ 94 13) (m₉ 94 14) (m₉ 94 16) (m₉ 94 61) (m₉ 94 59) (m₉ 94 60) (m₉ 99) (m₉ 102) (m₉ 103) (m₉ 111) (m₉ 117) (m₉ 98) (m₉ 101) (m₉ 108)) → (v + (m₉ 94 45) = (m0 94 45)) → P (some (.inl v)) m₉) : ∀ (n : Nat) (m : Nat → Nat → Int32) (l1 : Int32) (l2 : Int32) (l3 : Int32), (16 - l3.toInt).toNat = n → zF wr_214 m0 m → zV m → (0 ≤ l2.toInt) → (0 ≤ l3.toInt) → ((m 94 10).toInt = 3) → (zKS (m 110) (m 94 75)) → (zOw (m 99) (m 103) (m 111)) → (zH2 (m 94 10) (m 94 11) (m 94 61) (m 94 77) (m 99) (m 110) (m 102)) → (zH3 (m 94 10) (m 94 13) (m 94 14) (m 94 15) (m 94 61) (m 94 77) (m 94 60) (m 99) (m 110) (m 104) (m 102) (m 103) (m 111)) → ((m 94 76).toInt ≤ (m 94 75).toInt) → (zKU (m 94 10) (m 99) (m 110)) → (zW (m 94 7) (m 98) (m 101) (m 102) (m 108)) → (zDX (m 94 10) (m 99) (m 112) (m 113) (m 114) (m 94 55) (m 98) (m 101) (m 102) (m 108)) → (4 ≤ (m 94 16).toInt) → (l2.toInt ≤ (m 94 60).toInt) → (zDK l2.toInt (m 94 16).toInt (m 110) (m 99) (m 103) (m 102) (m 98) (m 101) (m 108) (m 117)) → (zCQ (m 110) (m 98) (m 101) (m 102) (m 108) (m 119) (m 94 76) (m 94 75) (zXX (m 99) (m 103) (0 : Int32).toInt l2.toInt) 3100 0) → (zGW T (m 94 55) (m 109)) → (zGU T (m 94 46) (m 99)) → (((m 94 10).toInt = 2 ∨ (m 94 10).toInt = 3) → zcov (m 110) (m 112) l3.toInt) → (l1 + (m 94 45) = (m0 94 45)) → zm X 6 129 214 121 [(0, .inr (.inr (some 94))), (1, .inl l1), (2, .inl l2), (3, .inl l3)] m P := by
  intro n
  induction n using Nat.strongRecOn with
  | _ n IH =>
    intro m l1 l2 l3 hmu hF hV hi0 hi1 hi2 r_CMK r_OW r_H2 r_H3 hi7 r_KU r_W r_DX hi11 hi12 r_DK r_CQ r_GW r_GU r_COVR r_WD
    refine g_214_121 l1 l2 l3 ?_
    have f1 : 0 ≤ (m 94 10).toInt ∧ (m 94 10).toInt ≤ 6 := rs_94_10 (m := m) hV
    have f2 : 0 ≤ (m 94 76).toInt ∧ (m 94 76).toInt ≤ 3100 := rs_94_76 (m := m) hV
    have f3 : 0 ≤ (m 94 75).toInt ∧ (m 94 75).toInt ≤ 3100 := rs_94_75 (m := m) hV
    have f4 : 0 ≤ (m 94 16).toInt ∧ (m 94 16).toInt ≤ 64 := rs_94_16 (m := m) hV
    have f5 : 0 ≤ (m 94 60).toInt ∧ (m 94 60).toInt ≤ 1600 := rs_94_60 (m := m) hV
    have li6 : (16 : Int32).toInt = 16 := rfl
    have b7 := i_bd l3
    refine zd (fun (h8 : (16 : Int32) ≤ l3) => ?_) (fun (h8 : ¬ (16 : Int32) ≤ l3) => ?_)
    · skip
      have g9 := i_le h8
      try have gw := GW_room r_GW
      have b10 := i_bd l1
      have b11 := i_bd l2
      have li12 : (0 : Int32).toInt = 0 := rfl
      exact lp_214aw_145 h0 K _ _ (l1) (l2) ((0 : Int32)) rfl hF hV (by omega) (by omega) (show (m 94 10).toInt = 3 from by omega) r_CMK r_OW r_H2 r_H3 (show (m 94 76).toInt ≤ (m 94 75).toInt from by omega) r_KU r_W r_DX (show 4 ≤ (m 94 16).toInt from by omega) (show l2.toInt ≤ (m 94 60).toInt from by omega) r_DK r_CQ r_GW r_GU (show ((m 94 10).toInt = 2 ∨ (m 94 10).toInt = 3) → zcov (m 110) (m 112) 16 from by first | (exact fun hp => cov_cut (r_COVR hp) (by omega)) | (exact fun hp => cov_0 (by decide)) | (exact fun hp => cov_one (r_COVR hp) rfl (by omega) (by omega) (Or.inl (by omega))) | (exact fun hp => cov_one (r_COVR hp) rfl (by omega) (by omega) (Or.inr (by assumption))) | (exact fun hp => cov_cut (r_COVR hp) (by omega)) | (exfalso; omega; done) | (exfalso; contradiction; done)) (show ((m 94 10).toInt = 2 ∨ (m 94 10).toInt = 3) → zcov (m 110) (m 114) (0 : Int32).toInt from by first | (exact fun hp => cov_0 (by decide)) | (exact fun hp => cov_0 (by decide)) | (exfalso; omega; done) | (exfalso; contradiction; done)) r_WD
    · skip
      have g13 := i_nle h8
      have hg14 : (0 ≤ l3 ∧ l3.toNatClampNeg < 16) := i_ix (by omega) (by omega)
      refine ⟨hg14, ?_⟩
      first | have f15 : -1 ≤ (m 112 l3.toNatClampNeg).toInt ∧ (m 112 l3.toNatClampNeg).toInt ≤ 3099 := ra_112 (m := m) hV (k := l3.toNatClampNeg) (i_ix (n := 16) (by omega) (by omega)).2 | have b16 := i_bd (m 112 l3.toNatClampNeg)
      try have gw := GW_room r_GW
      refine sp_207 (XX := (zXX (m 99) (m 103) (0 : Int32).toInt l2.toInt)) (CU := 3100) (II := 0) ((m 112 l3.toNatClampNeg)) hV (by omega) (by omega) (show (m 94 10).toInt = 2 ∨ (m 94 10).toInt = 3 from by omega) (show (m 112 l3.toNatClampNeg).toInt < 0 ∨ (m 99) (m 112 l3.toNatClampNeg).toNatClampNeg ≠ 0 from by first | (exact ((r_DX (by omega)).1 l3.toNatClampNeg (by rw [tn_cast (by omega)]; omega))) | (exfalso; omega; done) | (exfalso; contradiction; done)) r_CMK r_OW r_H2 r_H3 (show (m 94 76).toInt ≤ (m 94 75).toInt from by omega) r_CQ r_KU (fun m1 hV_m1 p0_m1 p1_m1 p2_m1 p3_m1 p4_m1 p5_m1 p6_m1 p7_m1 p8_m1 p9_m1 p10_m1 => zmv_n ?_)
      have p0_m1 : zKS (m1 110) (m1 94 75) := p0_m1
      have p1_m1 : zOw (m 99) (m1 103) (m1 111) := p1_m1
      have p2_m1 : zH2 (m 94 10) (m 94 11) (m 94 61) (m1 94 77) (m 99) (m1 110) (m 102) := p2_m1
      have p3_m1 : zH3 (m 94 10) (m 94 13) (m 94 14) (m 94 15) (m 94 61) (m1 94 77) (m1 94 60) (m 99) (m1 110) (m1 104) (m 102) (m1 103) (m1 111) := p3_m1
      have p4_m1 : (m 112 l3.toNatClampNeg).toInt < 0 ∨ (m1 110) (m 112 l3.toNatClampNeg).toNatClampNeg ≠ 0 := p4_m1
      have p5_m1 : zle (m 110) (m1 110) := p5_m1
      have p6_m1 : (m 94 76).toInt ≤ (m1 94 75).toInt := p6_m1
      have p7_m1 : zCQ (m1 110) (m 98) (m 101) (m 102) (m 108) (m1 119) (m 94 76) (m1 94 75) (zXX (m 99) (m 103) (0 : Int32).toInt l2.toInt) 3100 0 := p7_m1
      have p8_m1 : zKU (m 94 10) (m 99) (m1 110) := p8_m1
      have p9_m1 : (m 94 10).toInt = 3 → zax (m 103) (m1 103) (m 94 60).toInt := p9_m1
      have p10_m1 : (m 94 60).toInt ≤ (m1 94 60).toInt := p10_m1
      have f17 : 0 ≤ (m1 94 75).toInt ∧ (m1 94 75).toInt ≤ 3100 := rs_94_75 (m := (zov wr_207 m m1)) hV_m1
      have f18 : 0 ≤ (m1 94 60).toInt ∧ (m1 94 60).toInt ≤ 1600 := rs_94_60 (m := (zov wr_207 m m1)) hV_m1
      try have axs := ax_at (p9_m1 (by omega)) (s := l3.toNatClampNeg) (p := l2.toInt) (by omega) (by omega) (by omega)
      try have gw := GW_room r_GW
      have b19 := i_bd l1
      have b20 := i_bd l2
      first | have e21 : (l3 + (1 : Int32)).toInt = l3.toInt + (1) := i_addk rfl (by omega) (by omega) | have b22 := i_bd (l3 + (1 : Int32))
      exact IH (16 - (l3 + (1 : Int32)).toInt).toNat (by omega) _ (l1) (l2) ((l3 + (1 : Int32))) rfl (zF_zov hF ws_207_214) hV_m1 (by omega) (by omega) (show (m 94 10).toInt = 3 from by omega) p0_m1 p1_m1 p2_m1 p3_m1 (show (m 94 76).toInt ≤ (m1 94 75).toInt from by omega) p8_m1 r_W r_DX (show 4 ≤ (m 94 16).toInt from by omega) (show l2.toInt ≤ (m1 94 60).toInt from by omega) (show zDK l2.toInt (m 94 16).toInt (m1 110) (m 99) (m1 103) (m 102) (m 98) (m 101) (m 108) (m 117) from by first | (exact DK_ax r_DK p5_m1 (p9_m1 (by omega)) (by omega) (W_hi r_W)) | (exfalso; omega; done) | (exfalso; contradiction; done)) (show zCQ (m1 110) (m 98) (m 101) (m 102) (m 108) (m1 119) (m 94 76) (m1 94 75) (zXX (m 99) (m1 103) (0 : Int32).toInt l2.toInt) 3100 0 from by first | (exact CQ_ax p7_m1 (p9_m1 (by omega)) (by omega)) | (exfalso; omega; done) | (exfalso; contradiction; done)) r_GW r_GU (show ((m 94 10).toInt = 2 ∨ (m 94 10).toInt = 3) → zcov (m1 110) (m 112) (l3 + (1 : Int32)).toInt from by first | (exact fun hp => cov_one (cov_le (r_COVR hp) p5_m1 (fun k hk => (ra_112 hV (by omega)).2)) rfl (by omega) (by omega) p4_m1) | (exact fun hp => cov_le (r_COVR hp) p5_m1 (fun k hk => (ra_112 hV (by omega)).2)) | (exact fun hp => cov_cut (r_COVR hp) (by omega)) | (exact fun hp => cov_0 (by decide)) | (exact fun hp => cov_one (r_COVR hp) rfl (by omega) (by omega) (Or.inl (by omega))) | (exact fun hp => cov_one (r_COVR hp) rfl (by omega) (by omega) (Or.inr (by assumption))) | (exact fun hp => cov_cut (r_COVR hp) (by omega)) | (exfalso; omega; done) | (exfalso; contradiction; done)) r_WD
set_option maxHeartbeats 8000000 in
theorem lp_214aw_35 {X : Nat × (Nat → Int32)} {P : Option ma_V → (Nat → Nat → Int32) → Prop} {T : Nat} {m0 : Nat → Nat → Int32} (h0 : zV m0) (K : ∀ v m₉, zF wr_214 m0 m₉ → zV m₉ → (zGW T (m₉ 94 55) (m₉ 109)) → (zGU T (m₉ 94 46) (m₉ 99)) → (zOw (m₉ 99) (m₉ 103) (m₉ 111)) → (zDX (m₉ 94 10) (m₉ 99) (m₉ 112) (m₉ 113) (m₉ 114) (m₉ 94 55) (m₉ 98) (m₉ 101) (m₉ 102) (m₉ 108)) → (zHA (m₉ 94 10) (m₉ 94 11) (m₉ 94 13) (m₉ 94 14) (m₉ 94 16) (m₉ 94 61) (m₉ 94 59) (m₉ 94 60) (m₉ 99) (m₉ 102) (m₉ 103) (m₉ 111) (m₉ 117) (m₉ 98) (m₉ 101) (m₉ 108)) → (v + (m₉ 94 45) = (m0 94 45)) → P (some (.inl v)) m₉) : ∀ (n : Nat) (m : Nat → Nat → Int32) (l1 : Int32) (l2 : Int32), (3100 - l2.toInt).toNat = n → zF wr_214 m0 m → zV m → (0 ≤ l2.toInt) → (zW (m 94 7) (m 98) (m 101) (m 102) (m 108)) → (zGW T (m 94 55) (m 109)) → (zGU T (m 94 46) (m 99)) → (zOw (m 99) (m 103) (m 111)) → (zDX (m 94 10) (m 99) (m 112) (m 113) (m 114) (m 94 55) (m 98) (m 101) (m 102) (m 108)) → (zHA (m 94 10) (m 94 11) (m 94 13) (m 94 14) (m 94 16) (m 94 61) (m 94 59) (m 94 60) (m 99) (m 102) (m 103) (m 111) (m 117) (m 98) (m 101) (m 108)) → ((m 94 10).toInt = 3) → ((m 94 60).toInt + sm (zbG (m 99) (m 103) (m 94 14) (m 104) (m 94 15)) (m 102) 3100 ≤ (m 94 14).toInt) → (∀ s : Nat, (s : Int) < l2.toInt → ((m 110) s ≠ 0 ↔ (m 99) s ≠ 0 ∧ ((m 103) s).toInt < (m 94 14).toInt)) → (l1 + (m 94 45) = (m0 94 45)) → zm X 6 129 214 35 [(0, .inr (.inr (some 94))), (1, .inl l1), (2, .inl l2)] m P := by
  intro n
  induction n using Nat.strongRecOn with
  | _ n IH =>
    intro m l1 l2 hmu hF hV hi0 r_W r_GW r_GU r_OW r_DX r_HA hi7 r_OF3 r_KOl r_WD
    refine g_214_35 l1 l2 ?_
    have f1 : 0 ≤ (m 94 10).toInt ∧ (m 94 10).toInt ≤ 6 := rs_94_10 (m := m) hV
    have li2 : (3100 : Int32).toInt = 3100 := rfl
    have b3 := i_bd l2
    refine zd (fun (h4 : (3100 : Int32) ≤ l2) => ?_) (fun (h4 : ¬ (3100 : Int32) ≤ l2) => ?_)
    · skip
      have g5 := i_le h4
      try have gw := GW_room r_GW
      try have hc4 := (r_HA.2 (by omega)).1
      have li7 : (0 : Int32).toInt = 0 := rfl
      have hV6 : zV (ma_u m 94 75 (0 : Int32)) := us_94_75 hV (by omega) (by omega)
      have hV8 : zV (ma_u (ma_u m 94 75 (0 : Int32)) 94 76 (0 : Int32)) := us_94_76 hV6 (by omega) (by omega)
      have li10 : (1 : Int32).toInt = 1 := rfl
      have f11 : 0 ≤ (m 94 61).toInt ∧ (m 94 61).toInt ≤ 1 := rs_94_61 (m := m) hV
      first | have e12 : ((1 : Int32) - (m 94 61)).toInt = (1 : Int32).toInt - (m 94 61).toInt := i_sub (by omega) (by omega) | have b13 := i_bd ((1 : Int32) - (m 94 61))
      have hV9 : zV (ma_u (ma_u (ma_u m 94 75 (0 : Int32)) 94 76 (0 : Int32)) 94 61 ((1 : Int32) - (m 94 61))) := us_94_61 hV8 (by omega) (by omega)
      have f15 : 0 ≤ (m 94 14).toInt ∧ (m 94 14).toInt ≤ 1500 := rs_94_14 (m := m) hV
      have f16 : 0 ≤ (m 94 13).toInt ∧ (m 94 13).toInt ≤ 1500 := rs_94_13 (m := m) hV
      first | have f17 := i_mul01 (x := ((1 : Int32) - (m 94 61))) (y := (m 94 13)) (by omega) (by omega) (by omega) (by omega) | have b18 := i_bd (((1 : Int32) - (m 94 61)) * (m 94 13))
      first | have e19 : ((m 94 14) + (((1 : Int32) - (m 94 61)) * (m 94 13))).toInt = (m 94 14).toInt + (((1 : Int32) - (m 94 61)) * (m 94 13)).toInt := i_add (by omega) (by omega) | have b20 := i_bd ((m 94 14) + (((1 : Int32) - (m 94 61)) * (m 94 13)))
      have hV14 : zV (ma_u (ma_u (ma_u (ma_u m 94 75 (0 : Int32)) 94 76 (0 : Int32)) 94 61 ((1 : Int32) - (m 94 61))) 94 77 ((m 94 14) + (((1 : Int32) - (m 94 61)) * (m 94 13)))) := us_94_77 hV9 (by omega) (by omega)
      have b21 := i_bd l1
      have f22 : 0 ≤ (m 94 60).toInt ∧ (m 94 60).toInt ≤ 1600 := rs_94_60 (m := m) hV
      have f23 : 0 ≤ (m 94 16).toInt ∧ (m 94 16).toInt ≤ 64 := rs_94_16 (m := m) hV
      exact lp_214aw_121 h0 K _ _ (l1) ((m 94 60)) ((0 : Int32)) rfl (zF_u (zF_u (zF_u (zF_u hF rfl) rfl) rfl) rfl) hV14 (by omega) (by omega) (show (m 94 10).toInt = 3 from by omega) (show zKS (m 110) (0 : Int32) from by first | (exact KS_0 (by omega)) | (exfalso; omega; done) | (exfalso; contradiction; done)) r_OW (show zH2 (m 94 10) (m 94 11) ((1 : Int32) - (m 94 61)) ((m 94 14) + (((1 : Int32) - (m 94 61)) * (m 94 13))) (m 99) (m 110) (m 102) from by first | (exact fun hp => absurd hp (by omega)) | (exfalso; omega; done) | (exfalso; contradiction; done)) (show zH3 (m 94 10) (m 94 13) (m 94 14) (m 94 15) ((1 : Int32) - (m 94 61)) ((m 94 14) + (((1 : Int32) - (m 94 61)) * (m 94 13))) (m 94 60) (m 99) (m 110) (m 104) (m 102) (m 103) (m 111) from by first | (exact fun _ => H3_0 r_HA (by omega) (fun s hs => r_KOl s (by omega)) r_OF3 ((i_add (by omega) (by omega)).trans (mul_B3 (by omega) (by omega) (by omega) (by omega))) (fun t ht => (ra_102 hV14 ht).1)) | (exfalso; omega; done) | (exfalso; contradiction; done)) (show (0 : Int32).toInt ≤ (0 : Int32).toInt from by omega) (show zKU (m 94 10) (m 99) (m 110) from by first | (exact KU_ko (fun s hs => r_KOl s (by omega))) | (exfalso; omega; done) | (exfalso; contradiction; done)) r_W r_DX (show 4 ≤ (m 94 16).toInt from by omega) (show (m 94 60).toInt ≤ (m 94 60).toInt from by omega) (show zDK (m 94 60).toInt (m 94 16).toInt (m 110) (m 99) (m 103) (m 102) (m 98) (m 101) (m 108) (m 117) from by first | (exact DK_ko r_HA (by omega) r_DX (fun s hs => r_KOl s (by omega)) (W_hi r_W)) | (exfalso; omega; done) | (exfalso; contradiction; done)) (show zCQ (m 110) (m 98) (m 101) (m 102) (m 108) (m 119) (0 : Int32) (0 : Int32) (zXX (m 99) (m 103) (0 : Int32).toInt (m 94 60).toInt) 3100 0 from by first | (exact CQ_ko r_HA (by omega) (fun s hs => r_KOl s (by omega)) (by omega) (fun t ht => (ra_103 hV14 ht).1) (fun t ht => (ra_102 hV14 ht).1)) | (exfalso; omega; done) | (exfalso; contradiction; done)) r_GW r_GU (show ((m 94 10).toInt = 2 ∨ (m 94 10).toInt = 3) → zcov (m 110) (m 112) (0 : Int32).toInt from by first | (exact fun hp => cov_0 (by decide)) | (exact fun hp => cov_0 (by decide)) | (exfalso; omega; done) | (exfalso; contradiction; done)) r_WD
    · skip
      have g24 := i_nle h4
      have hg25 : (0 ≤ l2 ∧ l2.toNatClampNeg < 3100) := i_ix (by omega) (by omega)
      refine ⟨hg25, ?_⟩
      first | have f26 : 0 ≤ (m 99 l2.toNatClampNeg).toInt ∧ (m 99 l2.toNatClampNeg).toInt ≤ 1 := ra_99 (m := m) hV (k := l2.toNatClampNeg) (i_ix (n := 3100) (by omega) (by omega)).2 | have b27 := i_bd (m 99 l2.toNatClampNeg)
      have li28 : (0 : Int32).toInt = 0 := rfl
      refine zd (fun (h29 : (m 99 l2.toNatClampNeg) = (0 : Int32)) => ?_) (fun (h29 : ¬ (m 99 l2.toNatClampNeg) = (0 : Int32)) => ?_)
      · skip
        have g30 := i_eq h29
        have hg31 : (0 ≤ l2 ∧ l2.toNatClampNeg < 3100) := i_ix (by omega) (by omega)
        refine ⟨hg31, ?_⟩
        try have gw := GW_room r_GW
        try have hc4 := (r_HA.2 (by omega)).1
        have hV32 : zV (ma_u m 110 l2.toNatClampNeg (0 : Int32)) := ua_110 hV (by omega) (by omega)
        have b33 := i_bd l1
        first | have e34 : (l2 + (1 : Int32)).toInt = l2.toInt + (1) := i_addk rfl (by omega) (by omega) | have b35 := i_bd (l2 + (1 : Int32))
        exact IH (3100 - (l2 + (1 : Int32)).toInt).toNat (by omega) _ (l1) ((l2 + (1 : Int32))) rfl (zF_u hF rfl) hV32 (by omega) r_W r_GW r_GU r_OW r_DX r_HA (show (m 94 10).toInt = 3 from by omega) r_OF3 (show ∀ s : Nat, (s : Int) < (l2 + (1 : Int32)).toInt → (((ma_u m 110 l2.toNatClampNeg (0 : Int32)) 110) s ≠ 0 ↔ (m 99) s ≠ 0 ∧ ((m 103) s).toInt < (m 94 14).toInt) from by first | (exact KO_step r_KOl (by omega) (by omega) ⟨fun _ => ⟨by assumption, by omega⟩, fun _ => by decide⟩) | (exact KO_step r_KOl (by omega) (by omega) ⟨fun z => absurd rfl z, fun z => absurd (by assumption) z.1⟩) | (exact KO_step r_KOl (by omega) (by omega) ⟨fun z => absurd rfl z, fun z => absurd z.2 (by omega)⟩) | (exfalso; omega; done) | (exfalso; contradiction; done)) r_WD
      · skip
        have g36 := i_ne h29
        have hg37 : (0 ≤ l2 ∧ l2.toNatClampNeg < 3100) := i_ix (by omega) (by omega)
        refine ⟨hg37, ?_⟩
        have f38 : 0 ≤ (m 94 14).toInt ∧ (m 94 14).toInt ≤ 1500 := rs_94_14 (m := m) hV
        first | have f39 : 0 ≤ (m 103 l2.toNatClampNeg).toInt ∧ (m 103 l2.toNatClampNeg).toInt ≤ 4599 := ra_103 (m := m) hV (k := l2.toNatClampNeg) (i_ix (n := 3100) (by omega) (by omega)).2 | have b40 := i_bd (m 103 l2.toNatClampNeg)
        refine zd (fun (h41 : (m 94 14) ≤ (m 103 l2.toNatClampNeg)) => ?_) (fun (h41 : ¬ (m 94 14) ≤ (m 103 l2.toNatClampNeg)) => ?_)
        · skip
          have g42 := i_le h41
          have hg43 : (0 ≤ l2 ∧ l2.toNatClampNeg < 3100) := i_ix (by omega) (by omega)
          refine ⟨hg43, ?_⟩
          try have gw := GW_room r_GW
          try have hc4 := (r_HA.2 (by omega)).1
          have hV44 : zV (ma_u m 110 l2.toNatClampNeg (0 : Int32)) := ua_110 hV (by omega) (by omega)
          have b45 := i_bd l1
          first | have e46 : (l2 + (1 : Int32)).toInt = l2.toInt + (1) := i_addk rfl (by omega) (by omega) | have b47 := i_bd (l2 + (1 : Int32))
          exact IH (3100 - (l2 + (1 : Int32)).toInt).toNat (by omega) _ (l1) ((l2 + (1 : Int32))) rfl (zF_u hF rfl) hV44 (by omega) r_W r_GW r_GU r_OW r_DX r_HA (show (m 94 10).toInt = 3 from by omega) r_OF3 (show ∀ s : Nat, (s : Int) < (l2 + (1 : Int32)).toInt → (((ma_u m 110 l2.toNatClampNeg (0 : Int32)) 110) s ≠ 0 ↔ (m 99) s ≠ 0 ∧ ((m 103) s).toInt < (m 94 14).toInt) from by first | (exact KO_step r_KOl (by omega) (by omega) ⟨fun _ => ⟨by assumption, by omega⟩, fun _ => by decide⟩) | (exact KO_step r_KOl (by omega) (by omega) ⟨fun z => absurd rfl z, fun z => absurd (by assumption) z.1⟩) | (exact KO_step r_KOl (by omega) (by omega) ⟨fun z => absurd rfl z, fun z => absurd z.2 (by omega)⟩) | (exfalso; omega; done) | (exfalso; contradiction; done)) r_WD
        · skip
          have g48 := i_nle h41
          have hg49 : (0 ≤ l2 ∧ l2.toNatClampNeg < 3100) := i_ix (by omega) (by omega)
          refine ⟨hg49, ?_⟩
          try have gw := GW_room r_GW
          try have hc4 := (r_HA.2 (by omega)).1
          have li51 : (1 : Int32).toInt = 1 := rfl
          have hV50 : zV (ma_u m 110 l2.toNatClampNeg (1 : Int32)) := ua_110 hV (by omega) (by omega)
          have b52 := i_bd l1
          first | have e53 : (l2 + (1 : Int32)).toInt = l2.toInt + (1) := i_addk rfl (by omega) (by omega) | have b54 := i_bd (l2 + (1 : Int32))
          exact IH (3100 - (l2 + (1 : Int32)).toInt).toNat (by omega) _ (l1) ((l2 + (1 : Int32))) rfl (zF_u hF rfl) hV50 (by omega) r_W r_GW r_GU r_OW r_DX r_HA (show (m 94 10).toInt = 3 from by omega) r_OF3 (show ∀ s : Nat, (s : Int) < (l2 + (1 : Int32)).toInt → (((ma_u m 110 l2.toNatClampNeg (1 : Int32)) 110) s ≠ 0 ↔ (m 99) s ≠ 0 ∧ ((m 103) s).toInt < (m 94 14).toInt) from by first | (exact KO_step r_KOl (by omega) (by omega) ⟨fun _ => ⟨by assumption, by omega⟩, fun _ => by decide⟩) | (exact KO_step r_KOl (by omega) (by omega) ⟨fun z => absurd rfl z, fun z => absurd (by assumption) z.1⟩) | (exact KO_step r_KOl (by omega) (by omega) ⟨fun z => absurd rfl z, fun z => absurd z.2 (by omega)⟩) | (exfalso; omega; done) | (exfalso; contradiction; done)) r_WD
set_option maxHeartbeats 8000000 in
theorem sp_214aw {X : Nat × (Nat → Int32)} {P : Option ma_V → (Nat → Nat → Int32) → Prop} {T : Nat} {m : Nat → Nat → Int32}  (hV : zV m) (r_W : zW (m 94 7) (m 98) (m 101) (m 102) (m 108)) (r_GW : zGW T (m 94 55) (m 109)) (r_GU : zGU T (m 94 46) (m 99)) (r_OW : zOw (m 99) (m 103) (m 111)) (r_DX : zDX (m 94 10) (m 99) (m 112) (m 113) (m 114) (m 94 55) (m 98) (m 101) (m 102) (m 108)) (r_HA : zHA (m 94 10) (m 94 11) (m 94 13) (m 94 14) (m 94 16) (m 94 61) (m 94 59) (m 94 60) (m 99) (m 102) (m 103) (m 111) (m 117) (m 98) (m 101) (m 108)) (hpre6 : (m 94 10).toInt = 3) (KZ : ∀ v m₉, zV (zov wr_214 m m₉) → (zGW T (m₉ 94 55) (m₉ 109)) → (zGU T (m 94 46) (m₉ 99)) → (zOw (m₉ 99) (m₉ 103) (m₉ 111)) → (zDX (m 94 10) (m₉ 99) (m 112) (m₉ 113) (m₉ 114) (m₉ 94 55) (m 98) (m 101) (m 102) (m 108)) → (zHA (m 94 10) (m 94 11) (m 94 13) (m 94 14) (m 94 16) (m₉ 94 61) (m₉ 94 59) (m₉ 94 60) (m₉ 99) (m 102) (m₉ 103) (m₉ 111) (m₉ 117) (m 98) (m 101) (m 108)) → (v + (m₉ 94 45) = (m 94 45)) → P (some (.inl v)) (zov wr_214 m m₉)) : zm X 6 129 214 0 [(0, .inr (.inr (some 94)))] m P := by
  have K : ∀ v m₉, zF wr_214 m m₉ → zV m₉ → (zGW T (m₉ 94 55) (m₉ 109)) → (zGU T (m₉ 94 46) (m₉ 99)) → (zOw (m₉ 99) (m₉ 103) (m₉ 111)) → (zDX (m₉ 94 10) (m₉ 99) (m₉ 112) (m₉ 113) (m₉ 114) (m₉ 94 55) (m₉ 98) (m₉ 101) (m₉ 102) (m₉ 108)) → (zHA (m₉ 94 10) (m₉ 94 11) (m₉ 94 13) (m₉ 94 14) (m₉ 94 16) (m₉ 94 61) (m₉ 94 59) (m₉ 94 60) (m₉ 99) (m₉ 102) (m₉ 103) (m₉ 111) (m₉ 117) (m₉ 98) (m₉ 101) (m₉ 108)) → (v + (m₉ 94 45) = (m 94 45)) → P (some (.inl v)) m₉ := by
    intro v m₉ hf z q0 q1 q2 q3 q4 q5
    have e := zov_eq hf
    rw [e] at z ⊢
    try rw [e] at q0
    try rw [e] at q1
    try rw [e] at q2
    try rw [e] at q3
    try rw [e] at q4
    try rw [e] at q5
    exact KZ v m₉ z q0 q1 q2 q3 q4 q5
  refine g_214_0  ?_
  have f1 : 0 ≤ (m 94 10).toInt ∧ (m 94 10).toInt ≤ 6 := rs_94_10 (m := m) hV
  try have hc4 := (r_HA.2 (by omega)).1
  try have gw := GW_room r_GW
  refine sp_215  hV  (fun v2 m1 hV_m1 hb_m1 p0_m1 => zmi_n ?_)
  have p0_m1 : v2.toInt = 1 ∨ (m 94 60).toInt + sm (zbG (m 99) (m 103) (m 94 14) (m 104) (m 94 15)) (m 102) 3100 ≤ (m 94 14).toInt := p0_m1
  have f2 := i_01 hb_m1
  have li3 : (0 : Int32).toInt = 0 := rfl
  refine zd (fun (h4 : v2 = (0 : Int32)) => ?_) (fun (h4 : ¬ v2 = (0 : Int32)) => ?_)
  · skip
    have g5 := i_eq h4
    try have hc4 := (r_HA.2 (by omega)).1
    try have gw := GW_room r_GW
    refine sp_215  hV_m1  (fun v4 m3 hV_m3 hb_m3 p0_m3 => zmi_n ?_)
    have p0_m3 : v4.toInt = 1 ∨ (m 94 60).toInt + sm (zbG (m 99) (m 103) (m 94 14) (m 104) (m 94 15)) (m 102) 3100 ≤ (m 94 14).toInt := p0_m3
    have f6 := i_01 hb_m3
    refine zd (fun (h7 : v4 = (0 : Int32)) => ?_) (fun (h7 : ¬ v4 = (0 : Int32)) => ?_)
    · skip
      have g8 := i_eq h7
      try have gw := GW_room r_GW
      try have hc4 := (r_HA.2 (by omega)).1
      have hV9 : zV (ma_u (zov wr_215 (zov wr_215 m m1) m3) 94 47 ((m 94 47) + (1 : Int32))) := uf_94_47 hV_m3
      exact lp_214aw_35 hV K _ _ ((0 : Int32)) ((0 : Int32)) rfl (zF_u (zF_zov (zF_zov zF_rfl ws_215_214) ws_215_214) rfl) hV9 (by omega) r_W r_GW r_GU r_OW r_DX r_HA (show (m 94 10).toInt = 3 from by omega) (show (m 94 60).toInt + sm (zbG (m 99) (m 103) (m 94 14) (m 104) (m 94 15)) (m 102) 3100 ≤ (m 94 14).toInt from by first | (exact p0_m3.elim (fun z => absurd z (by omega)) id) | (exfalso; omega; done) | (exfalso; contradiction; done)) (show ∀ s : Nat, (s : Int) < (0 : Int32).toInt → ((m 110) s ≠ 0 ↔ (m 99) s ≠ 0 ∧ ((m 103) s).toInt < (m 94 14).toInt) from by first | (intro s hs; omega; done) | (exfalso; omega; done) | (exfalso; contradiction; done)) (show (0 : Int32) + (m 94 45) = (m 94 45) from by first | (exact i_w0) | (exact r_WD) | (exfalso; omega; done) | (exfalso; contradiction; done))
    · skip
      have g10 := i_ne h7
      try have gw := GW_room r_GW
      try have hc4 := (r_HA.2 (by omega)).1
      exact K ((0 : Int32)) _ (zF_zov (zF_zov zF_rfl ws_215_214) ws_215_214) hV_m3 r_GW r_GU r_OW r_DX r_HA (show (0 : Int32) + (m 94 45) = (m 94 45) from by first | (exact i_w0) | (exact r_WD) | (exfalso; omega; done) | (exfalso; contradiction; done))
  · skip
    have g11 := i_ne h4
    try have hc4 := (r_HA.2 (by omega)).1
    try have gw := GW_room r_GW
    refine sp_211aw  hV_m1 r_W r_GW r_GU r_OW r_DX r_HA (show (m 94 10).toInt = 3 from by omega) (fun v6 m5 hV_m5 p0_m5 p1_m5 p2_m5 p3_m5 p4_m5 p5_m5 => zmi_n ?_)
    have p0_m5 : zGW T (m5 94 55) (m5 109) := p0_m5
    have p1_m5 : zGU T (m 94 46) (m5 99) := p1_m5
    have p2_m5 : zOw (m5 99) (m5 103) (m5 111) := p2_m5
    have p3_m5 : zDX (m 94 10) (m5 99) (m 112) (m5 113) (m5 114) (m5 94 55) (m 98) (m 101) (m 102) (m 108) := p3_m5
    have p4_m5 : zHA (m 94 10) (m 94 11) (m 94 13) (m 94 14) (m 94 16) (m 94 61) (m 94 59) (m5 94 60) (m5 99) (m 102) (m5 103) (m5 111) (m5 117) (m 98) (m 101) (m 108) := p4_m5
    have p5_m5 : v6 + (m5 94 45) = (m 94 45) := p5_m5
    try have hc4 := (p4_m5.2 (by omega)).1
    try have gw := GW_room p0_m5
    refine sp_215  hV_m5  (fun v8 m7 hV_m7 hb_m7 p0_m7 => zmi_n ?_)
    have p0_m7 : v8.toInt = 1 ∨ (m5 94 60).toInt + sm (zbG (m5 99) (m5 103) (m 94 14) (m 104) (m 94 15)) (m 102) 3100 ≤ (m 94 14).toInt := p0_m7
    have f12 := i_01 hb_m7
    refine zd (fun (h13 : v8 = (0 : Int32)) => ?_) (fun (h13 : ¬ v8 = (0 : Int32)) => ?_)
    · skip
      have g14 := i_eq h13
      try have gw := GW_room p0_m5
      try have hc4 := (p4_m5.2 (by omega)).1
      have hV15 : zV (ma_u (zov wr_215 (zov wr_211 (zov wr_215 m m1) m5) m7) 94 47 ((m5 94 47) + (1 : Int32))) := uf_94_47 hV_m7
      have b16 := i_bd v6
      exact lp_214aw_35 hV K _ _ (v6) ((0 : Int32)) rfl (zF_u (zF_zov (zF_zov (zF_zov zF_rfl ws_215_214) ws_211_214) ws_215_214) rfl) hV15 (by omega) r_W p0_m5 p1_m5 p2_m5 p3_m5 p4_m5 (show (m 94 10).toInt = 3 from by omega) (show (m5 94 60).toInt + sm (zbG (m5 99) (m5 103) (m 94 14) (m 104) (m 94 15)) (m 102) 3100 ≤ (m 94 14).toInt from by first | (exact p0_m7.elim (fun z => absurd z (by omega)) id) | (exfalso; omega; done) | (exfalso; contradiction; done)) (show ∀ s : Nat, (s : Int) < (0 : Int32).toInt → ((m5 110) s ≠ 0 ↔ (m5 99) s ≠ 0 ∧ ((m5 103) s).toInt < (m 94 14).toInt) from by first | (intro s hs; omega; done) | (exfalso; omega; done) | (exfalso; contradiction; done)) p5_m5
    · skip
      have g17 := i_ne h13
      try have gw := GW_room p0_m5
      try have hc4 := (p4_m5.2 (by omega)).1
      have b18 := i_bd v6
      exact K (v6) _ (zF_zov (zF_zov (zF_zov zF_rfl ws_215_214) ws_211_214) ws_215_214) hV_m7 p0_m5 p1_m5 p2_m5 p3_m5 p4_m5 p5_m5
set_option maxHeartbeats 8000000 in
theorem sp_256aw {X : Nat × (Nat → Int32)} {P : Option ma_V → (Nat → Nat → Int32) → Prop} {T : Nat} {m : Nat → Nat → Int32}  (hV : zV m) (hpre0 : (m 94 8).toInt ≠ 0) (r_W : zW (m 94 7) (m 98) (m 101) (m 102) (m 108)) (r_GW : zGW T (m 94 55) (m 109)) (r_GU : zGU T (m 94 46) (m 99)) (r_OW : zOw (m 99) (m 103) (m 111)) (r_DX : zDX (m 94 10) (m 99) (m 112) (m 113) (m 114) (m 94 55) (m 98) (m 101) (m 102) (m 108)) (r_GG : zGG (m 94 58) (m 94 56) (m 94 57) (m 106)) (r_HA : zHA (m 94 10) (m 94 11) (m 94 13) (m 94 14) (m 94 16) (m 94 61) (m 94 59) (m 94 60) (m 99) (m 102) (m 103) (m 111) (m 117) (m 98) (m 101) (m 108)) (r_RGc : zRG (m 94 10) (m 94 18) (m 94 64) (m 94 63) (m 99) (m 103) (m 102) (m 116)) (hpre9 : (m 94 58).toInt = 0 ∨ (m 94 10).toInt = 5) (KZ : ∀ v m₉, zV (zov wr_256 m m₉) → (zW (m 94 7) (m 98) (m 101) (m 102) (m 108)) → (zGW T (m₉ 94 55) (m₉ 109)) → (zGU T (m 94 46) (m₉ 99)) → (zOw (m₉ 99) (m₉ 103) (m₉ 111)) → (zDX (m 94 10) (m₉ 99) (m 112) (m₉ 113) (m₉ 114) (m₉ 94 55) (m 98) (m 101) (m 102) (m 108)) → (zGG (m₉ 94 58) (m₉ 94 56) (m₉ 94 57) (m₉ 106)) → (zHA (m 94 10) (m 94 11) (m 94 13) (m 94 14) (m 94 16) (m₉ 94 61) (m₉ 94 59) (m₉ 94 60) (m₉ 99) (m 102) (m₉ 103) (m₉ 111) (m₉ 117) (m 98) (m 101) (m 108)) → (zRG (m 94 10) (m 94 18) (m 94 64) (m₉ 94 63) (m₉ 99) (m₉ 103) (m 102) (m₉ 116)) → ((m₉ 94 58).toInt = 0 ∨ (m 94 10).toInt = 5) → (v + (m₉ 94 45) = (m 94 45)) → ((m₉ 94 0).toInt = 0) → P (some (.inl v)) (zov wr_256 m m₉)) : zm X 7 152 256 0 [(0, .inr (.inr (some 94)))] m P := by
  have K : ∀ v m₉, zF wr_256 m m₉ → zV m₉ → (zW (m₉ 94 7) (m₉ 98) (m₉ 101) (m₉ 102) (m₉ 108)) → (zGW T (m₉ 94 55) (m₉ 109)) → (zGU T (m₉ 94 46) (m₉ 99)) → (zOw (m₉ 99) (m₉ 103) (m₉ 111)) → (zDX (m₉ 94 10) (m₉ 99) (m₉ 112) (m₉ 113) (m₉ 114) (m₉ 94 55) (m₉ 98) (m₉ 101) (m₉ 102) (m₉ 108)) → (zGG (m₉ 94 58) (m₉ 94 56) (m₉ 94 57) (m₉ 106)) → (zHA (m₉ 94 10) (m₉ 94 11) (m₉ 94 13) (m₉ 94 14) (m₉ 94 16) (m₉ 94 61) (m₉ 94 59) (m₉ 94 60) (m₉ 99) (m₉ 102) (m₉ 103) (m₉ 111) (m₉ 117) (m₉ 98) (m₉ 101) (m₉ 108)) → (zRG (m₉ 94 10) (m₉ 94 18) (m₉ 94 64) (m₉ 94 63) (m₉ 99) (m₉ 103) (m₉ 102) (m₉ 116)) → ((m₉ 94 58).toInt = 0 ∨ (m₉ 94 10).toInt = 5) → (v + (m₉ 94 45) = (m 94 45)) → ((m₉ 94 0).toInt = 0) → P (some (.inl v)) m₉ := by
    intro v m₉ hf z q0 q1 q2 q3 q4 q5 q6 q7 q8 q9 q10
    have e := zov_eq hf
    rw [e] at z ⊢
    try rw [e] at q0
    try rw [e] at q1
    try rw [e] at q2
    try rw [e] at q3
    try rw [e] at q4
    try rw [e] at q5
    try rw [e] at q6
    try rw [e] at q7
    try rw [e] at q8
    try rw [e] at q9
    try rw [e] at q10
    exact KZ v m₉ z q0 q1 q2 q3 q4 q5 q6 q7 q8 q9 q10
  refine g_256_0  ?_
  have f1 : 0 ≤ (m 94 8).toInt ∧ (m 94 8).toInt ≤ 1 := rs_94_8 (m := m) hV
  have f2 : 0 ≤ (m 94 58).toInt ∧ (m 94 58).toInt ≤ 1 := rs_94_58 (m := m) hV
  have f3 : 0 ≤ (m 94 10).toInt ∧ (m 94 10).toInt ≤ 6 := rs_94_10 (m := m) hV
  have li4 : (0 : Int32).toInt = 0 := rfl
  refine zd (fun (h5 : (m 94 8) = (0 : Int32)) => ?_) (fun (h5 : ¬ (m 94 8) = (0 : Int32)) => ?_)
  · skip
    have g6 := i_eq h5
    have hV7 : zV (ma_u m 94 0 (1 : Int32)) := uf_94_0 hV
    have li8 : (1 : Int32).toInt = 1 := rfl
    exact K ((0 : Int32)) _ (zF_u zF_rfl rfl) hV7 r_W r_GW r_GU r_OW r_DX r_GG r_HA r_RGc (show (m 94 58).toInt = 0 ∨ (m 94 10).toInt = 5 from by omega) (show (0 : Int32) + (m 94 45) = (m 94 45) from by first | (exfalso; omega; done) | (exfalso; contradiction; done)) (show (1 : Int32).toInt = 0 from by omega)
  · skip
    have g9 := i_ne h5
    have li10 : (1 : Int32).toInt = 1 := rfl
    refine zd (fun (h11 : (m 94 10) = (1 : Int32)) => ?_) (fun (h11 : ¬ (m 94 10) = (1 : Int32)) => ?_)
    · skip
      have g12 := i_eq h11
      have hV13 : zV (ma_u m 94 0 (0 : Int32)) := uf_94_0 hV
      refine sp_186aw  hV13 r_W r_GW r_GU r_OW r_DX (fun v2 m1 hV_m1 p0_m1 p1_m1 p2_m1 p3_m1 p4_m1 => zmi_n ?_)
      have p0_m1 : zGW T (m1 94 55) (m1 109) := p0_m1
      have p1_m1 : zGU T (m 94 46) (m1 99) := p1_m1
      have p2_m1 : zOw (m1 99) (m1 103) (m1 111) := p2_m1
      have p3_m1 : zDX (m 94 10) (m1 99) (m 112) (m1 113) (m1 114) (m1 94 55) (m 98) (m 101) (m 102) (m 108) := p3_m1
      have p4_m1 : v2 + (m1 94 45) = (m 94 45) := p4_m1
      have b14 := i_bd v2
      exact K (v2) _ (zF_zov (zF_u zF_rfl rfl) ws_186_256) hV_m1 r_W p0_m1 p1_m1 p2_m1 p3_m1 r_GG (show zHA (m 94 10) (m 94 11) (m 94 13) (m 94 14) (m 94 16) (m 94 61) (m1 94 59) (m 94 60) (m1 99) (m 102) (m1 103) (m1 111) (m 117) (m 98) (m 101) (m 108) from by first | (exact ⟨fun z => absurd z (by omega), fun z => absurd z (by omega)⟩) | (exfalso; omega; done) | (exfalso; contradiction; done)) (show zRG (m 94 10) (m 94 18) (m 94 64) (m 94 63) (m1 99) (m1 103) (m 102) (m 116) from by first | (exact fun z => absurd z (by omega)) | (exfalso; omega; done) | (exfalso; contradiction; done)) (show (m 94 58).toInt = 0 ∨ (m 94 10).toInt = 5 from by omega) p4_m1 (show (0 : Int32).toInt = 0 from by omega)
    · skip
      have g15 := i_ne h11
      have li16 : (2 : Int32).toInt = 2 := rfl
      refine zd (fun (h17 : (m 94 10) = (2 : Int32)) => ?_) (fun (h17 : ¬ (m 94 10) = (2 : Int32)) => ?_)
      · skip
        have g18 := i_eq h17
        have hV19 : zV (ma_u m 94 0 (0 : Int32)) := uf_94_0 hV
        refine sp_206aw  hV19 r_W r_GW r_GU r_OW r_DX r_HA (show (m 94 10).toInt = 2 from by omega) (fun v4 m3 hV_m3 p0_m3 p1_m3 p2_m3 p3_m3 p4_m3 p5_m3 => zmi_n ?_)
        have p0_m3 : zGW T (m3 94 55) (m3 109) := p0_m3
        have p1_m3 : zGU T (m 94 46) (m3 99) := p1_m3
        have p2_m3 : zOw (m3 99) (m3 103) (m3 111) := p2_m3
        have p3_m3 : zDX (m 94 10) (m3 99) (m 112) (m3 113) (m3 114) (m3 94 55) (m 98) (m 101) (m 102) (m 108) := p3_m3
        have p4_m3 : zHA (m 94 10) (m 94 11) (m 94 13) (m 94 14) (m 94 16) (m3 94 61) (m3 94 59) (m3 94 60) (m3 99) (m 102) (m3 103) (m3 111) (m 117) (m 98) (m 101) (m 108) := p4_m3
        have p5_m3 : v4 + (m3 94 45) = (m 94 45) := p5_m3
        have b20 := i_bd v4
        exact K (v4) _ (zF_zov (zF_u zF_rfl rfl) ws_206_256) hV_m3 r_W p0_m3 p1_m3 p2_m3 p3_m3 r_GG p4_m3 (show zRG (m 94 10) (m 94 18) (m 94 64) (m 94 63) (m3 99) (m3 103) (m 102) (m 116) from by first | (exact fun z => absurd z (by omega)) | (exfalso; omega; done) | (exfalso; contradiction; done)) (show (m 94 58).toInt = 0 ∨ (m 94 10).toInt = 5 from by omega) p5_m3 (show (0 : Int32).toInt = 0 from by omega)
      · skip
        have g21 := i_ne h17
        have li22 : (3 : Int32).toInt = 3 := rfl
        refine zd (fun (h23 : (m 94 10) = (3 : Int32)) => ?_) (fun (h23 : ¬ (m 94 10) = (3 : Int32)) => ?_)
        · skip
          have g24 := i_eq h23
          have hV25 : zV (ma_u m 94 0 (0 : Int32)) := uf_94_0 hV
          refine sp_211aw  hV25 r_W r_GW r_GU r_OW r_DX r_HA (show (m 94 10).toInt = 3 from by omega) (fun v6 m5 hV_m5 p0_m5 p1_m5 p2_m5 p3_m5 p4_m5 p5_m5 => zmi_n ?_)
          have p0_m5 : zGW T (m5 94 55) (m5 109) := p0_m5
          have p1_m5 : zGU T (m 94 46) (m5 99) := p1_m5
          have p2_m5 : zOw (m5 99) (m5 103) (m5 111) := p2_m5
          have p3_m5 : zDX (m 94 10) (m5 99) (m 112) (m5 113) (m5 114) (m5 94 55) (m 98) (m 101) (m 102) (m 108) := p3_m5
          have p4_m5 : zHA (m 94 10) (m 94 11) (m 94 13) (m 94 14) (m 94 16) (m 94 61) (m 94 59) (m5 94 60) (m5 99) (m 102) (m5 103) (m5 111) (m5 117) (m 98) (m 101) (m 108) := p4_m5
          have p5_m5 : v6 + (m5 94 45) = (m 94 45) := p5_m5
          refine sp_214aw  hV_m5 r_W p0_m5 p1_m5 p2_m5 p3_m5 p4_m5 (show (m 94 10).toInt = 3 from by omega) (fun v8 m7 hV_m7 p0_m7 p1_m7 p2_m7 p3_m7 p4_m7 p5_m7 => zmi_n ?_)
          have p0_m7 : zGW T (m7 94 55) (m7 109) := p0_m7
          have p1_m7 : zGU T (m 94 46) (m7 99) := p1_m7
          have p2_m7 : zOw (m7 99) (m7 103) (m7 111) := p2_m7
          have p3_m7 : zDX (m 94 10) (m7 99) (m 112) (m7 113) (m7 114) (m7 94 55) (m 98) (m 101) (m 102) (m 108) := p3_m7
          have p4_m7 : zHA (m 94 10) (m 94 11) (m 94 13) (m 94 14) (m 94 16) (m7 94 61) (m7 94 59) (m7 94 60) (m7 99) (m 102) (m7 103) (m7 111) (m7 117) (m 98) (m 101) (m 108) := p4_m7
          have p5_m7 : v8 + (m7 94 45) = (m5 94 45) := p5_m7
          have b26 := i_bd v6
          have b27 := i_bd v8
          first | have e28 : (v6 + v8).toInt = v6.toInt + v8.toInt := i_add (by omega) (by omega) | have b29 := i_bd (v6 + v8)
          exact K ((v6 + v8)) _ (zF_zov (zF_zov (zF_u zF_rfl rfl) ws_211_256) ws_214_256) hV_m7 r_W p0_m7 p1_m7 p2_m7 p3_m7 r_GG p4_m7 (show zRG (m 94 10) (m 94 18) (m 94 64) (m 94 63) (m7 99) (m7 103) (m 102) (m 116) from by first | (exact fun z => absurd z (by omega)) | (exfalso; omega; done) | (exfalso; contradiction; done)) (show (m 94 58).toInt = 0 ∨ (m 94 10).toInt = 5 from by omega) (show (v6 + v8) + (m7 94 45) = (m 94 45) from by first | (exact i_wt p5_m7 p5_m5) | (exfalso; omega; done) | (exfalso; contradiction; done)) (show (0 : Int32).toInt = 0 from by omega)
        · skip
          have g30 := i_ne h23
          have li31 : (4 : Int32).toInt = 4 := rfl
          refine zd (fun (h32 : (m 94 10) = (4 : Int32)) => ?_) (fun (h32 : ¬ (m 94 10) = (4 : Int32)) => ?_)
          · skip
            have g33 := i_eq h32
            have hV34 : zV (ma_u m 94 0 (0 : Int32)) := uf_94_0 hV
            refine sp_187aw  hV34 r_W r_GW r_GU r_OW r_DX (fun v10 m9 hV_m9 p0_m9 p1_m9 p2_m9 p3_m9 p4_m9 p5_m9 => zmi_n ?_)
            have p0_m9 : zGW T (m9 94 55) (m9 109) := p0_m9
            have p1_m9 : zGU T (m 94 46) (m9 99) := p1_m9
            have p2_m9 : zOw (m9 99) (m 103) (m9 111) := p2_m9
            have p3_m9 : zDX (m 94 10) (m9 99) (m 112) (m9 113) (m9 114) (m9 94 55) (m 98) (m 101) (m 102) (m 108) := p3_m9
            have p4_m9 : zsw (m 99) (m9 99) (m 111) (m9 111) (m 103) := p4_m9
            have p5_m9 : v10 + (m9 94 45) = (m 94 45) := p5_m9
            have b35 := i_bd v10
            exact K (v10) _ (zF_zov (zF_u zF_rfl rfl) ws_187_256) hV_m9 r_W p0_m9 p1_m9 p2_m9 p3_m9 r_GG (show zHA (m 94 10) (m 94 11) (m 94 13) (m 94 14) (m 94 16) (m 94 61) (m 94 59) (m 94 60) (m9 99) (m 102) (m 103) (m9 111) (m 117) (m 98) (m 101) (m 108) from by first | (exact ⟨fun z => absurd z (by omega), fun z => absurd z (by omega)⟩) | (exfalso; omega; done) | (exfalso; contradiction; done)) (show zRG (m 94 10) (m 94 18) (m 94 64) (m 94 63) (m9 99) (m 103) (m 102) (m 116) from by first | (exact fun z => absurd z (by omega)) | (exfalso; omega; done) | (exfalso; contradiction; done)) (show (m 94 58).toInt = 0 ∨ (m 94 10).toInt = 5 from by omega) p5_m9 (show (0 : Int32).toInt = 0 from by omega)
          · skip
            have g36 := i_ne h32
            have li37 : (5 : Int32).toInt = 5 := rfl
            refine zd (fun (h38 : (m 94 10) = (5 : Int32)) => ?_) (fun (h38 : ¬ (m 94 10) = (5 : Int32)) => ?_)
            · skip
              have g39 := i_eq h38
              refine zd (fun (h40 : (m 94 58) = (0 : Int32)) => ?_) (fun (h40 : ¬ (m 94 58) = (0 : Int32)) => ?_)
              · skip
                have g41 := i_eq h40
                have hV42 : zV (ma_u m 94 0 (0 : Int32)) := uf_94_0 hV
                refine sp_219  hV42  (fun m13 hV_m13 p0_m13 p1_m13 => zmv_n ?_)
                have p0_m13 : zG1 (m13 94 56) (m13 94 57) (m13 106) := p0_m13
                have p1_m13 : (m13 94 58).toInt = 1 := p1_m13
                have f43 : 0 ≤ (m13 94 58).toInt ∧ (m13 94 58).toInt ≤ 1 := rs_94_58 (m := (zov wr_219 (ma_u m 94 0 (0 : Int32)) m13)) hV_m13
                refine sp_230aw  hV_m13 r_W r_GW r_GU r_OW r_DX (show zGG (m13 94 58) (m13 94 56) (m13 94 57) (m13 106) from by first | (exact fun z => absurd z (by omega)) | (exact fun _ => p0_m13) | (exact fun z => absurd z (by decide)) | (exact fun z => absurd z (by omega)) | (exfalso; omega; done) | (exfalso; contradiction; done)) (show (m 94 10).toInt = 5 from by omega) (fun v16 m15 hV_m15 p0_m15 p1_m15 p2_m15 p3_m15 p4_m15 p5_m15 p6_m15 => zmi_n ?_)
                have p0_m15 : zGW T (m15 94 55) (m15 109) := p0_m15
                have p1_m15 : zGU T (m 94 46) (m15 99) := p1_m15
                have p2_m15 : zOw (m15 99) (m 103) (m15 111) := p2_m15
                have p3_m15 : zDX (m 94 10) (m15 99) (m 112) (m15 113) (m15 114) (m15 94 55) (m 98) (m 101) (m 102) (m 108) := p3_m15
                have p4_m15 : zGG (m15 94 58) (m15 94 56) (m15 94 57) (m15 106) := p4_m15
                have p5_m15 : (m15 94 58).toInt = 0 := p5_m15
                have p6_m15 : v16 + (m15 94 45) = (m 94 45) := p6_m15
                have f44 : 0 ≤ (m15 94 58).toInt ∧ (m15 94 58).toInt ≤ 1 := rs_94_58 (m := (zov wr_230 (zov wr_219 (ma_u m 94 0 (0 : Int32)) m13) m15)) hV_m15
                have b45 := i_bd v16
                exact K (v16) _ (zF_zov (zF_zov (zF_u zF_rfl rfl) ws_219_256) ws_230_256) hV_m15 r_W p0_m15 p1_m15 p2_m15 p3_m15 p4_m15 (show zHA (m 94 10) (m 94 11) (m 94 13) (m 94 14) (m 94 16) (m 94 61) (m 94 59) (m 94 60) (m15 99) (m 102) (m 103) (m15 111) (m 117) (m 98) (m 101) (m 108) from by first | (exact ⟨fun z => absurd z (by omega), fun z => absurd z (by omega)⟩) | (exfalso; omega; done) | (exfalso; contradiction; done)) (show zRG (m 94 10) (m 94 18) (m 94 64) (m 94 63) (m15 99) (m 103) (m 102) (m 116) from by first | (exact fun z => absurd z (by omega)) | (exfalso; omega; done) | (exfalso; contradiction; done)) (show (m15 94 58).toInt = 0 ∨ (m 94 10).toInt = 5 from by omega) p6_m15 (show (0 : Int32).toInt = 0 from by omega)
              · skip
                have g46 := i_ne h40
                have hV47 : zV (ma_u m 94 0 (0 : Int32)) := uf_94_0 hV
                refine sp_230aw  hV47 r_W r_GW r_GU r_OW r_DX r_GG (show (m 94 10).toInt = 5 from by omega) (fun v12 m11 hV_m11 p0_m11 p1_m11 p2_m11 p3_m11 p4_m11 p5_m11 p6_m11 => zmi_n ?_)
                have p0_m11 : zGW T (m11 94 55) (m11 109) := p0_m11
                have p1_m11 : zGU T (m 94 46) (m11 99) := p1_m11
                have p2_m11 : zOw (m11 99) (m 103) (m11 111) := p2_m11
                have p3_m11 : zDX (m 94 10) (m11 99) (m 112) (m11 113) (m11 114) (m11 94 55) (m 98) (m 101) (m 102) (m 108) := p3_m11
                have p4_m11 : zGG (m11 94 58) (m11 94 56) (m11 94 57) (m11 106) := p4_m11
                have p5_m11 : (m11 94 58).toInt = 0 := p5_m11
                have p6_m11 : v12 + (m11 94 45) = (m 94 45) := p6_m11
                have f48 : 0 ≤ (m11 94 58).toInt ∧ (m11 94 58).toInt ≤ 1 := rs_94_58 (m := (zov wr_230 (ma_u m 94 0 (0 : Int32)) m11)) hV_m11
                have b49 := i_bd v12
                exact K (v12) _ (zF_zov (zF_u zF_rfl rfl) ws_230_256) hV_m11 r_W p0_m11 p1_m11 p2_m11 p3_m11 p4_m11 (show zHA (m 94 10) (m 94 11) (m 94 13) (m 94 14) (m 94 16) (m 94 61) (m 94 59) (m 94 60) (m11 99) (m 102) (m 103) (m11 111) (m 117) (m 98) (m 101) (m 108) from by first | (exact ⟨fun z => absurd z (by omega), fun z => absurd z (by omega)⟩) | (exfalso; omega; done) | (exfalso; contradiction; done)) (show zRG (m 94 10) (m 94 18) (m 94 64) (m 94 63) (m11 99) (m 103) (m 102) (m 116) from by first | (exact fun z => absurd z (by omega)) | (exfalso; omega; done) | (exfalso; contradiction; done)) (show (m11 94 58).toInt = 0 ∨ (m 94 10).toInt = 5 from by omega) p6_m11 (show (0 : Int32).toInt = 0 from by omega)
            · skip
              have g50 := i_ne h38
              have li51 : (6 : Int32).toInt = 6 := rfl
              refine zd (fun (h52 : (m 94 10) = (6 : Int32)) => ?_) (fun (h52 : ¬ (m 94 10) = (6 : Int32)) => ?_)
              · skip
                have g53 := i_eq h52
                have hV54 : zV (ma_u m 94 0 (0 : Int32)) := uf_94_0 hV
                refine sp_235aw  hV54 r_W r_GW r_GU r_OW r_DX (show zRG1 (m 94 18) (m 94 64) (m 94 63) (m 99) (m 103) (m 102) (m 116) from by first | (exact r_RGc (by omega)) | (exfalso; omega; done) | (exfalso; contradiction; done)) (show (m 94 10).toInt = 6 from by omega) (fun v18 m17 hV_m17 p0_m17 p1_m17 p2_m17 p3_m17 p4_m17 p5_m17 => zmi_n ?_)
                have p0_m17 : zGW T (m17 94 55) (m17 109) := p0_m17
                have p1_m17 : zGU T (m 94 46) (m17 99) := p1_m17
                have p2_m17 : zOw (m17 99) (m17 103) (m17 111) := p2_m17
                have p3_m17 : zDX (m 94 10) (m17 99) (m 112) (m17 113) (m17 114) (m17 94 55) (m 98) (m 101) (m 102) (m 108) := p3_m17
                have p4_m17 : zRG1 (m 94 18) (m 94 64) (m17 94 63) (m17 99) (m17 103) (m 102) (m17 116) := p4_m17
                have p5_m17 : v18 + (m17 94 45) = (m 94 45) := p5_m17
                have b55 := i_bd v18
                exact K (v18) _ (zF_zov (zF_u zF_rfl rfl) ws_235_256) hV_m17 r_W p0_m17 p1_m17 p2_m17 p3_m17 r_GG (show zHA (m 94 10) (m 94 11) (m 94 13) (m 94 14) (m 94 16) (m 94 61) (m 94 59) (m 94 60) (m17 99) (m 102) (m17 103) (m17 111) (m 117) (m 98) (m 101) (m 108) from by first | (exact ⟨fun z => absurd z (by omega), fun z => absurd z (by omega)⟩) | (exfalso; omega; done) | (exfalso; contradiction; done)) (show zRG (m 94 10) (m 94 18) (m 94 64) (m17 94 63) (m17 99) (m17 103) (m 102) (m17 116) from by first | (exact fun z => absurd z (by omega)) | (exact fun _ => p4_m17) | (exfalso; omega; done) | (exfalso; contradiction; done)) (show (m 94 58).toInt = 0 ∨ (m 94 10).toInt = 5 from by omega) p5_m17 (show (0 : Int32).toInt = 0 from by omega)
              · skip
                have g56 := i_ne h52
                have hV57 : zV (ma_u m 94 0 (0 : Int32)) := uf_94_0 hV
                refine sp_187aw  hV57 r_W r_GW r_GU r_OW r_DX (fun v20 m19 hV_m19 p0_m19 p1_m19 p2_m19 p3_m19 p4_m19 p5_m19 => zmi_n ?_)
                have p0_m19 : zGW T (m19 94 55) (m19 109) := p0_m19
                have p1_m19 : zGU T (m 94 46) (m19 99) := p1_m19
                have p2_m19 : zOw (m19 99) (m 103) (m19 111) := p2_m19
                have p3_m19 : zDX (m 94 10) (m19 99) (m 112) (m19 113) (m19 114) (m19 94 55) (m 98) (m 101) (m 102) (m 108) := p3_m19
                have p4_m19 : zsw (m 99) (m19 99) (m 111) (m19 111) (m 103) := p4_m19
                have p5_m19 : v20 + (m19 94 45) = (m 94 45) := p5_m19
                have b58 := i_bd v20
                exact K (v20) _ (zF_zov (zF_u zF_rfl rfl) ws_187_256) hV_m19 r_W p0_m19 p1_m19 p2_m19 p3_m19 r_GG (show zHA (m 94 10) (m 94 11) (m 94 13) (m 94 14) (m 94 16) (m 94 61) (m 94 59) (m 94 60) (m19 99) (m 102) (m 103) (m19 111) (m 117) (m 98) (m 101) (m 108) from by first | (exact ⟨fun z => absurd z (by omega), fun z => absurd z (by omega)⟩) | (exfalso; omega; done) | (exfalso; contradiction; done)) (show zRG (m 94 10) (m 94 18) (m 94 64) (m 94 63) (m19 99) (m 103) (m 102) (m 116) from by first | (exact fun z => absurd z (by omega)) | (exfalso; omega; done) | (exfalso; contradiction; done)) (show (m 94 58).toInt = 0 ∨ (m 94 10).toInt = 5 from by omega) p5_m19 (show (0 : Int32).toInt = 0 from by omega)
theorem sp_256av {X : Nat × (Nat → Int32)} {P : Option ma_V → (Nat → Nat → Int32) → Prop} {T : Nat} {m : Nat → Nat → Int32}  (hV : zV m) (hpre0 : (m 94 8).toInt = 0) (KZ : ∀ v m₉, zV (zov wr_256 m m₉) → ((m₉ 94 0).toInt = 1) → P (some (.inl v)) (zov wr_256 m m₉)) : zm X 7 152 256 0 [(0, .inr (.inr (some 94)))] m P := by
  have K : ∀ v m₉, zF wr_256 m m₉ → zV m₉ → ((m₉ 94 0).toInt = 1) → P (some (.inl v)) m₉ := by
    intro v m₉ hf z q0
    have e := zov_eq hf
    rw [e] at z ⊢
    try rw [e] at q0
    exact KZ v m₉ z q0
  refine g_256_0  ?_
  have f1 : 0 ≤ (m 94 8).toInt ∧ (m 94 8).toInt ≤ 1 := rs_94_8 (m := m) hV
  have li2 : (0 : Int32).toInt = 0 := rfl
  refine zd (fun (h3 : (m 94 8) = (0 : Int32)) => ?_) (fun (h3 : ¬ (m 94 8) = (0 : Int32)) => ?_)
  · skip
    have g4 := i_eq h3
    have hV5 : zV (ma_u m 94 0 (1 : Int32)) := uf_94_0 hV
    have li6 : (1 : Int32).toInt = 1 := rfl
    have f7 : 0 ≤ (m 94 7).toInt ∧ (m 94 7).toInt ≤ 16 := rs_94_7 (m := m) hV
    exact K ((0 : Int32)) _ (zF_u zF_rfl rfl) hV5 (show (1 : Int32).toInt = 1 from by omega)
  · skip
    have g8 := i_ne h3
    have f9 : 0 ≤ (m 94 10).toInt ∧ (m 94 10).toInt ≤ 6 := rs_94_10 (m := m) hV
    have li10 : (1 : Int32).toInt = 1 := rfl
    refine zd (fun (h11 : (m 94 10) = (1 : Int32)) => ?_) (fun (h11 : ¬ (m 94 10) = (1 : Int32)) => ?_)
    · skip
      have g12 := i_eq h11
      have hV13 : zV (ma_u m 94 0 (0 : Int32)) := uf_94_0 hV
      refine sp_186  hV13 (show zW (m 94 7) (m 98) (m 101) (m 102) (m 108) from by first | (exfalso; omega; done) | (exfalso; contradiction; done)) (show zGW T (m 94 55) (m 109) from by first | (exfalso; omega; done) | (exfalso; contradiction; done)) (show zGU T (m 94 46) (m 99) from by first | (exfalso; omega; done) | (exfalso; contradiction; done)) (show zOw (m 99) (m 103) (m 111) from by first | (exfalso; omega; done) | (exfalso; contradiction; done)) (show zDX (m 94 10) (m 99) (m 112) (m 113) (m 114) (m 94 55) (m 98) (m 101) (m 102) (m 108) from by first | (exfalso; omega; done) | (exfalso; contradiction; done)) (fun v2 m1 hV_m1 p0_m1 p1_m1 p2_m1 p3_m1 => zmi_n ?_)
      have p0_m1 : zGW T (m1 94 55) (m1 109) := p0_m1
      have p1_m1 : zGU T (m 94 46) (m1 99) := p1_m1
      have p2_m1 : zOw (m1 99) (m1 103) (m1 111) := p2_m1
      have p3_m1 : zDX (m 94 10) (m1 99) (m 112) (m1 113) (m1 114) (m1 94 55) (m 98) (m 101) (m 102) (m 108) := p3_m1
      have b14 := i_bd v2
      have f15 : 0 ≤ (m 94 7).toInt ∧ (m 94 7).toInt ≤ 16 := rs_94_7 (m := m) hV
      exact K (v2) _ (zF_zov (zF_u zF_rfl rfl) ws_186_256) hV_m1 (show (0 : Int32).toInt = 1 from by omega)
    · skip
      have g16 := i_ne h11
      have li17 : (2 : Int32).toInt = 2 := rfl
      refine zd (fun (h18 : (m 94 10) = (2 : Int32)) => ?_) (fun (h18 : ¬ (m 94 10) = (2 : Int32)) => ?_)
      · skip
        have g19 := i_eq h18
        have hV20 : zV (ma_u m 94 0 (0 : Int32)) := uf_94_0 hV
        refine sp_206  hV20 (show zW (m 94 7) (m 98) (m 101) (m 102) (m 108) from by first | (exfalso; omega; done) | (exfalso; contradiction; done)) (show zGW T (m 94 55) (m 109) from by first | (exfalso; omega; done) | (exfalso; contradiction; done)) (show zGU T (m 94 46) (m 99) from by first | (exfalso; omega; done) | (exfalso; contradiction; done)) (show zOw (m 99) (m 103) (m 111) from by first | (exfalso; omega; done) | (exfalso; contradiction; done)) (show zDX (m 94 10) (m 99) (m 112) (m 113) (m 114) (m 94 55) (m 98) (m 101) (m 102) (m 108) from by first | (exfalso; omega; done) | (exfalso; contradiction; done)) (show zHA (m 94 10) (m 94 11) (m 94 13) (m 94 14) (m 94 16) (m 94 61) (m 94 59) (m 94 60) (m 99) (m 102) (m 103) (m 111) (m 117) (m 98) (m 101) (m 108) from by first | (exfalso; omega; done) | (exfalso; contradiction; done)) (show (m 94 10).toInt = 2 from by omega) (fun v4 m3 hV_m3 p0_m3 p1_m3 p2_m3 p3_m3 p4_m3 => zmi_n ?_)
        have p0_m3 : zGW T (m3 94 55) (m3 109) := p0_m3
        have p1_m3 : zGU T (m 94 46) (m3 99) := p1_m3
        have p2_m3 : zOw (m3 99) (m3 103) (m3 111) := p2_m3
        have p3_m3 : zDX (m 94 10) (m3 99) (m 112) (m3 113) (m3 114) (m3 94 55) (m 98) (m 101) (m 102) (m 108) := p3_m3
        have p4_m3 : zHA (m 94 10) (m 94 11) (m 94 13) (m 94 14) (m 94 16) (m3 94 61) (m3 94 59) (m3 94 60) (m3 99) (m 102) (m3 103) (m3 111) (m 117) (m 98) (m 101) (m 108) := p4_m3
        have b21 := i_bd v4
        have f22 : 0 ≤ (m 94 7).toInt ∧ (m 94 7).toInt ≤ 16 := rs_94_7 (m := m) hV
        exact K (v4) _ (zF_zov (zF_u zF_rfl rfl) ws_206_256) hV_m3 (show (0 : Int32).toInt = 1 from by omega)
      · skip
        have g23 := i_ne h18
        have li24 : (3 : Int32).toInt = 3 := rfl
        refine zd (fun (h25 : (m 94 10) = (3 : Int32)) => ?_) (fun (h25 : ¬ (m 94 10) = (3 : Int32)) => ?_)
        · skip
          have g26 := i_eq h25
          have hV27 : zV (ma_u m 94 0 (0 : Int32)) := uf_94_0 hV
          refine sp_211  hV27 (show zW (m 94 7) (m 98) (m 101) (m 102) (m 108) from by first | (exfalso; omega; done) | (exfalso; contradiction; done)) (show zGW T (m 94 55) (m 109) from by first | (exfalso; omega; done) | (exfalso; contradiction; done)) (show zGU T (m 94 46) (m 99) from by first | (exfalso; omega; done) | (exfalso; contradiction; done)) (show zOw (m 99) (m 103) (m 111) from by first | (exfalso; omega; done) | (exfalso; contradiction; done)) (show zDX (m 94 10) (m 99) (m 112) (m 113) (m 114) (m 94 55) (m 98) (m 101) (m 102) (m 108) from by first | (exfalso; omega; done) | (exfalso; contradiction; done)) (show zHA (m 94 10) (m 94 11) (m 94 13) (m 94 14) (m 94 16) (m 94 61) (m 94 59) (m 94 60) (m 99) (m 102) (m 103) (m 111) (m 117) (m 98) (m 101) (m 108) from by first | (exfalso; omega; done) | (exfalso; contradiction; done)) (show (m 94 10).toInt = 3 from by omega) (fun v6 m5 hV_m5 p0_m5 p1_m5 p2_m5 p3_m5 p4_m5 => zmi_n ?_)
          have p0_m5 : zGW T (m5 94 55) (m5 109) := p0_m5
          have p1_m5 : zGU T (m 94 46) (m5 99) := p1_m5
          have p2_m5 : zOw (m5 99) (m5 103) (m5 111) := p2_m5
          have p3_m5 : zDX (m 94 10) (m5 99) (m 112) (m5 113) (m5 114) (m5 94 55) (m 98) (m 101) (m 102) (m 108) := p3_m5
          have p4_m5 : zHA (m 94 10) (m 94 11) (m 94 13) (m 94 14) (m 94 16) (m 94 61) (m 94 59) (m5 94 60) (m5 99) (m 102) (m5 103) (m5 111) (m5 117) (m 98) (m 101) (m 108) := p4_m5
          refine sp_214  hV_m5 (show zW (m 94 7) (m 98) (m 101) (m 102) (m 108) from by first | (exfalso; omega; done) | (exfalso; contradiction; done)) p0_m5 p1_m5 p2_m5 p3_m5 p4_m5 (show (m 94 10).toInt = 3 from by omega) (fun v8 m7 hV_m7 p0_m7 p1_m7 p2_m7 p3_m7 p4_m7 => zmi_n ?_)
          have p0_m7 : zGW T (m7 94 55) (m7 109) := p0_m7
          have p1_m7 : zGU T (m 94 46) (m7 99) := p1_m7
          have p2_m7 : zOw (m7 99) (m7 103) (m7 111) := p2_m7
          have p3_m7 : zDX (m 94 10) (m7 99) (m 112) (m7 113) (m7 114) (m7 94 55) (m 98) (m 101) (m 102) (m 108) := p3_m7
          have p4_m7 : zHA (m 94 10) (m 94 11) (m 94 13) (m 94 14) (m 94 16) (m7 94 61) (m7 94 59) (m7 94 60) (m7 99) (m 102) (m7 103) (m7 111) (m7 117) (m 98) (m 101) (m 108) := p4_m7
          have b28 := i_bd v6
          have b29 := i_bd v8
          first | have e30 : (v6 + v8).toInt = v6.toInt + v8.toInt := i_add (by omega) (by omega) | have b31 := i_bd (v6 + v8)
          have f32 : 0 ≤ (m 94 7).toInt ∧ (m 94 7).toInt ≤ 16 := rs_94_7 (m := m) hV
          exact K ((v6 + v8)) _ (zF_zov (zF_zov (zF_u zF_rfl rfl) ws_211_256) ws_214_256) hV_m7 (show (0 : Int32).toInt = 1 from by omega)
        · skip
          have g33 := i_ne h25
          have li34 : (4 : Int32).toInt = 4 := rfl
          refine zd (fun (h35 : (m 94 10) = (4 : Int32)) => ?_) (fun (h35 : ¬ (m 94 10) = (4 : Int32)) => ?_)
          · skip
            have g36 := i_eq h35
            have hV37 : zV (ma_u m 94 0 (0 : Int32)) := uf_94_0 hV
            refine sp_187  hV37 (show zW (m 94 7) (m 98) (m 101) (m 102) (m 108) from by first | (exfalso; omega; done) | (exfalso; contradiction; done)) (show zGW T (m 94 55) (m 109) from by first | (exfalso; omega; done) | (exfalso; contradiction; done)) (show zGU T (m 94 46) (m 99) from by first | (exfalso; omega; done) | (exfalso; contradiction; done)) (show zOw (m 99) (m 103) (m 111) from by first | (exfalso; omega; done) | (exfalso; contradiction; done)) (show zDX (m 94 10) (m 99) (m 112) (m 113) (m 114) (m 94 55) (m 98) (m 101) (m 102) (m 108) from by first | (exfalso; omega; done) | (exfalso; contradiction; done)) (fun v10 m9 hV_m9 p0_m9 p1_m9 p2_m9 p3_m9 p4_m9 => zmi_n ?_)
            have p0_m9 : zGW T (m9 94 55) (m9 109) := p0_m9
            have p1_m9 : zGU T (m 94 46) (m9 99) := p1_m9
            have p2_m9 : zOw (m9 99) (m 103) (m9 111) := p2_m9
            have p3_m9 : zDX (m 94 10) (m9 99) (m 112) (m9 113) (m9 114) (m9 94 55) (m 98) (m 101) (m 102) (m 108) := p3_m9
            have p4_m9 : zsw (m 99) (m9 99) (m 111) (m9 111) (m 103) := p4_m9
            have b38 := i_bd v10
            have f39 : 0 ≤ (m 94 7).toInt ∧ (m 94 7).toInt ≤ 16 := rs_94_7 (m := m) hV
            exact K (v10) _ (zF_zov (zF_u zF_rfl rfl) ws_187_256) hV_m9 (show (0 : Int32).toInt = 1 from by omega)
          · skip
            have g40 := i_ne h35
            have li41 : (5 : Int32).toInt = 5 := rfl
            refine zd (fun (h42 : (m 94 10) = (5 : Int32)) => ?_) (fun (h42 : ¬ (m 94 10) = (5 : Int32)) => ?_)
            · skip
              have g43 := i_eq h42
              have f44 : 0 ≤ (m 94 58).toInt ∧ (m 94 58).toInt ≤ 1 := rs_94_58 (m := m) hV
              refine zd (fun (h45 : (m 94 58) = (0 : Int32)) => ?_) (fun (h45 : ¬ (m 94 58) = (0 : Int32)) => ?_)
              · skip
                have g46 := i_eq h45
                have hV47 : zV (ma_u m 94 0 (0 : Int32)) := uf_94_0 hV
                refine sp_219  hV47  (fun m13 hV_m13 p0_m13 p1_m13 => zmv_n ?_)
                have p0_m13 : zG1 (m13 94 56) (m13 94 57) (m13 106) := p0_m13
                have p1_m13 : (m13 94 58).toInt = 1 := p1_m13
                have f48 : 0 ≤ (m13 94 58).toInt ∧ (m13 94 58).toInt ≤ 1 := rs_94_58 (m := (zov wr_219 (ma_u m 94 0 (0 : Int32)) m13)) hV_m13
                refine sp_230  hV_m13 (show zW (m 94 7) (m 98) (m 101) (m 102) (m 108) from by first | (exfalso; omega; done) | (exfalso; contradiction; done)) (show zGW T (m 94 55) (m 109) from by first | (exfalso; omega; done) | (exfalso; contradiction; done)) (show zGU T (m 94 46) (m 99) from by first | (exfalso; omega; done) | (exfalso; contradiction; done)) (show zOw (m 99) (m 103) (m 111) from by first | (exfalso; omega; done) | (exfalso; contradiction; done)) (show zDX (m 94 10) (m 99) (m 112) (m 113) (m 114) (m 94 55) (m 98) (m 101) (m 102) (m 108) from by first | (exfalso; omega; done) | (exfalso; contradiction; done)) (show zGG (m13 94 58) (m13 94 56) (m13 94 57) (m13 106) from by first | (exact fun _ => p0_m13) | (exact fun z => absurd z (by decide)) | (exact fun z => absurd z (by omega)) | (exfalso; omega; done) | (exfalso; contradiction; done)) (show (m 94 10).toInt = 5 from by omega) (fun v16 m15 hV_m15 p0_m15 p1_m15 p2_m15 p3_m15 p4_m15 p5_m15 => zmi_n ?_)
                have p0_m15 : zGW T (m15 94 55) (m15 109) := p0_m15
                have p1_m15 : zGU T (m 94 46) (m15 99) := p1_m15
                have p2_m15 : zOw (m15 99) (m 103) (m15 111) := p2_m15
                have p3_m15 : zDX (m 94 10) (m15 99) (m 112) (m15 113) (m15 114) (m15 94 55) (m 98) (m 101) (m 102) (m 108) := p3_m15
                have p4_m15 : zGG (m15 94 58) (m15 94 56) (m15 94 57) (m15 106) := p4_m15
                have p5_m15 : (m15 94 58).toInt = 0 := p5_m15
                have f49 : 0 ≤ (m15 94 58).toInt ∧ (m15 94 58).toInt ≤ 1 := rs_94_58 (m := (zov wr_230 (zov wr_219 (ma_u m 94 0 (0 : Int32)) m13) m15)) hV_m15
                have b50 := i_bd v16
                have f51 : 0 ≤ (m 94 7).toInt ∧ (m 94 7).toInt ≤ 16 := rs_94_7 (m := m) hV
                exact K (v16) _ (zF_zov (zF_zov (zF_u zF_rfl rfl) ws_219_256) ws_230_256) hV_m15 (show (0 : Int32).toInt = 1 from by omega)
              · skip
                have g52 := i_ne h45
                have hV53 : zV (ma_u m 94 0 (0 : Int32)) := uf_94_0 hV
                refine sp_230  hV53 (show zW (m 94 7) (m 98) (m 101) (m 102) (m 108) from by first | (exfalso; omega; done) | (exfalso; contradiction; done)) (show zGW T (m 94 55) (m 109) from by first | (exfalso; omega; done) | (exfalso; contradiction; done)) (show zGU T (m 94 46) (m 99) from by first | (exfalso; omega; done) | (exfalso; contradiction; done)) (show zOw (m 99) (m 103) (m 111) from by first | (exfalso; omega; done) | (exfalso; contradiction; done)) (show zDX (m 94 10) (m 99) (m 112) (m 113) (m 114) (m 94 55) (m 98) (m 101) (m 102) (m 108) from by first | (exfalso; omega; done) | (exfalso; contradiction; done)) (show zGG (m 94 58) (m 94 56) (m 94 57) (m 106) from by first | (exact fun z => absurd z (by decide)) | (exact fun z => absurd z (by omega)) | (exfalso; omega; done) | (exfalso; contradiction; done)) (show (m 94 10).toInt = 5 from by omega) (fun v12 m11 hV_m11 p0_m11 p1_m11 p2_m11 p3_m11 p4_m11 p5_m11 => zmi_n ?_)
                have p0_m11 : zGW T (m11 94 55) (m11 109) := p0_m11
                have p1_m11 : zGU T (m 94 46) (m11 99) := p1_m11
                have p2_m11 : zOw (m11 99) (m 103) (m11 111) := p2_m11
                have p3_m11 : zDX (m 94 10) (m11 99) (m 112) (m11 113) (m11 114) (m11 94 55) (m 98) (m 101) (m 102) (m 108) := p3_m11
                have p4_m11 : zGG (m11 94 58) (m11 94 56) (m11 94 57) (m11 106) := p4_m11
                have p5_m11 : (m11 94 58).toInt = 0 := p5_m11
                have f54 : 0 ≤ (m11 94 58).toInt ∧ (m11 94 58).toInt ≤ 1 := rs_94_58 (m := (zov wr_230 (ma_u m 94 0 (0 : Int32)) m11)) hV_m11
                have b55 := i_bd v12
                have f56 : 0 ≤ (m 94 7).toInt ∧ (m 94 7).toInt ≤ 16 := rs_94_7 (m := m) hV
                exact K (v12) _ (zF_zov (zF_u zF_rfl rfl) ws_230_256) hV_m11 (show (0 : Int32).toInt = 1 from by omega)
            · skip
              have g57 := i_ne h42
              have li58 : (6 : Int32).toInt = 6 := rfl
              refine zd (fun (h59 : (m 94 10) = (6 : Int32)) => ?_) (fun (h59 : ¬ (m 94 10) = (6 : Int32)) => ?_)
              · skip
                have g60 := i_eq h59
                have hV61 : zV (ma_u m 94 0 (0 : Int32)) := uf_94_0 hV
                refine sp_235  hV61 (show zW (m 94 7) (m 98) (m 101) (m 102) (m 108) from by first | (exfalso; omega; done) | (exfalso; contradiction; done)) (show zGW T (m 94 55) (m 109) from by first | (exfalso; omega; done) | (exfalso; contradiction; done)) (show zGU T (m 94 46) (m 99) from by first | (exfalso; omega; done) | (exfalso; contradiction; done)) (show zOw (m 99) (m 103) (m 111) from by first | (exfalso; omega; done) | (exfalso; contradiction; done)) (show zDX (m 94 10) (m 99) (m 112) (m 113) (m 114) (m 94 55) (m 98) (m 101) (m 102) (m 108) from by first | (exfalso; omega; done) | (exfalso; contradiction; done)) (show zRG1 (m 94 18) (m 94 64) (m 94 63) (m 99) (m 103) (m 102) (m 116) from by first | (exfalso; omega; done) | (exfalso; contradiction; done)) (show (m 94 10).toInt = 6 from by omega) (fun v18 m17 hV_m17 p0_m17 p1_m17 p2_m17 p3_m17 p4_m17 => zmi_n ?_)
                have p0_m17 : zGW T (m17 94 55) (m17 109) := p0_m17
                have p1_m17 : zGU T (m 94 46) (m17 99) := p1_m17
                have p2_m17 : zOw (m17 99) (m17 103) (m17 111) := p2_m17
                have p3_m17 : zDX (m 94 10) (m17 99) (m 112) (m17 113) (m17 114) (m17 94 55) (m 98) (m 101) (m 102) (m 108) := p3_m17
                have p4_m17 : zRG1 (m 94 18) (m 94 64) (m17 94 63) (m17 99) (m17 103) (m 102) (m17 116) := p4_m17
                have b62 := i_bd v18
                have f63 : 0 ≤ (m 94 7).toInt ∧ (m 94 7).toInt ≤ 16 := rs_94_7 (m := m) hV
                exact K (v18) _ (zF_zov (zF_u zF_rfl rfl) ws_235_256) hV_m17 (show (0 : Int32).toInt = 1 from by omega)
              · skip
                have g64 := i_ne h59
                have hV65 : zV (ma_u m 94 0 (0 : Int32)) := uf_94_0 hV
                refine sp_187  hV65 (show zW (m 94 7) (m 98) (m 101) (m 102) (m 108) from by first | (exfalso; omega; done) | (exfalso; contradiction; done)) (show zGW T (m 94 55) (m 109) from by first | (exfalso; omega; done) | (exfalso; contradiction; done)) (show zGU T (m 94 46) (m 99) from by first | (exfalso; omega; done) | (exfalso; contradiction; done)) (show zOw (m 99) (m 103) (m 111) from by first | (exfalso; omega; done) | (exfalso; contradiction; done)) (show zDX (m 94 10) (m 99) (m 112) (m 113) (m 114) (m 94 55) (m 98) (m 101) (m 102) (m 108) from by first | (exfalso; omega; done) | (exfalso; contradiction; done)) (fun v20 m19 hV_m19 p0_m19 p1_m19 p2_m19 p3_m19 p4_m19 => zmi_n ?_)
                have p0_m19 : zGW T (m19 94 55) (m19 109) := p0_m19
                have p1_m19 : zGU T (m 94 46) (m19 99) := p1_m19
                have p2_m19 : zOw (m19 99) (m 103) (m19 111) := p2_m19
                have p3_m19 : zDX (m 94 10) (m19 99) (m 112) (m19 113) (m19 114) (m19 94 55) (m 98) (m 101) (m 102) (m 108) := p3_m19
                have p4_m19 : zsw (m 99) (m19 99) (m 111) (m19 111) (m 103) := p4_m19
                have b66 := i_bd v20
                have f67 : 0 ≤ (m 94 7).toInt ∧ (m 94 7).toInt ≤ 16 := rs_94_7 (m := m) hV
                exact K (v20) _ (zF_zov (zF_u zF_rfl rfl) ws_187_256) hV_m19 (show (0 : Int32).toInt = 1 from by omega)
