/-! from 95.r01 -/
/-! the reference where it moves (written by wip/tools/gen15r.py) -/
theorem lp_188rm_61 {X : Nat × (Nat → Int32)} {P : Option ma_V → (Nat → Nat → Int32) → Prop} {aa : Nat→Nat→Int32} {ro : Int32} {fo : Int32} {le : Int32} {ra : Int32} {pi : Int32} {m0 : Nat → Nat → Int32} (h0 : zV m0) (K : ∀ m₉, zF wr_188 m0 m₉ → zV m₉ → ((m₉ 94 73).toInt = 0) → (∀ s, s < 3100 → (m₉ 99) s ≠ 0 → ((m₉ 110) s ≠ 0 ↔ zRch aa ((m₉ 100) s).toNatClampNeg)) → (∀ s, s < 3100 → (m₉ 110) s ≠ 0 → (m₉ 99) s ≠ 0) → P none m₉) : ∀ (n : Nat) (m : Nat → Nat → Int32) (l1 : Int32), (3100 - l1.toInt).toNat = n → zF wr_188 m0 m → zV m → (l1.toInt ≤ 3100) → (0 ≤ l1.toInt) → (zKS (m 110) (m 94 73)) → (zW (m 94 7) (m 98) (m 101) (m 102) (m 108)) → (qRB (m 99) (m 100) (m 98) (m 101) (m 102) (m 103) (m 107) (m 108) (m 109) (m 111) (m 112) (m 113) (m 114) (m 94 55) (m 94 46) ro fo le ra pi aa) → (qI aa) → (qKA (m 110) (m 99) (m 100) (m 98) (m 101) (m 102) (m 108) (m 118) (m 94 73) (zRch aa) (fun _ => False) 3100 0) → (zcov (m 110) (m 112) 16) → (zcov (m 110) (m 114) (m 94 55).toInt) → (∀ s : Nat, (s : Int) < l1.toInt → (m 99) s ≠ 0 → 0 < ((m 107) s).toInt → (m 110) s ≠ 0) → zm X 3 66 188 61 [(0, .inr (.inr (some 94))), (1, .inl l1)] m P := by
  intro n
  induction n using Nat.strongRecOn with
  | _ n IH =>
    intro m l1 hmu hF hV hi0 hi1 r_KS r_W r_RB r_QI r_KA r_CVR r_CVW r_CVH
    refine g_188_61 l1 ?_
    have li1 : (3100 : Int32).toInt = 3100 := rfl
    have b2 := i_bd l1
    refine zd (fun (h3 : (3100 : Int32) ≤ l1) => ?_) (fun (h3 : ¬ (3100 : Int32) ≤ l1) => ?_)
    · skip
      have g4 := i_le h3
      refine sp_191rm (aa := aa) (QQ := (zRch aa)) (DD := (fun _ => False))  hV r_KS r_W r_RB (show qQC (m 99) (m 100) (m 98) (m 101) (m 102) (m 108) (zRch aa) (fun _ => False) from by first | (exact QC_M r_RB) | (exfalso; omega; done) | (exfalso; contradiction; done)) r_KA (fun m1 hV_m1 p0_m1 p1_m1 p2_m1 => zmv_n ?_)
      have p0_m1 : (m1 94 73).toInt = 0 := p0_m1
      have p1_m1 : zle (m 110) (m1 110) := p1_m1
      have p2_m1 : qKA (m1 110) (m 99) (m 100) (m 98) (m 101) (m 102) (m 108) (m1 118) (m1 94 73) (zRch aa) (fun _ => False) 3100 0 := p2_m1
      have f5 : 0 ≤ (m1 94 73).toInt ∧ (m1 94 73).toInt ≤ 3100 := rs_94_73 (m := (zov wr_191 m m1)) hV_m1
      exact K _ (zF_zov hF ws_191_188) hV_m1 (show (m1 94 73).toInt = 0 from by omega) (show ∀ s, s < 3100 → (m 99) s ≠ 0 → ((m1 110) s ≠ 0 ↔ zRch aa ((m 100) s).toNatClampNeg) from by first | (exact fun s hs hu => KR_end r_RB p2_m1 (by omega) (cov_le r_CVR p1_m1 (fun k hk => (ra_112 hV (by omega)).2)) (cov_le r_CVW p1_m1 (fun k hk => (ra_114 hV (by have := rs_94_55 hV; omega)).2)) (fun s hs => cvh_le r_CVH p1_m1 (by omega) s (by omega)) hs hu) | (exfalso; omega; done) | (exfalso; contradiction; done)) (show ∀ s, s < 3100 → (m1 110) s ≠ 0 → (m 99) s ≠ 0 from by first | (exact fun s hs hk => (p2_m1.1 s hs hk).1) | (exfalso; omega; done) | (exfalso; contradiction; done))
    · skip
      have g6 := i_nle h3
      have hg7 : (0 ≤ l1 ∧ l1.toNatClampNeg < 3100) := i_ix (by omega) (by omega)
      refine ⟨hg7, ?_⟩
      first | have f8 : 0 ≤ (m 99 l1.toNatClampNeg).toInt ∧ (m 99 l1.toNatClampNeg).toInt ≤ 1 := ra_99 (m := m) hV (k := l1.toNatClampNeg) (i_ix (n := 3100) (by omega) (by omega)).2 | have b9 := i_bd (m 99 l1.toNatClampNeg)
      have li10 : (0 : Int32).toInt = 0 := rfl
      refine zd (fun (h11 : (m 99 l1.toNatClampNeg) = (0 : Int32)) => ?_) (fun (h11 : ¬ (m 99 l1.toNatClampNeg) = (0 : Int32)) => ?_)
      · skip
        have g12 := i_eq h11
        first | have e13 : (l1 + (1 : Int32)).toInt = l1.toInt + (1) := i_addk rfl (by omega) (by omega) | have b14 := i_bd (l1 + (1 : Int32))
        exact IH (3100 - (l1 + (1 : Int32)).toInt).toNat (by omega) _ ((l1 + (1 : Int32))) rfl hF hV (by omega) (by omega) r_KS r_W r_RB r_QI r_KA r_CVR r_CVW (show ∀ s : Nat, (s : Int) < (l1 + (1 : Int32)).toInt → (m 99) s ≠ 0 → 0 < ((m 107) s).toInt → (m 110) s ≠ 0 from by first | (intro s hs; omega; done) | (exact cvh_s r_CVH (by omega) (by omega) (Or.inl (by assumption))) | (exact cvh_s r_CVH (by omega) (by omega) (Or.inr (Or.inl (by omega)))) | (exact cvh_s r_CVH (by omega) (by omega) (Or.inr (Or.inr (by assumption)))) | (exfalso; omega; done) | (exfalso; contradiction; done))
      · skip
        have g15 := i_ne h11
        have hg16 : (0 ≤ l1 ∧ l1.toNatClampNeg < 3100) := i_ix (by omega) (by omega)
        refine ⟨hg16, ?_⟩
        have b17 := i_bd (m 107 l1.toNatClampNeg)
        refine zd (fun (h18 : (m 107 l1.toNatClampNeg) ≤ (0 : Int32)) => ?_) (fun (h18 : ¬ (m 107 l1.toNatClampNeg) ≤ (0 : Int32)) => ?_)
        · skip
          have g19 := i_le h18
          first | have e20 : (l1 + (1 : Int32)).toInt = l1.toInt + (1) := i_addk rfl (by omega) (by omega) | have b21 := i_bd (l1 + (1 : Int32))
          exact IH (3100 - (l1 + (1 : Int32)).toInt).toNat (by omega) _ ((l1 + (1 : Int32))) rfl hF hV (by omega) (by omega) r_KS r_W r_RB r_QI r_KA r_CVR r_CVW (show ∀ s : Nat, (s : Int) < (l1 + (1 : Int32)).toInt → (m 99) s ≠ 0 → 0 < ((m 107) s).toInt → (m 110) s ≠ 0 from by first | (intro s hs; omega; done) | (exact cvh_s r_CVH (by omega) (by omega) (Or.inl (by assumption))) | (exact cvh_s r_CVH (by omega) (by omega) (Or.inr (Or.inl (by omega)))) | (exact cvh_s r_CVH (by omega) (by omega) (Or.inr (Or.inr (by assumption)))) | (exfalso; omega; done) | (exfalso; contradiction; done))
        · skip
          have g22 := i_nle h18
          refine zd (fun (h23 : l1 < (0 : Int32)) => ?_) (fun (h23 : ¬ l1 < (0 : Int32)) => ?_)
          · skip
            have g24 := i_lt h23
            first | have e25 : (l1 + (1 : Int32)).toInt = l1.toInt + (1) := i_addk rfl (by omega) (by omega) | have b26 := i_bd (l1 + (1 : Int32))
            exact IH (3100 - (l1 + (1 : Int32)).toInt).toNat (by omega) _ ((l1 + (1 : Int32))) rfl hF hV (by omega) (by omega) r_KS r_W r_RB r_QI r_KA r_CVR r_CVW (show ∀ s : Nat, (s : Int) < (l1 + (1 : Int32)).toInt → (m 99) s ≠ 0 → 0 < ((m 107) s).toInt → (m 110) s ≠ 0 from by first | (intro s hs; omega; done) | (exact cvh_s r_CVH (by omega) (by omega) (Or.inl (by assumption))) | (exact cvh_s r_CVH (by omega) (by omega) (Or.inr (Or.inl (by omega)))) | (exact cvh_s r_CVH (by omega) (by omega) (Or.inr (Or.inr (by assumption)))) | (exfalso; omega; done) | (exfalso; contradiction; done))
          · skip
            have g27 := i_nlt h23
            have hg28 : (0 ≤ l1 ∧ l1.toNatClampNeg < 3100) := i_ix (by omega) (by omega)
            refine ⟨hg28, ?_⟩
            first | have f29 : 0 ≤ (m 110 l1.toNatClampNeg).toInt ∧ (m 110 l1.toNatClampNeg).toInt ≤ 1 := ra_110 (m := m) hV (k := l1.toNatClampNeg) (i_ix (n := 3100) (by omega) (by omega)).2 | have b30 := i_bd (m 110 l1.toNatClampNeg)
            refine zd (fun (h31 : (m 110 l1.toNatClampNeg) = (0 : Int32)) => ?_) (fun (h31 : ¬ (m 110 l1.toNatClampNeg) = (0 : Int32)) => ?_)
            · skip
              have g32 := i_eq h31
              have hg33 : (0 ≤ l1 ∧ l1.toNatClampNeg < 3100) := i_ix (by omega) (by omega)
              refine ⟨hg33, ?_⟩
              have f34 : 0 ≤ (m 94 73).toInt ∧ (m 94 73).toInt ≤ 3100 := rs_94_73 (m := m) hV
              try have gk := KS_room r_KS (by assumption) (by omega)
              have hg35 : (0 ≤ (m 94 73) ∧ (m 94 73).toNatClampNeg < 3100) := i_ix (by omega) (by omega)
              refine ⟨hg35, ?_⟩
              have li37 : (1 : Int32).toInt = 1 := rfl
              have hV36 : zV (ma_u m 110 l1.toNatClampNeg (1 : Int32)) := ua_110 hV (by omega) (by omega)
              have hV38 : zV (ma_u (ma_u m 110 l1.toNatClampNeg (1 : Int32)) 118 (m 94 73).toNatClampNeg l1) := ua_118 hV36 (by omega) (by omega)
              first | have e40 : ((m 94 73) + (1 : Int32)).toInt = (m 94 73).toInt + (1) := i_addk rfl (by omega) (by omega) | have b41 := i_bd ((m 94 73) + (1 : Int32))
              have hV39 : zV (ma_u (ma_u (ma_u m 110 l1.toNatClampNeg (1 : Int32)) 118 (m 94 73).toNatClampNeg l1) 94 73 ((m 94 73) + (1 : Int32))) := us_94_73 hV38 (by omega) (by omega)
              first | have e42 : (l1 + (1 : Int32)).toInt = l1.toInt + (1) := i_addk rfl (by omega) (by omega) | have b43 := i_bd (l1 + (1 : Int32))
              exact IH (3100 - (l1 + (1 : Int32)).toInt).toNat (by omega) _ ((l1 + (1 : Int32))) rfl (zF_u (zF_u (zF_u hF rfl) rfl) rfl) hV39 (by omega) (by omega) (show zKS ((ma_u m 110 l1.toNatClampNeg (1 : Int32)) 110) ((m 94 73) + (1 : Int32)) from by first | (exact KS_push r_KS (by assumption) (by omega) (by decide) (by assumption)) | (exact KS_push (KS_0 (r := m 110) (y := m 94 73) (by omega)) (by assumption) (by omega) (by decide) (by assumption)) | (exfalso; omega; done) | (exfalso; contradiction; done)) r_W r_RB r_QI (show qKA ((ma_u m 110 l1.toNatClampNeg (1 : Int32)) 110) (m 99) (m 100) (m 98) (m 101) (m 102) (m 108) ((ma_u m 118 (m 94 73).toNatClampNeg l1) 118) ((m 94 73) + (1 : Int32)) (zRch aa) (fun _ => False) 3100 0 from by first | (exact KA_push r_KA (by omega) (by omega) (by assumption) (Rc_ho r_RB r_QI (by omega) (by assumption) (by omega)) (by assumption) (by omega) (by omega) (by decide)) | (exfalso; omega; done) | (exfalso; contradiction; done)) (show zcov ((ma_u m 110 l1.toNatClampNeg (1 : Int32)) 110) (m 112) 16 from by first | (exact cov_one (cov_push r_CVR (by decide)) rfl (by omega) (by omega) (Or.inr (by rw [mu_self]; decide))) | (exact cov_push r_CVR (by decide)) | (exfalso; omega; done) | (exfalso; contradiction; done)) (show zcov ((ma_u m 110 l1.toNatClampNeg (1 : Int32)) 110) (m 114) (m 94 55).toInt from by first | (exact cov_one (cov_push r_CVW (by decide)) rfl (by omega) (by omega) (Or.inr (by rw [mu_self]; decide))) | (exact cov_push r_CVW (by decide)) | (exfalso; omega; done) | (exfalso; contradiction; done)) (show ∀ s : Nat, (s : Int) < (l1 + (1 : Int32)).toInt → (m 99) s ≠ 0 → 0 < ((m 107) s).toInt → ((ma_u m 110 l1.toNatClampNeg (1 : Int32)) 110) s ≠ 0 from by first | (exact cvh_s (cvh_p r_CVH (by decide)) (by omega) (by omega) (Or.inr (Or.inr (by rw [mu_self]; decide)))) | (exfalso; omega; done) | (exfalso; contradiction; done))
            · skip
              have g44 := i_ne h31
              first | have e45 : (l1 + (1 : Int32)).toInt = l1.toInt + (1) := i_addk rfl (by omega) (by omega) | have b46 := i_bd (l1 + (1 : Int32))
              exact IH (3100 - (l1 + (1 : Int32)).toInt).toNat (by omega) _ ((l1 + (1 : Int32))) rfl hF hV (by omega) (by omega) r_KS r_W r_RB r_QI r_KA r_CVR r_CVW (show ∀ s : Nat, (s : Int) < (l1 + (1 : Int32)).toInt → (m 99) s ≠ 0 → 0 < ((m 107) s).toInt → (m 110) s ≠ 0 from by first | (intro s hs; omega; done) | (exact cvh_s r_CVH (by omega) (by omega) (Or.inl (by assumption))) | (exact cvh_s r_CVH (by omega) (by omega) (Or.inr (Or.inl (by omega)))) | (exact cvh_s r_CVH (by omega) (by omega) (Or.inr (Or.inr (by assumption)))) | (exfalso; omega; done) | (exfalso; contradiction; done))
theorem lp_188rm_35 {X : Nat × (Nat → Int32)} {P : Option ma_V → (Nat → Nat → Int32) → Prop} {aa : Nat→Nat→Int32} {ro : Int32} {fo : Int32} {le : Int32} {ra : Int32} {pi : Int32} {m0 : Nat → Nat → Int32} (h0 : zV m0) (K : ∀ m₉, zF wr_188 m0 m₉ → zV m₉ → ((m₉ 94 73).toInt = 0) → (∀ s, s < 3100 → (m₉ 99) s ≠ 0 → ((m₉ 110) s ≠ 0 ↔ zRch aa ((m₉ 100) s).toNatClampNeg)) → (∀ s, s < 3100 → (m₉ 110) s ≠ 0 → (m₉ 99) s ≠ 0) → P none m₉) : ∀ (n : Nat) (m : Nat → Nat → Int32) (l1 : Int32), (3100 - l1.toInt).toNat = n → zF wr_188 m0 m → zV m → (0 ≤ l1.toInt) → (zKS (m 110) (m 94 73)) → (zW (m 94 7) (m 98) (m 101) (m 102) (m 108)) → (qRB (m 99) (m 100) (m 98) (m 101) (m 102) (m 103) (m 107) (m 108) (m 109) (m 111) (m 112) (m 113) (m 114) (m 94 55) (m 94 46) ro fo le ra pi aa) → (qI aa) → (qKA (m 110) (m 99) (m 100) (m 98) (m 101) (m 102) (m 108) (m 118) (m 94 73) (zRch aa) (fun _ => False) 3100 0) → (zcov (m 110) (m 112) 16) → (zcov (m 110) (m 114) l1.toInt) → zm X 3 66 188 35 [(0, .inr (.inr (some 94))), (1, .inl l1)] m P := by
  intro n
  induction n using Nat.strongRecOn with
  | _ n IH =>
    intro m l1 hmu hF hV hi0 r_KS r_W r_RB r_QI r_KA r_CVR r_CVW
    refine g_188_35 l1 ?_
    have f1 : 0 ≤ (m 94 55).toInt ∧ (m 94 55).toInt ≤ 3100 := rs_94_55 (m := m) hV
    have b2 := i_bd l1
    refine zd (fun (h3 : (m 94 55) ≤ l1) => ?_) (fun (h3 : ¬ (m 94 55) ≤ l1) => ?_)
    · skip
      have g4 := i_le h3
      have li5 : (0 : Int32).toInt = 0 := rfl
      exact lp_188rm_61 h0 K _ _ ((0 : Int32)) rfl hF hV (by omega) (by omega) r_KS r_W r_RB r_QI r_KA r_CVR (show zcov (m 110) (m 114) (m 94 55).toInt from by first | (exact cov_0 (by decide)) | (exact cov_one r_CVW rfl (by omega) (by omega) (Or.inl (by omega))) | (exact cov_one r_CVW rfl (by omega) (by omega) (Or.inr (by assumption))) | (exact cov_cut r_CVW (by omega)) | (exfalso; omega; done) | (exfalso; contradiction; done)) (show ∀ s : Nat, (s : Int) < (0 : Int32).toInt → (m 99) s ≠ 0 → 0 < ((m 107) s).toInt → (m 110) s ≠ 0 from by first | (intro s hs; omega; done) | (exfalso; omega; done) | (exfalso; contradiction; done))
    · skip
      have g6 := i_nle h3
      have hg7 : (0 ≤ l1 ∧ l1.toNatClampNeg < 3100) := i_ix (by omega) (by omega)
      refine ⟨hg7, ?_⟩
      first | have f8 : 0 ≤ (m 114 l1.toNatClampNeg).toInt ∧ (m 114 l1.toNatClampNeg).toInt ≤ 3099 := ra_114 (m := m) hV (k := l1.toNatClampNeg) (i_ix (n := 3100) (by omega) (by omega)).2 | have b9 := i_bd (m 114 l1.toNatClampNeg)
      have li10 : (0 : Int32).toInt = 0 := rfl
      refine zd (fun (h11 : (m 114 l1.toNatClampNeg) < (0 : Int32)) => ?_) (fun (h11 : ¬ (m 114 l1.toNatClampNeg) < (0 : Int32)) => ?_)
      · skip
        have g12 := i_lt h11
        first | have e13 : (l1 + (1 : Int32)).toInt = l1.toInt + (1) := i_addk rfl (by omega) (by omega) | have b14 := i_bd (l1 + (1 : Int32))
        exact IH (3100 - (l1 + (1 : Int32)).toInt).toNat (by omega) _ ((l1 + (1 : Int32))) rfl hF hV (by omega) r_KS r_W r_RB r_QI r_KA r_CVR (show zcov (m 110) (m 114) (l1 + (1 : Int32)).toInt from by first | (exact cov_0 (by decide)) | (exact cov_one r_CVW rfl (by omega) (by omega) (Or.inl (by omega))) | (exact cov_one r_CVW rfl (by omega) (by omega) (Or.inr (by assumption))) | (exact cov_cut r_CVW (by omega)) | (exfalso; omega; done) | (exfalso; contradiction; done))
      · skip
        have g15 := i_nlt h11
        have hg16 : (0 ≤ (m 114 l1.toNatClampNeg) ∧ (m 114 l1.toNatClampNeg).toNatClampNeg < 3100) := i_ix (by omega) (by omega)
        refine ⟨hg16, ?_⟩
        first | have f17 : 0 ≤ (m 110 (m 114 l1.toNatClampNeg).toNatClampNeg).toInt ∧ (m 110 (m 114 l1.toNatClampNeg).toNatClampNeg).toInt ≤ 1 := ra_110 (m := m) hV (k := (m 114 l1.toNatClampNeg).toNatClampNeg) (i_ix (n := 3100) (by omega) (by omega)).2 | have b18 := i_bd (m 110 (m 114 l1.toNatClampNeg).toNatClampNeg)
        refine zd (fun (h19 : (m 110 (m 114 l1.toNatClampNeg).toNatClampNeg) = (0 : Int32)) => ?_) (fun (h19 : ¬ (m 110 (m 114 l1.toNatClampNeg).toNatClampNeg) = (0 : Int32)) => ?_)
        · skip
          have g20 := i_eq h19
          have hg21 : (0 ≤ (m 114 l1.toNatClampNeg) ∧ (m 114 l1.toNatClampNeg).toNatClampNeg < 3100) := i_ix (by omega) (by omega)
          refine ⟨hg21, ?_⟩
          have f22 : 0 ≤ (m 94 73).toInt ∧ (m 94 73).toInt ≤ 3100 := rs_94_73 (m := m) hV
          try have gk := KS_room r_KS (by assumption) (by omega)
          have hg23 : (0 ≤ (m 94 73) ∧ (m 94 73).toNatClampNeg < 3100) := i_ix (by omega) (by omega)
          refine ⟨hg23, ?_⟩
          have li25 : (1 : Int32).toInt = 1 := rfl
          have hV24 : zV (ma_u m 110 (m 114 l1.toNatClampNeg).toNatClampNeg (1 : Int32)) := ua_110 hV (by omega) (by omega)
          have hV26 : zV (ma_u (ma_u m 110 (m 114 l1.toNatClampNeg).toNatClampNeg (1 : Int32)) 118 (m 94 73).toNatClampNeg (m 114 l1.toNatClampNeg)) := ua_118 hV24 (by omega) (by omega)
          first | have e28 : ((m 94 73) + (1 : Int32)).toInt = (m 94 73).toInt + (1) := i_addk rfl (by omega) (by omega) | have b29 := i_bd ((m 94 73) + (1 : Int32))
          have hV27 : zV (ma_u (ma_u (ma_u m 110 (m 114 l1.toNatClampNeg).toNatClampNeg (1 : Int32)) 118 (m 94 73).toNatClampNeg (m 114 l1.toNatClampNeg)) 94 73 ((m 94 73) + (1 : Int32))) := us_94_73 hV26 (by omega) (by omega)
          first | have e30 : (l1 + (1 : Int32)).toInt = l1.toInt + (1) := i_addk rfl (by omega) (by omega) | have b31 := i_bd (l1 + (1 : Int32))
          exact IH (3100 - (l1 + (1 : Int32)).toInt).toNat (by omega) _ ((l1 + (1 : Int32))) rfl (zF_u (zF_u (zF_u hF rfl) rfl) rfl) hV27 (by omega) (show zKS ((ma_u m 110 (m 114 l1.toNatClampNeg).toNatClampNeg (1 : Int32)) 110) ((m 94 73) + (1 : Int32)) from by first | (exact KS_push r_KS (by assumption) (by omega) (by decide) (by assumption)) | (exact KS_push (KS_0 (r := m 110) (y := m 94 73) (by omega)) (by assumption) (by omega) (by decide) (by assumption)) | (exfalso; omega; done) | (exfalso; contradiction; done)) r_W r_RB r_QI (show qKA ((ma_u m 110 (m 114 l1.toNatClampNeg).toNatClampNeg (1 : Int32)) 110) (m 99) (m 100) (m 98) (m 101) (m 102) (m 108) ((ma_u m 118 (m 94 73).toNatClampNeg (m 114 l1.toNatClampNeg)) 118) ((m 94 73) + (1 : Int32)) (zRch aa) (fun _ => False) 3100 0 from by first | (exact KA_push r_KA (by omega) (by omega) (Rc_wl r_RB (j := l1) (by omega) (by omega) rfl).1 (Rc_wl r_RB (j := l1) (by omega) (by omega) rfl).2 (by assumption) (by omega) (by omega) (by decide)) | (exfalso; omega; done) | (exfalso; contradiction; done)) (show zcov ((ma_u m 110 (m 114 l1.toNatClampNeg).toNatClampNeg (1 : Int32)) 110) (m 112) 16 from by first | (exact cov_one (cov_push r_CVR (by decide)) rfl (by omega) (by omega) (Or.inr (by rw [mu_self]; decide))) | (exact cov_push r_CVR (by decide)) | (exfalso; omega; done) | (exfalso; contradiction; done)) (show zcov ((ma_u m 110 (m 114 l1.toNatClampNeg).toNatClampNeg (1 : Int32)) 110) (m 114) (l1 + (1 : Int32)).toInt from by first | (exact cov_one (cov_push r_CVW (by decide)) rfl (by omega) (by omega) (Or.inr (by rw [mu_self]; decide))) | (exact cov_push r_CVW (by decide)) | (exfalso; omega; done) | (exfalso; contradiction; done))
        · skip
          have g32 := i_ne h19
          first | have e33 : (l1 + (1 : Int32)).toInt = l1.toInt + (1) := i_addk rfl (by omega) (by omega) | have b34 := i_bd (l1 + (1 : Int32))
          exact IH (3100 - (l1 + (1 : Int32)).toInt).toNat (by omega) _ ((l1 + (1 : Int32))) rfl hF hV (by omega) r_KS r_W r_RB r_QI r_KA r_CVR (show zcov (m 110) (m 114) (l1 + (1 : Int32)).toInt from by first | (exact cov_0 (by decide)) | (exact cov_one r_CVW rfl (by omega) (by omega) (Or.inl (by omega))) | (exact cov_one r_CVW rfl (by omega) (by omega) (Or.inr (by assumption))) | (exact cov_cut r_CVW (by omega)) | (exfalso; omega; done) | (exfalso; contradiction; done))
theorem lp_188rm_11 {X : Nat × (Nat → Int32)} {P : Option ma_V → (Nat → Nat → Int32) → Prop} {aa : Nat→Nat→Int32} {ro : Int32} {fo : Int32} {le : Int32} {ra : Int32} {pi : Int32} {m0 : Nat → Nat → Int32} (h0 : zV m0) (K : ∀ m₉, zF wr_188 m0 m₉ → zV m₉ → ((m₉ 94 73).toInt = 0) → (∀ s, s < 3100 → (m₉ 99) s ≠ 0 → ((m₉ 110) s ≠ 0 ↔ zRch aa ((m₉ 100) s).toNatClampNeg)) → (∀ s, s < 3100 → (m₉ 110) s ≠ 0 → (m₉ 99) s ≠ 0) → P none m₉) : ∀ (n : Nat) (m : Nat → Nat → Int32) (l1 : Int32), (16 - l1.toInt).toNat = n → zF wr_188 m0 m → zV m → (0 ≤ l1.toInt) → (zKS (m 110) (m 94 73)) → (zW (m 94 7) (m 98) (m 101) (m 102) (m 108)) → (qRB (m 99) (m 100) (m 98) (m 101) (m 102) (m 103) (m 107) (m 108) (m 109) (m 111) (m 112) (m 113) (m 114) (m 94 55) (m 94 46) ro fo le ra pi aa) → (qI aa) → (qKA (m 110) (m 99) (m 100) (m 98) (m 101) (m 102) (m 108) (m 118) (m 94 73) (zRch aa) (fun _ => False) 3100 0) → (zcov (m 110) (m 112) l1.toInt) → zm X 3 66 188 11 [(0, .inr (.inr (some 94))), (1, .inl l1)] m P := by
  intro n
  induction n using Nat.strongRecOn with
  | _ n IH =>
    intro m l1 hmu hF hV hi0 r_KS r_W r_RB r_QI r_KA r_CVR
    refine g_188_11 l1 ?_
    have li1 : (16 : Int32).toInt = 16 := rfl
    have b2 := i_bd l1
    refine zd (fun (h3 : (16 : Int32) ≤ l1) => ?_) (fun (h3 : ¬ (16 : Int32) ≤ l1) => ?_)
    · skip
      have g4 := i_le h3
      have li5 : (0 : Int32).toInt = 0 := rfl
      exact lp_188rm_35 h0 K _ _ ((0 : Int32)) rfl hF hV (by omega) r_KS r_W r_RB r_QI r_KA (show zcov (m 110) (m 112) 16 from by first | (exact cov_0 (by decide)) | (exact cov_one r_CVR rfl (by omega) (by omega) (Or.inl (by omega))) | (exact cov_one r_CVR rfl (by omega) (by omega) (Or.inr (by assumption))) | (exact cov_cut r_CVR (by omega)) | (exfalso; omega; done) | (exfalso; contradiction; done)) (show zcov (m 110) (m 114) (0 : Int32).toInt from by first | (exact cov_0 (by decide)) | (exfalso; omega; done) | (exfalso; contradiction; done))
    · skip
      have g6 := i_nle h3
      have hg7 : (0 ≤ l1 ∧ l1.toNatClampNeg < 16) := i_ix (by omega) (by omega)
      refine ⟨hg7, ?_⟩
      first | have f8 : -1 ≤ (m 112 l1.toNatClampNeg).toInt ∧ (m 112 l1.toNatClampNeg).toInt ≤ 3099 := ra_112 (m := m) hV (k := l1.toNatClampNeg) (i_ix (n := 16) (by omega) (by omega)).2 | have b9 := i_bd (m 112 l1.toNatClampNeg)
      have li10 : (0 : Int32).toInt = 0 := rfl
      refine zd (fun (h11 : (m 112 l1.toNatClampNeg) < (0 : Int32)) => ?_) (fun (h11 : ¬ (m 112 l1.toNatClampNeg) < (0 : Int32)) => ?_)
      · skip
        have g12 := i_lt h11
        first | have e13 : (l1 + (1 : Int32)).toInt = l1.toInt + (1) := i_addk rfl (by omega) (by omega) | have b14 := i_bd (l1 + (1 : Int32))
        exact IH (16 - (l1 + (1 : Int32)).toInt).toNat (by omega) _ ((l1 + (1 : Int32))) rfl hF hV (by omega) r_KS r_W r_RB r_QI r_KA (show zcov (m 110) (m 112) (l1 + (1 : Int32)).toInt from by first | (exact cov_0 (by decide)) | (exact cov_one r_CVR rfl (by omega) (by omega) (Or.inl (by omega))) | (exact cov_one r_CVR rfl (by omega) (by omega) (Or.inr (by assumption))) | (exact cov_cut r_CVR (by omega)) | (exfalso; omega; done) | (exfalso; contradiction; done))
      · skip
        have g15 := i_nlt h11
        have hg16 : (0 ≤ (m 112 l1.toNatClampNeg) ∧ (m 112 l1.toNatClampNeg).toNatClampNeg < 3100) := i_ix (by omega) (by omega)
        refine ⟨hg16, ?_⟩
        first | have f17 : 0 ≤ (m 110 (m 112 l1.toNatClampNeg).toNatClampNeg).toInt ∧ (m 110 (m 112 l1.toNatClampNeg).toNatClampNeg).toInt ≤ 1 := ra_110 (m := m) hV (k := (m 112 l1.toNatClampNeg).toNatClampNeg) (i_ix (n := 3100) (by omega) (by omega)).2 | have b18 := i_bd (m 110 (m 112 l1.toNatClampNeg).toNatClampNeg)
        refine zd (fun (h19 : (m 110 (m 112 l1.toNatClampNeg).toNatClampNeg) = (0 : Int32)) => ?_) (fun (h19 : ¬ (m 110 (m 112 l1.toNatClampNeg).toNatClampNeg) = (0 : Int32)) => ?_)
        · skip
          have g20 := i_eq h19
          have hg21 : (0 ≤ (m 112 l1.toNatClampNeg) ∧ (m 112 l1.toNatClampNeg).toNatClampNeg < 3100) := i_ix (by omega) (by omega)
          refine ⟨hg21, ?_⟩
          have f22 : 0 ≤ (m 94 73).toInt ∧ (m 94 73).toInt ≤ 3100 := rs_94_73 (m := m) hV
          try have gk := KS_room r_KS (by assumption) (by omega)
          have hg23 : (0 ≤ (m 94 73) ∧ (m 94 73).toNatClampNeg < 3100) := i_ix (by omega) (by omega)
          refine ⟨hg23, ?_⟩
          have li25 : (1 : Int32).toInt = 1 := rfl
          have hV24 : zV (ma_u m 110 (m 112 l1.toNatClampNeg).toNatClampNeg (1 : Int32)) := ua_110 hV (by omega) (by omega)
          have hV26 : zV (ma_u (ma_u m 110 (m 112 l1.toNatClampNeg).toNatClampNeg (1 : Int32)) 118 (m 94 73).toNatClampNeg (m 112 l1.toNatClampNeg)) := ua_118 hV24 (by omega) (by omega)
          first | have e28 : ((m 94 73) + (1 : Int32)).toInt = (m 94 73).toInt + (1) := i_addk rfl (by omega) (by omega) | have b29 := i_bd ((m 94 73) + (1 : Int32))
          have hV27 : zV (ma_u (ma_u (ma_u m 110 (m 112 l1.toNatClampNeg).toNatClampNeg (1 : Int32)) 118 (m 94 73).toNatClampNeg (m 112 l1.toNatClampNeg)) 94 73 ((m 94 73) + (1 : Int32))) := us_94_73 hV26 (by omega) (by omega)
          first | have e30 : (l1 + (1 : Int32)).toInt = l1.toInt + (1) := i_addk rfl (by omega) (by omega) | have b31 := i_bd (l1 + (1 : Int32))
          exact IH (16 - (l1 + (1 : Int32)).toInt).toNat (by omega) _ ((l1 + (1 : Int32))) rfl (zF_u (zF_u (zF_u hF rfl) rfl) rfl) hV27 (by omega) (show zKS ((ma_u m 110 (m 112 l1.toNatClampNeg).toNatClampNeg (1 : Int32)) 110) ((m 94 73) + (1 : Int32)) from by first | (exact KS_push r_KS (by assumption) (by omega) (by decide) (by assumption)) | (exact KS_push (KS_0 (r := m 110) (y := m 94 73) (by omega)) (by assumption) (by omega) (by decide) (by assumption)) | (exfalso; omega; done) | (exfalso; contradiction; done)) r_W r_RB r_QI (show qKA ((ma_u m 110 (m 112 l1.toNatClampNeg).toNatClampNeg (1 : Int32)) 110) (m 99) (m 100) (m 98) (m 101) (m 102) (m 108) ((ma_u m 118 (m 94 73).toNatClampNeg (m 112 l1.toNatClampNeg)) 118) ((m 94 73) + (1 : Int32)) (zRch aa) (fun _ => False) 3100 0 from by first | (exact KA_push r_KA (by omega) (by omega) (Rc_rt r_RB (j := l1) (by omega) (by omega) rfl (by omega)).1 (Rc_rt r_RB (j := l1) (by omega) (by omega) rfl (by omega)).2 (by assumption) (by omega) (by omega) (by decide)) | (exfalso; omega; done) | (exfalso; contradiction; done)) (show zcov ((ma_u m 110 (m 112 l1.toNatClampNeg).toNatClampNeg (1 : Int32)) 110) (m 112) (l1 + (1 : Int32)).toInt from by first | (exact cov_one (cov_push r_CVR (by decide)) rfl (by omega) (by omega) (Or.inr (by rw [mu_self]; decide))) | (exact cov_push r_CVR (by decide)) | (exfalso; omega; done) | (exfalso; contradiction; done))
        · skip
          have g32 := i_ne h19
          first | have e33 : (l1 + (1 : Int32)).toInt = l1.toInt + (1) := i_addk rfl (by omega) (by omega) | have b34 := i_bd (l1 + (1 : Int32))
          exact IH (16 - (l1 + (1 : Int32)).toInt).toNat (by omega) _ ((l1 + (1 : Int32))) rfl hF hV (by omega) r_KS r_W r_RB r_QI r_KA (show zcov (m 110) (m 112) (l1 + (1 : Int32)).toInt from by first | (exact cov_0 (by decide)) | (exact cov_one r_CVR rfl (by omega) (by omega) (Or.inl (by omega))) | (exact cov_one r_CVR rfl (by omega) (by omega) (Or.inr (by assumption))) | (exact cov_cut r_CVR (by omega)) | (exfalso; omega; done) | (exfalso; contradiction; done))
theorem sp_188rm {X : Nat × (Nat → Int32)} {P : Option ma_V → (Nat → Nat → Int32) → Prop} {aa : Nat→Nat→Int32} {ro : Int32} {fo : Int32} {le : Int32} {ra : Int32} {pi : Int32} {m : Nat → Nat → Int32}  (hV : zV m) (r_W : zW (m 94 7) (m 98) (m 101) (m 102) (m 108)) (r_RB : qRB (m 99) (m 100) (m 98) (m 101) (m 102) (m 103) (m 107) (m 108) (m 109) (m 111) (m 112) (m 113) (m 114) (m 94 55) (m 94 46) ro fo le ra pi aa) (r_QI : qI aa) (KZ : ∀ m₉, zV (zov wr_188 m m₉) → ((m₉ 94 73).toInt = 0) → (∀ s, s < 3100 → (m 99) s ≠ 0 → ((m₉ 110) s ≠ 0 ↔ zRch aa ((m 100) s).toNatClampNeg)) → (∀ s, s < 3100 → (m₉ 110) s ≠ 0 → (m 99) s ≠ 0) → P none (zov wr_188 m m₉)) : zm X 3 66 188 0 [(0, .inr (.inr (some 94)))] m P := by
  have K : ∀ m₉, zF wr_188 m m₉ → zV m₉ → ((m₉ 94 73).toInt = 0) → (∀ s, s < 3100 → (m₉ 99) s ≠ 0 → ((m₉ 110) s ≠ 0 ↔ zRch aa ((m₉ 100) s).toNatClampNeg)) → (∀ s, s < 3100 → (m₉ 110) s ≠ 0 → (m₉ 99) s ≠ 0) → P none m₉ := by
    intro m₉ hf z q0 q1 q2
    have e := zov_eq hf
    rw [e] at z ⊢
    try rw [e] at q0
    try rw [e] at q1
    try rw [e] at q2
    exact KZ m₉ z q0 q1 q2
  refine g_188_0  ?_
  refine sp_189  hV  (fun m1 hV_m1 p0_m1 => zmv_n ?_)
  have p0_m1 : ∀ s : Nat, s < 3100 → (m1 110) s = 0 := p0_m1
  have li2 : (0 : Int32).toInt = 0 := rfl
  have hV1 : zV (ma_u (zov wr_189 m m1) 94 73 (0 : Int32)) := us_94_73 hV_m1 (by omega) (by omega)
  exact lp_188rm_11 hV K _ _ ((0 : Int32)) rfl (zF_u (zF_zov zF_rfl ws_189_188) rfl) hV1 (by omega) (show zKS (m1 110) (0 : Int32) from by first | (exact KS_0 (by omega)) | (exfalso; omega; done) | (exfalso; contradiction; done)) r_W r_RB r_QI (show qKA (m1 110) (m 99) (m 100) (m 98) (m 101) (m 102) (m 108) (m 118) (0 : Int32) (zRch aa) (fun _ => False) 3100 0 from by first | (exact KA_none p0_m1 (by omega) (fun _ z => z)) | (exfalso; omega; done) | (exfalso; contradiction; done)) (show zcov (m1 110) (m 112) (0 : Int32).toInt from by first | (exact cov_0 (by decide)) | (exfalso; omega; done) | (exfalso; contradiction; done))
theorem sp_245rm {X : Nat × (Nat → Int32)} {P : Option ma_V → (Nat → Nat → Int32) → Prop} {aa : Nat→Nat→Int32} {ro : Int32} {fo : Int32} {le : Int32} {ra : Int32} {pi : Int32} {m : Nat → Nat → Int32} (ob : Int32) (hV : zV m) (r_W : zW (m 94 7) (m 98) (m 101) (m 102) (m 108)) (r_RB : qRB (m 99) (m 100) (m 98) (m 101) (m 102) (m 103) (m 107) (m 108) (m 109) (m 111) (m 112) (m 113) (m 114) (m 94 55) (m 94 46) ro fo le ra pi aa) (r_QI : qI aa) (KZ : ∀ v m₉, zV (zov wr_245 m m₉) → (-1 ≤ v.toInt ∧ v.toInt ≤ 3099) → (v.toInt < 0 ∨ (m 99) v.toNatClampNeg ≠ 0) → (qRe (m 99) (m 100) aa ob v) → P (some (.inl v)) (zov wr_245 m m₉)) : zm X 4 87 245 0 [(0, .inr (.inr (some 94))), (1, .inl ob)] m P := by
  have K : ∀ v m₉, zF wr_245 m m₉ → zV m₉ → (-1 ≤ v.toInt ∧ v.toInt ≤ 3099) → (v.toInt < 0 ∨ (m₉ 99) v.toNatClampNeg ≠ 0) → (qRe (m₉ 99) (m₉ 100) aa ob v) → P (some (.inl v)) m₉ := by
    intro v m₉ hf z q0 q1 q2
    have e := zov_eq hf
    rw [e] at z ⊢
    try rw [e] at q0
    try rw [e] at q1
    try rw [e] at q2
    exact KZ v m₉ z q0 q1 q2
  refine g_245_0 ob ?_
  have b1 := i_bd ob
  refine sp_246r (ob) hV  (fun v2 m1 hV_m1 p0_m1 p1_m1 => zmi_n ?_)
  have p0_m1 : -1 ≤ v2.toInt ∧ v2.toInt ≤ 3099 := p0_m1
  have p1_m1 : qPl (m 99) (m 100) ob v2 := p1_m1
  have li2 : (0 : Int32).toInt = 0 := rfl
  have b3 := i_bd v2
  refine zd (fun (h4 : (0 : Int32) ≤ v2) => ?_) (fun (h4 : ¬ (0 : Int32) ≤ v2) => ?_)
  · skip
    have g5 := i_le h4
    refine sp_188rm (aa := aa)  hV_m1 r_W r_RB r_QI (fun m3 hV_m3 p0_m3 p1_m3 p2_m3 => zmv_n ?_)
    have p0_m3 : (m3 94 73).toInt = 0 := p0_m3
    have p1_m3 : ∀ s, s < 3100 → (m 99) s ≠ 0 → ((m3 110) s ≠ 0 ↔ zRch aa ((m 100) s).toNatClampNeg) := p1_m3
    have p2_m3 : ∀ s, s < 3100 → (m3 110) s ≠ 0 → (m 99) s ≠ 0 := p2_m3
    have f6 : 0 ≤ (m3 94 73).toInt ∧ (m3 94 73).toInt ≤ 3100 := rs_94_73 (m := (zov wr_188 (zov wr_246 m m1) m3)) hV_m3
    have hg7 : (0 ≤ v2 ∧ v2.toNatClampNeg < 3100) := i_ix (by omega) (by omega)
    refine ⟨hg7, ?_⟩
    first | have f8 : 0 ≤ (m3 110 v2.toNatClampNeg).toInt ∧ (m3 110 v2.toNatClampNeg).toInt ≤ 1 := ra_110 (m := (zov wr_188 (zov wr_246 m m1) m3)) hV_m3 (k := v2.toNatClampNeg) (i_ix (n := 3100) (by omega) (by omega)).2 | have b9 := i_bd (m3 110 v2.toNatClampNeg)
    refine zd (fun (h10 : (m3 110 v2.toNatClampNeg) = (0 : Int32)) => ?_) (fun (h10 : ¬ (m3 110 v2.toNatClampNeg) = (0 : Int32)) => ?_)
    · skip
      have g11 := i_eq h10
      have li12 : (-1 : Int32).toInt = -1 := rfl
      exact K ((-1 : Int32)) _ (zF_zov (zF_zov zF_rfl ws_246_245) ws_188_245) hV_m3 (show -1 ≤ (-1 : Int32).toInt ∧ (-1 : Int32).toInt ≤ 3099 from by omega) (show (-1 : Int32).toInt < 0 ∨ (m 99) (-1 : Int32).toNatClampNeg ≠ 0 from by first | (exact Or.inl (by decide)) | (exact p1_m1.elim (fun z => absurd z.1 (i_ne2 (by omega))) (fun z => Or.inr z.2.2.1)) | (exact p1_m1.elim (fun z => Or.inl (by rw [z.1]; decide)) (fun z => Or.inr z.2.2.1)) | (exact Or.inl (by decide)) | (exact Or.inr (by assumption)) | (exact Or.inl (by omega)) | (exfalso; omega; done) | (exfalso; contradiction; done)) (show qRe (m 99) (m 100) aa ob (-1 : Int32) from by first | (exact Re_0 r_RB p1_m1 (by omega)) | (exact Re_1 r_RB r_QI p1_m1 (by omega) p1_m3 (by assumption)) | (exact Re_2 r_RB r_QI p1_m1 (by omega) p1_m3 (by assumption)) | (exfalso; omega; done) | (exfalso; contradiction; done))
    · skip
      have g13 := i_ne h10
      exact K (v2) _ (zF_zov (zF_zov zF_rfl ws_246_245) ws_188_245) hV_m3 (show -1 ≤ v2.toInt ∧ v2.toInt ≤ 3099 from by omega) (show v2.toInt < 0 ∨ (m 99) v2.toNatClampNeg ≠ 0 from by first | (exact Or.inl (by decide)) | (exact p1_m1.elim (fun z => absurd z.1 (i_ne2 (by omega))) (fun z => Or.inr z.2.2.1)) | (exact p1_m1.elim (fun z => Or.inl (by rw [z.1]; decide)) (fun z => Or.inr z.2.2.1)) | (exact Or.inl (by decide)) | (exact Or.inr (by assumption)) | (exact Or.inl (by omega)) | (exfalso; omega; done) | (exfalso; contradiction; done)) (show qRe (m 99) (m 100) aa ob v2 from by first | (exact Re_0 r_RB p1_m1 (by omega)) | (exact Re_1 r_RB r_QI p1_m1 (by omega) p1_m3 (by assumption)) | (exact Re_2 r_RB r_QI p1_m1 (by omega) p1_m3 (by assumption)) | (exfalso; omega; done) | (exfalso; contradiction; done))
  · skip
    have g14 := i_nle h4
    have li15 : (-1 : Int32).toInt = -1 := rfl
    exact K ((-1 : Int32)) _ (zF_zov zF_rfl ws_246_245) hV_m1 (show -1 ≤ (-1 : Int32).toInt ∧ (-1 : Int32).toInt ≤ 3099 from by omega) (show (-1 : Int32).toInt < 0 ∨ (m 99) (-1 : Int32).toNatClampNeg ≠ 0 from by first | (exact Or.inl (by decide)) | (exact p1_m1.elim (fun z => absurd z.1 (i_ne2 (by omega))) (fun z => Or.inr z.2.2.1)) | (exact p1_m1.elim (fun z => Or.inl (by rw [z.1]; decide)) (fun z => Or.inr z.2.2.1)) | (exact Or.inl (by decide)) | (exact Or.inr (by assumption)) | (exact Or.inl (by omega)) | (exfalso; omega; done) | (exfalso; contradiction; done)) (show qRe (m 99) (m 100) aa ob (-1 : Int32) from by first | (exact Re_0 r_RB p1_m1 (by omega)) | (exfalso; omega; done) | (exfalso; contradiction; done))
theorem sp_197rm {X : Nat × (Nat → Int32)} {P : Option ma_V → (Nat → Nat → Int32) → Prop} {T : Nat} {aa : Nat→Nat→Int32} {ro : Int32} {fo : Int32} {le : Int32} {ra : Int32} {pi : Int32} {m : Nat → Nat → Int32} (s : Int32) (hV : zV m) (hpre0 : 0 ≤ s.toInt) (hpre1 : s.toInt ≤ 3099) (hpre2 : T ≤ 512) (hpre3 : (m 94 10).toInt ≠ 4) (r_WI : (m 109) s.toNatClampNeg ≠ 0) (r_USs : (m 99) s.toNatClampNeg ≠ 0) (r_GW : zGW T (m 94 55) (m 109)) (r_RB : qRB (m 99) (m 100) (m 98) (m 101) (m 102) (m 103) (m 107) (m 108) (m 109) (m 111) (m 112) (m 113) (m 114) (m 94 55) (m 94 46) ro fo le ra pi aa) (r_QI : qI aa) (KZ : ∀ m₉, zV (zov wr_197 m m₉) → (zGW T (m₉ 94 55) (m₉ 109)) → (zuw (m 113) (m₉ 113)) → (zwx (m 114) (m₉ 114) (m 94 55) s) → ((m₉ 94 55).toInt = (m 94 55).toInt + 1) → (qRB (m 99) (m 100) (m 98) (m 101) (m 102) (m 103) (m 107) (m 108) (m₉ 109) (m 111) (m 112) (m₉ 113) (m₉ 114) (m₉ 94 55) (m 94 46) ro fo le ra pi (aGr aa ((m 100) s.toNatClampNeg))) → (qI (aGr aa ((m 100) s.toNatClampNeg))) → P none (zov wr_197 m m₉)) : zm X 1 22 197 0 [(0, .inr (.inr (some 94))), (1, .inl s)] m P := by
  have K : ∀ m₉, zF wr_197 m m₉ → zV m₉ → (zGW T (m₉ 94 55) (m₉ 109)) → (zuw (m 113) (m₉ 113)) → (zwx (m 114) (m₉ 114) (m 94 55) s) → ((m₉ 94 55).toInt = (m 94 55).toInt + 1) → (qRB (m₉ 99) (m₉ 100) (m₉ 98) (m₉ 101) (m₉ 102) (m₉ 103) (m₉ 107) (m₉ 108) (m₉ 109) (m₉ 111) (m₉ 112) (m₉ 113) (m₉ 114) (m₉ 94 55) (m₉ 94 46) ro fo le ra pi (aGr aa ((m₉ 100) s.toNatClampNeg))) → (qI (aGr aa ((m₉ 100) s.toNatClampNeg))) → P none m₉ := by
    intro m₉ hf z q0 q1 q2 q3 q4 q5
    have e := zov_eq hf
    rw [e] at z ⊢
    try rw [e] at q0
    try rw [e] at q1
    try rw [e] at q2
    try rw [e] at q3
    try rw [e] at q4
    try rw [e] at q5
    exact KZ m₉ z q0 q1 q2 q3 q4 q5
  refine g_197_0 s ?_
  have f1 : 0 ≤ (m 94 10).toInt ∧ (m 94 10).toInt ≤ 6 := rs_94_10 (m := m) hV
  have b2 := i_bd s
  try have gwr := GW_512 r_GW r_WI (by omega) (by omega) (by omega)
  refine sp_198r (s) hV  (fun m1 hV_m1 p0_m1 p1_m1 => zmv_n ?_)
  have p0_m1 : zuw (m 113) (m1 113) := p0_m1
  have p1_m1 : qUn (m 113) (m1 113) s 16 := p1_m1
  try have gw := GW_room r_GW
  try have gwr := GW_512 r_GW r_WI (by omega) (by omega) (by omega)
  have hg3 : (0 ≤ s ∧ s.toNatClampNeg < 3100) := i_ix (by omega) (by omega)
  refine ⟨hg3, ?_⟩
  have f4 : 0 ≤ (m 94 55).toInt ∧ (m 94 55).toInt ≤ 3100 := rs_94_55 (m := m) hV
  try have gw := GW_room r_GW
  try have gwr := GW_512 r_GW r_WI (by omega) (by omega) (by omega)
  have hg5 : (0 ≤ (m 94 55) ∧ (m 94 55).toNatClampNeg < 3100) := i_ix (by omega) (by omega)
  refine ⟨hg5, ?_⟩
  have li6 : (4 : Int32).toInt = 4 := rfl
  refine zd (fun (h7 : (m 94 10) = (4 : Int32)) => ?_) (fun (h7 : ¬ (m 94 10) = (4 : Int32)) => ?_)
  · skip
    have g8 := i_eq h7
    have hg9 : (0 ≤ s ∧ s.toNatClampNeg < 3100) := i_ix (by omega) (by omega)
    refine ⟨hg9, ?_⟩
    have hg10 : (0 ≤ s ∧ s.toNatClampNeg < 3100) := i_ix (by omega) (by omega)
    refine ⟨hg10, ?_⟩
    try have gwr := GW_512 r_GW r_WI (by omega) (by omega) (by omega)
    have li12 : (0 : Int32).toInt = 0 := rfl
    have hV11 : zV (ma_u (zov wr_198 m m1) 109 s.toNatClampNeg (0 : Int32)) := ua_109 hV_m1 (by omega) (by omega)
    have hV13 : zV (ma_u (ma_u (zov wr_198 m m1) 109 s.toNatClampNeg (0 : Int32)) 114 (m 94 55).toNatClampNeg s) := ua_114 hV11 (by omega) (by omega)
    first | have e15 : ((m 94 55) + (1 : Int32)).toInt = (m 94 55).toInt + (1) := i_addk rfl (by omega) (by omega) | have b16 := i_bd ((m 94 55) + (1 : Int32))
    have hV14 : zV (ma_u (ma_u (ma_u (zov wr_198 m m1) 109 s.toNatClampNeg (0 : Int32)) 114 (m 94 55).toNatClampNeg s) 94 55 ((m 94 55) + (1 : Int32))) := us_94_55 hV13 (by omega) (by omega)
    have hV17 : zV (ma_u (ma_u (ma_u (ma_u (zov wr_198 m m1) 109 s.toNatClampNeg (0 : Int32)) 114 (m 94 55).toNatClampNeg s) 94 55 ((m 94 55) + (1 : Int32))) 105 s.toNatClampNeg ((m 105 s.toNatClampNeg) + (1 : Int32))) := ua_105 hV14
    exact K _ (zF_u (zF_u (zF_u (zF_u (zF_zov zF_rfl ws_198_197) rfl) rfl) rfl) rfl) hV17 (show zGW T ((m 94 55) + (1 : Int32)) ((ma_u m 109 s.toNatClampNeg (0 : Int32)) 109) from by first | (exact GW_take r_GW r_WI (by omega) (by omega)) | (exfalso; omega; done) | (exfalso; contradiction; done)) p0_m1 (show zwx (m 114) ((ma_u m 114 (m 94 55).toNatClampNeg s) 114) (m 94 55) s from by first | (exact ⟨fun k hk => mu_ne (by rw [tn_eq]; omega), mu_self⟩) | (exfalso; omega; done) | (exfalso; contradiction; done)) (show ((m 94 55) + (1 : Int32)).toInt = (m 94 55).toInt + 1 from by omega) (show qRB (m 99) (m 100) (m 98) (m 101) (m 102) (m 103) (m 107) (m 108) ((ma_u m 109 s.toNatClampNeg (0 : Int32)) 109) (m 111) (m 112) (m1 113) ((ma_u m 114 (m 94 55).toNatClampNeg s) 114) ((m 94 55) + (1 : Int32)) (m 94 46) ro fo le ra pi (aGr aa ((m 100) s.toNatClampNeg)) from by first | (exact RB_gr r_RB (by omega) (by omega) r_USs p1_m1 (by omega) (by omega)) | (exfalso; omega; done) | (exfalso; contradiction; done)) (show qI (aGr aa ((m 100) s.toNatClampNeg)) from by first | (exact I_gr r_QI (by rw [r_RB.2.2.2.2.1.1]; omega)) | (exfalso; omega; done) | (exfalso; contradiction; done))
  · skip
    have g18 := i_ne h7
    try have gwr := GW_512 r_GW r_WI (by omega) (by omega) (by omega)
    have li20 : (0 : Int32).toInt = 0 := rfl
    have hV19 : zV (ma_u (zov wr_198 m m1) 109 s.toNatClampNeg (0 : Int32)) := ua_109 hV_m1 (by omega) (by omega)
    have hV21 : zV (ma_u (ma_u (zov wr_198 m m1) 109 s.toNatClampNeg (0 : Int32)) 114 (m 94 55).toNatClampNeg s) := ua_114 hV19 (by omega) (by omega)
    first | have e23 : ((m 94 55) + (1 : Int32)).toInt = (m 94 55).toInt + (1) := i_addk rfl (by omega) (by omega) | have b24 := i_bd ((m 94 55) + (1 : Int32))
    have hV22 : zV (ma_u (ma_u (ma_u (zov wr_198 m m1) 109 s.toNatClampNeg (0 : Int32)) 114 (m 94 55).toNatClampNeg s) 94 55 ((m 94 55) + (1 : Int32))) := us_94_55 hV21 (by omega) (by omega)
    exact K _ (zF_u (zF_u (zF_u (zF_zov zF_rfl ws_198_197) rfl) rfl) rfl) hV22 (show zGW T ((m 94 55) + (1 : Int32)) ((ma_u m 109 s.toNatClampNeg (0 : Int32)) 109) from by first | (exact GW_take r_GW r_WI (by omega) (by omega)) | (exfalso; omega; done) | (exfalso; contradiction; done)) p0_m1 (show zwx (m 114) ((ma_u m 114 (m 94 55).toNatClampNeg s) 114) (m 94 55) s from by first | (exact ⟨fun k hk => mu_ne (by rw [tn_eq]; omega), mu_self⟩) | (exfalso; omega; done) | (exfalso; contradiction; done)) (show ((m 94 55) + (1 : Int32)).toInt = (m 94 55).toInt + 1 from by omega) (show qRB (m 99) (m 100) (m 98) (m 101) (m 102) (m 103) (m 107) (m 108) ((ma_u m 109 s.toNatClampNeg (0 : Int32)) 109) (m 111) (m 112) (m1 113) ((ma_u m 114 (m 94 55).toNatClampNeg s) 114) ((m 94 55) + (1 : Int32)) (m 94 46) ro fo le ra pi (aGr aa ((m 100) s.toNatClampNeg)) from by first | (exact RB_gr r_RB (by omega) (by omega) r_USs p1_m1 (by omega) (by omega)) | (exfalso; omega; done) | (exfalso; contradiction; done)) (show qI (aGr aa ((m 100) s.toNatClampNeg)) from by first | (exact I_gr r_QI (by rw [r_RB.2.2.2.2.1.1]; omega)) | (exfalso; omega; done) | (exfalso; contradiction; done))

