/-! from 95.h10 -/
/-! the reference by numbers (written by wip/tools/gen18r.py) -/
theorem cvh_s {us ho kp : Nat → Int32} {i j : Int32} (h : ∀ s : Nat, (s : Int) < i.toInt → us s ≠ 0 → 0 < (ho s).toInt → kp s ≠ 0) (e : j.toInt = i.toInt + 1) (h0 : 0 ≤ i.toInt) (hc : us i.toNatClampNeg = 0 ∨ (ho i.toNatClampNeg).toInt ≤ 0 ∨ kp i.toNatClampNeg ≠ 0) : ∀ s : Nat, (s : Int) < j.toInt → us s ≠ 0 → 0 < (ho s).toInt → kp s ≠ 0 := by
  intro t ht hu hh
  have c := tn_cast h0
  by_cases z : t = i.toNatClampNeg
  · rw [z] at hu hh ⊢
    rcases hc with w | w | w
    · exact absurd w hu
    · omega
    · exact w
  · exact h t (by omega) hu hh
theorem cvh_p {us ho : Nat → Int32} {m : Nat → Nat → Int32} {k : Nat} {l : Int} {x : Int32} (h : ∀ s : Nat, (s : Int) < l → us s ≠ 0 → 0 < (ho s).toInt → m 110 s ≠ 0) (hx : x ≠ 0) : ∀ s : Nat, (s : Int) < l → us s ≠ 0 → 0 < (ho s).toInt → ma_u m 110 k x 110 s ≠ 0 := fun s a b c => mu_mono hx (h s a b c)
theorem cvh_le {us ho kp kp₉ : Nat → Int32} {l : Int} (h : ∀ s : Nat, (s : Int) < l → us s ≠ 0 → 0 < (ho s).toInt → kp s ≠ 0) (hl : zle kp kp₉) (h3 : l ≤ 3100) : ∀ s : Nat, (s : Int) < l → us s ≠ 0 → 0 < (ho s).toInt → kp₉ s ≠ 0 := fun s a b c => hl s (by omega) (h s a b c)
theorem lp_188r_61 {X : Nat × (Nat → Int32)} {P : Option ma_V → (Nat → Nat → Int32) → Prop} {aa : Nat→Nat→Int32} {m0 : Nat → Nat → Int32} (h0 : zV m0) (K : ∀ m₉, zF wr_188 m0 m₉ → zV m₉ → ((m₉ 94 73).toInt = 0) → (∀ s, s < 3100 → (m₉ 99) s ≠ 0 → ((m₉ 110) s ≠ 0 ↔ zRch aa ((m₉ 100) s).toNatClampNeg)) → P none m₉) : ∀ (n : Nat) (m : Nat → Nat → Int32) (l1 : Int32), (3100 - l1.toInt).toNat = n → zF wr_188 m0 m → zV m → (l1.toInt ≤ 3100) → (0 ≤ l1.toInt) → (zKS (m 110) (m 94 73)) → (zW (m 94 7) (m 98) (m 101) (m 102) (m 108)) → (qRB (m 99) (m 100) (m 98) (m 101) (m 102) (m 103) (m 107) (m 108) (m 109) (m 111) (m 112) (m 113) (m 114) (m 94 55) (m 94 46) (m 94 11) (m 94 12) (m 94 62) (m 94 17) (m 94 9) aa) → (qI aa) → (qKA (m 110) (m 99) (m 100) (m 98) (m 101) (m 102) (m 108) (m 118) (m 94 73) (zRch aa) (fun _ => False) 3100 0) → (zcov (m 110) (m 112) 16) → (zcov (m 110) (m 114) (m 94 55).toInt) → (∀ s : Nat, (s : Int) < l1.toInt → (m 99) s ≠ 0 → 0 < ((m 107) s).toInt → (m 110) s ≠ 0) → zm X 3 66 188 61 [(0, .inr (.inr (some 94))), (1, .inl l1)] m P := by
  intro n
  induction n using Nat.strongRecOn with
  | _ n IH =>
    intro m l1 hmu hF hV hi0 hi1 r_KS r_W r_RB r_QI r_KA r_CVR r_CVW r_CVH
    refine g_188_61 l1 ?_
    have li1 : (3100 : Int32).toInt = 3100 := rfl
    have b2 := i_bd l1
    refine zd (fun (h3 : (3100 : Int32) ≤ l1) => ?_) (fun (h3 : ¬ (3100 : Int32) ≤ l1) => ?_)
    · skip
      have g4 := i_le h3
      refine sp_191r (aa := aa) (QQ := (zRch aa)) (DD := (fun _ => False))  hV r_KS r_W r_RB (show qQC (m 99) (m 100) (m 98) (m 101) (m 102) (m 108) (zRch aa) (fun _ => False) from by first | (exact QC_M r_RB) | (exfalso; omega; done) | (exfalso; contradiction; done)) r_KA (fun m1 hV_m1 p0_m1 p1_m1 p2_m1 => zmv_n ?_)
      have p0_m1 : (m1 94 73).toInt = 0 := p0_m1
      have p1_m1 : zle (m 110) (m1 110) := p1_m1
      have p2_m1 : qKA (m1 110) (m 99) (m 100) (m 98) (m 101) (m 102) (m 108) (m1 118) (m1 94 73) (zRch aa) (fun _ => False) 3100 0 := p2_m1
      have f5 : 0 ≤ (m1 94 73).toInt ∧ (m1 94 73).toInt ≤ 3100 := rs_94_73 (m := (zov wr_191 m m1)) hV_m1
      exact K _ (zF_zov hF ws_191_188) hV_m1 (show (m1 94 73).toInt = 0 from by omega) (show ∀ s, s < 3100 → (m 99) s ≠ 0 → ((m1 110) s ≠ 0 ↔ zRch aa ((m 100) s).toNatClampNeg) from by first | (exact fun s hs hu => KR_end r_RB p2_m1 (by omega) (cov_le r_CVR p1_m1 (fun k hk => (ra_112 hV (by omega)).2)) (cov_le r_CVW p1_m1 (fun k hk => (ra_114 hV (by have := rs_94_55 hV; omega)).2)) (fun s hs => cvh_le r_CVH p1_m1 (by omega) s (by omega)) hs hu) | (exfalso; omega; done) | (exfalso; contradiction; done))
    · skip
      have g6 := i_nle h3
      have hg7 : (0 ≤ l1 ∧ l1.toNatClampNeg < 3100) := i_ix (by omega) (by omega)
      refine ⟨hg7, ?_⟩
      first | have f8 : 0 ≤ (m 99 l1.toNatClampNeg).toInt ∧ (m 99 l1.toNatClampNeg).toInt ≤ 1 := ra_99 (m := m) hV (k := l1.toNatClampNeg) (i_ix (n := 3100) (by omega) (by omega)).2 | have b9 := i_bd (m 99 l1.toNatClampNeg)
      have li10 : (0 : Int32).toInt = 0 := rfl
      refine zd (fun (h11 : (m 99 l1.toNatClampNeg) = (0 : Int32)) => ?_) (fun (h11 : ¬ (m 99 l1.toNatClampNeg) = (0 : Int32)) => ?_)
      · skip
        have g12 := i_eq h11
        first | have e13 : (l1 + (1 : Int32)).toInt = l1.toInt + (1) := i_addk rfl (by omega) (by omega) | have b14 := i_bd (l1 + (1 : Int32))
        exact IH (3100 - (l1 + (1 : Int32)).toInt).toNat (by omega) _ ((l1 + (1 : Int32))) rfl hF hV (by omega) (by omega) r_KS r_W r_RB r_QI r_KA r_CVR r_CVW (show ∀ s : Nat, (s : Int) < (l1 + (1 : Int32)).toInt → (m 99) s ≠ 0 → 0 < ((m 107) s).toInt → (m 110) s ≠ 0 from by first | (intro s hs; omega; done) | (exact cvh_s r_CVH (by omega) (by omega) (Or.inl (by assumption))) | (exact cvh_s r_CVH (by omega) (by omega) (Or.inr (Or.inl (by omega)))) | (exact cvh_s r_CVH (by omega) (by omega) (Or.inr (Or.inr (by assumption)))) | (exfalso; omega; done) | (exfalso; contradiction; done))
      · skip
        have g15 := i_ne h11
        have hg16 : (0 ≤ l1 ∧ l1.toNatClampNeg < 3100) := i_ix (by omega) (by omega)
        refine ⟨hg16, ?_⟩
        have b17 := i_bd (m 107 l1.toNatClampNeg)
        refine zd (fun (h18 : (m 107 l1.toNatClampNeg) ≤ (0 : Int32)) => ?_) (fun (h18 : ¬ (m 107 l1.toNatClampNeg) ≤ (0 : Int32)) => ?_)
        · skip
          have g19 := i_le h18
          first | have e20 : (l1 + (1 : Int32)).toInt = l1.toInt + (1) := i_addk rfl (by omega) (by omega) | have b21 := i_bd (l1 + (1 : Int32))
          exact IH (3100 - (l1 + (1 : Int32)).toInt).toNat (by omega) _ ((l1 + (1 : Int32))) rfl hF hV (by omega) (by omega) r_KS r_W r_RB r_QI r_KA r_CVR r_CVW (show ∀ s : Nat, (s : Int) < (l1 + (1 : Int32)).toInt → (m 99) s ≠ 0 → 0 < ((m 107) s).toInt → (m 110) s ≠ 0 from by first | (intro s hs; omega; done) | (exact cvh_s r_CVH (by omega) (by omega) (Or.inl (by assumption))) | (exact cvh_s r_CVH (by omega) (by omega) (Or.inr (Or.inl (by omega)))) | (exact cvh_s r_CVH (by omega) (by omega) (Or.inr (Or.inr (by assumption)))) | (exfalso; omega; done) | (exfalso; contradiction; done))
        · skip
          have g22 := i_nle h18
          refine zd (fun (h23 : l1 < (0 : Int32)) => ?_) (fun (h23 : ¬ l1 < (0 : Int32)) => ?_)
          · skip
            have g24 := i_lt h23
            first | have e25 : (l1 + (1 : Int32)).toInt = l1.toInt + (1) := i_addk rfl (by omega) (by omega) | have b26 := i_bd (l1 + (1 : Int32))
            exact IH (3100 - (l1 + (1 : Int32)).toInt).toNat (by omega) _ ((l1 + (1 : Int32))) rfl hF hV (by omega) (by omega) r_KS r_W r_RB r_QI r_KA r_CVR r_CVW (show ∀ s : Nat, (s : Int) < (l1 + (1 : Int32)).toInt → (m 99) s ≠ 0 → 0 < ((m 107) s).toInt → (m 110) s ≠ 0 from by first | (intro s hs; omega; done) | (exact cvh_s r_CVH (by omega) (by omega) (Or.inl (by assumption))) | (exact cvh_s r_CVH (by omega) (by omega) (Or.inr (Or.inl (by omega)))) | (exact cvh_s r_CVH (by omega) (by omega) (Or.inr (Or.inr (by assumption)))) | (exfalso; omega; done) | (exfalso; contradiction; done))
          · skip
            have g27 := i_nlt h23
            have hg28 : (0 ≤ l1 ∧ l1.toNatClampNeg < 3100) := i_ix (by omega) (by omega)
            refine ⟨hg28, ?_⟩
            first | have f29 : 0 ≤ (m 110 l1.toNatClampNeg).toInt ∧ (m 110 l1.toNatClampNeg).toInt ≤ 1 := ra_110 (m := m) hV (k := l1.toNatClampNeg) (i_ix (n := 3100) (by omega) (by omega)).2 | have b30 := i_bd (m 110 l1.toNatClampNeg)
            refine zd (fun (h31 : (m 110 l1.toNatClampNeg) = (0 : Int32)) => ?_) (fun (h31 : ¬ (m 110 l1.toNatClampNeg) = (0 : Int32)) => ?_)
            · skip
              have g32 := i_eq h31
              have hg33 : (0 ≤ l1 ∧ l1.toNatClampNeg < 3100) := i_ix (by omega) (by omega)
              refine ⟨hg33, ?_⟩
              have f34 : 0 ≤ (m 94 73).toInt ∧ (m 94 73).toInt ≤ 3100 := rs_94_73 (m := m) hV
              try have gk := KS_room r_KS (by assumption) (by omega)
              have hg35 : (0 ≤ (m 94 73) ∧ (m 94 73).toNatClampNeg < 3100) := i_ix (by omega) (by omega)
              refine ⟨hg35, ?_⟩
              have li37 : (1 : Int32).toInt = 1 := rfl
              have hV36 : zV (ma_u m 110 l1.toNatClampNeg (1 : Int32)) := ua_110 hV (by omega) (by omega)
              have hV38 : zV (ma_u (ma_u m 110 l1.toNatClampNeg (1 : Int32)) 118 (m 94 73).toNatClampNeg l1) := ua_118 hV36 (by omega) (by omega)
              first | have e40 : ((m 94 73) + (1 : Int32)).toInt = (m 94 73).toInt + (1) := i_addk rfl (by omega) (by omega) | have b41 := i_bd ((m 94 73) + (1 : Int32))
              have hV39 : zV (ma_u (ma_u (ma_u m 110 l1.toNatClampNeg (1 : Int32)) 118 (m 94 73).toNatClampNeg l1) 94 73 ((m 94 73) + (1 : Int32))) := us_94_73 hV38 (by omega) (by omega)
              first | have e42 : (l1 + (1 : Int32)).toInt = l1.toInt + (1) := i_addk rfl (by omega) (by omega) | have b43 := i_bd (l1 + (1 : Int32))
              exact IH (3100 - (l1 + (1 : Int32)).toInt).toNat (by omega) _ ((l1 + (1 : Int32))) rfl (zF_u (zF_u (zF_u hF rfl) rfl) rfl) hV39 (by omega) (by omega) (show zKS ((ma_u m 110 l1.toNatClampNeg (1 : Int32)) 110) ((m 94 73) + (1 : Int32)) from by first | (exact KS_push r_KS (by assumption) (by omega) (by decide) (by assumption)) | (exact KS_push (KS_0 (r := m 110) (y := m 94 73) (by omega)) (by assumption) (by omega) (by decide) (by assumption)) | (exfalso; omega; done) | (exfalso; contradiction; done)) r_W r_RB r_QI (show qKA ((ma_u m 110 l1.toNatClampNeg (1 : Int32)) 110) (m 99) (m 100) (m 98) (m 101) (m 102) (m 108) ((ma_u m 118 (m 94 73).toNatClampNeg l1) 118) ((m 94 73) + (1 : Int32)) (zRch aa) (fun _ => False) 3100 0 from by first | (exact KA_push r_KA (by omega) (by omega) (by assumption) (Rc_ho r_RB r_QI (by omega) (by assumption) (by omega)) (by assumption) (by omega) (by omega) (by decide)) | (exfalso; omega; done) | (exfalso; contradiction; done)) (show zcov ((ma_u m 110 l1.toNatClampNeg (1 : Int32)) 110) (m 112) 16 from by first | (exact cov_one (cov_push r_CVR (by decide)) rfl (by omega) (by omega) (Or.inr (by rw [mu_self]; decide))) | (exact cov_push r_CVR (by decide)) | (exfalso; omega; done) | (exfalso; contradiction; done)) (show zcov ((ma_u m 110 l1.toNatClampNeg (1 : Int32)) 110) (m 114) (m 94 55).toInt from by first | (exact cov_one (cov_push r_CVW (by decide)) rfl (by omega) (by omega) (Or.inr (by rw [mu_self]; decide))) | (exact cov_push r_CVW (by decide)) | (exfalso; omega; done) | (exfalso; contradiction; done)) (show ∀ s : Nat, (s : Int) < (l1 + (1 : Int32)).toInt → (m 99) s ≠ 0 → 0 < ((m 107) s).toInt → ((ma_u m 110 l1.toNatClampNeg (1 : Int32)) 110) s ≠ 0 from by first | (exact cvh_s (cvh_p r_CVH (by decide)) (by omega) (by omega) (Or.inr (Or.inr (by rw [mu_self]; decide)))) | (exfalso; omega; done) | (exfalso; contradiction; done))
            · skip
              have g44 := i_ne h31
              first | have e45 : (l1 + (1 : Int32)).toInt = l1.toInt + (1) := i_addk rfl (by omega) (by omega) | have b46 := i_bd (l1 + (1 : Int32))
              exact IH (3100 - (l1 + (1 : Int32)).toInt).toNat (by omega) _ ((l1 + (1 : Int32))) rfl hF hV (by omega) (by omega) r_KS r_W r_RB r_QI r_KA r_CVR r_CVW (show ∀ s : Nat, (s : Int) < (l1 + (1 : Int32)).toInt → (m 99) s ≠ 0 → 0 < ((m 107) s).toInt → (m 110) s ≠ 0 from by first | (intro s hs; omega; done) | (exact cvh_s r_CVH (by omega) (by omega) (Or.inl (by assumption))) | (exact cvh_s r_CVH (by omega) (by omega) (Or.inr (Or.inl (by omega)))) | (exact cvh_s r_CVH (by omega) (by omega) (Or.inr (Or.inr (by assumption)))) | (exfalso; omega; done) | (exfalso; contradiction; done))
theorem lp_188r_35 {X : Nat × (Nat → Int32)} {P : Option ma_V → (Nat → Nat → Int32) → Prop} {aa : Nat→Nat→Int32} {m0 : Nat → Nat → Int32} (h0 : zV m0) (K : ∀ m₉, zF wr_188 m0 m₉ → zV m₉ → ((m₉ 94 73).toInt = 0) → (∀ s, s < 3100 → (m₉ 99) s ≠ 0 → ((m₉ 110) s ≠ 0 ↔ zRch aa ((m₉ 100) s).toNatClampNeg)) → P none m₉) : ∀ (n : Nat) (m : Nat → Nat → Int32) (l1 : Int32), (3100 - l1.toInt).toNat = n → zF wr_188 m0 m → zV m → (0 ≤ l1.toInt) → (zKS (m 110) (m 94 73)) → (zW (m 94 7) (m 98) (m 101) (m 102) (m 108)) → (qRB (m 99) (m 100) (m 98) (m 101) (m 102) (m 103) (m 107) (m 108) (m 109) (m 111) (m 112) (m 113) (m 114) (m 94 55) (m 94 46) (m 94 11) (m 94 12) (m 94 62) (m 94 17) (m 94 9) aa) → (qI aa) → (qKA (m 110) (m 99) (m 100) (m 98) (m 101) (m 102) (m 108) (m 118) (m 94 73) (zRch aa) (fun _ => False) 3100 0) → (zcov (m 110) (m 112) 16) → (zcov (m 110) (m 114) l1.toInt) → zm X 3 66 188 35 [(0, .inr (.inr (some 94))), (1, .inl l1)] m P := by
  intro n
  induction n using Nat.strongRecOn with
  | _ n IH =>
    intro m l1 hmu hF hV hi0 r_KS r_W r_RB r_QI r_KA r_CVR r_CVW
    refine g_188_35 l1 ?_
    have f1 : 0 ≤ (m 94 55).toInt ∧ (m 94 55).toInt ≤ 3100 := rs_94_55 (m := m) hV
    have b2 := i_bd l1
    refine zd (fun (h3 : (m 94 55) ≤ l1) => ?_) (fun (h3 : ¬ (m 94 55) ≤ l1) => ?_)
    · skip
      have g4 := i_le h3
      have li5 : (0 : Int32).toInt = 0 := rfl
      exact lp_188r_61 h0 K _ _ ((0 : Int32)) rfl hF hV (by omega) (by omega) r_KS r_W r_RB r_QI r_KA r_CVR (show zcov (m 110) (m 114) (m 94 55).toInt from by first | (exact cov_0 (by decide)) | (exact cov_one r_CVW rfl (by omega) (by omega) (Or.inl (by omega))) | (exact cov_one r_CVW rfl (by omega) (by omega) (Or.inr (by assumption))) | (exact cov_cut r_CVW (by omega)) | (exfalso; omega; done) | (exfalso; contradiction; done)) (show ∀ s : Nat, (s : Int) < (0 : Int32).toInt → (m 99) s ≠ 0 → 0 < ((m 107) s).toInt → (m 110) s ≠ 0 from by first | (intro s hs; omega; done) | (exfalso; omega; done) | (exfalso; contradiction; done))
    · skip
      have g6 := i_nle h3
      have hg7 : (0 ≤ l1 ∧ l1.toNatClampNeg < 3100) := i_ix (by omega) (by omega)
      refine ⟨hg7, ?_⟩
      first | have f8 : 0 ≤ (m 114 l1.toNatClampNeg).toInt ∧ (m 114 l1.toNatClampNeg).toInt ≤ 3099 := ra_114 (m := m) hV (k := l1.toNatClampNeg) (i_ix (n := 3100) (by omega) (by omega)).2 | have b9 := i_bd (m 114 l1.toNatClampNeg)
      have li10 : (0 : Int32).toInt = 0 := rfl
      refine zd (fun (h11 : (m 114 l1.toNatClampNeg) < (0 : Int32)) => ?_) (fun (h11 : ¬ (m 114 l1.toNatClampNeg) < (0 : Int32)) => ?_)
      · skip
        have g12 := i_lt h11
        first | have e13 : (l1 + (1 : Int32)).toInt = l1.toInt + (1) := i_addk rfl (by omega) (by omega) | have b14 := i_bd (l1 + (1 : Int32))
        exact IH (3100 - (l1 + (1 : Int32)).toInt).toNat (by omega) _ ((l1 + (1 : Int32))) rfl hF hV (by omega) r_KS r_W r_RB r_QI r_KA r_CVR (show zcov (m 110) (m 114) (l1 + (1 : Int32)).toInt from by first | (exact cov_0 (by decide)) | (exact cov_one r_CVW rfl (by omega) (by omega) (Or.inl (by omega))) | (exact cov_one r_CVW rfl (by omega) (by omega) (Or.inr (by assumption))) | (exact cov_cut r_CVW (by omega)) | (exfalso; omega; done) | (exfalso; contradiction; done))
      · skip
        have g15 := i_nlt h11
        have hg16 : (0 ≤ (m 114 l1.toNatClampNeg) ∧ (m 114 l1.toNatClampNeg).toNatClampNeg < 3100) := i_ix (by omega) (by omega)
        refine ⟨hg16, ?_⟩
        first | have f17 : 0 ≤ (m 110 (m 114 l1.toNatClampNeg).toNatClampNeg).toInt ∧ (m 110 (m 114 l1.toNatClampNeg).toNatClampNeg).toInt ≤ 1 := ra_110 (m := m) hV (k := (m 114 l1.toNatClampNeg).toNatClampNeg) (i_ix (n := 3100) (by omega) (by omega)).2 | have b18 := i_bd (m 110 (m 114 l1.toNatClampNeg).toNatClampNeg)
        refine zd (fun (h19 : (m 110 (m 114 l1.toNatClampNeg).toNatClampNeg) = (0 : Int32)) => ?_) (fun (h19 : ¬ (m 110 (m 114 l1.toNatClampNeg).toNatClampNeg) = (0 : Int32)) => ?_)
        · skip
          have g20 := i_eq h19
          have hg21 : (0 ≤ (m 114 l1.toNatClampNeg) ∧ (m 114 l1.toNatClampNeg).toNatClampNeg < 3100) := i_ix (by omega) (by omega)
          refine ⟨hg21, ?_⟩
          have f22 : 0 ≤ (m 94 73).toInt ∧ (m 94 73).toInt ≤ 3100 := rs_94_73 (m := m) hV
          try have gk := KS_room r_KS (by assumption) (by omega)
          have hg23 : (0 ≤ (m 94 73) ∧ (m 94 73).toNatClampNeg < 3100) := i_ix (by omega) (by omega)
          refine ⟨hg23, ?_⟩
          have li25 : (1 : Int32).toInt = 1 := rfl
          have hV24 : zV (ma_u m 110 (m 114 l1.toNatClampNeg).toNatClampNeg (1 : Int32)) := ua_110 hV (by omega) (by omega)
          have hV26 : zV (ma_u (ma_u m 110 (m 114 l1.toNatClampNeg).toNatClampNeg (1 : Int32)) 118 (m 94 73).toNatClampNeg (m 114 l1.toNatClampNeg)) := ua_118 hV24 (by omega) (by omega)
          first | have e28 : ((m 94 73) + (1 : Int32)).toInt = (m 94 73).toInt + (1) := i_addk rfl (by omega) (by omega) | have b29 := i_bd ((m 94 73) + (1 : Int32))
          have hV27 : zV (ma_u (ma_u (ma_u m 110 (m 114 l1.toNatClampNeg).toNatClampNeg (1 : Int32)) 118 (m 94 73).toNatClampNeg (m 114 l1.toNatClampNeg)) 94 73 ((m 94 73) + (1 : Int32))) := us_94_73 hV26 (by omega) (by omega)
          first | have e30 : (l1 + (1 : Int32)).toInt = l1.toInt + (1) := i_addk rfl (by omega) (by omega) | have b31 := i_bd (l1 + (1 : Int32))
          exact IH (3100 - (l1 + (1 : Int32)).toInt).toNat (by omega) _ ((l1 + (1 : Int32))) rfl (zF_u (zF_u (zF_u hF rfl) rfl) rfl) hV27 (by omega) (show zKS ((ma_u m 110 (m 114 l1.toNatClampNeg).toNatClampNeg (1 : Int32)) 110) ((m 94 73) + (1 : Int32)) from by first | (exact KS_push r_KS (by assumption) (by omega) (by decide) (by assumption)) | (exact KS_push (KS_0 (r := m 110) (y := m 94 73) (by omega)) (by assumption) (by omega) (by decide) (by assumption)) | (exfalso; omega; done) | (exfalso; contradiction; done)) r_W r_RB r_QI (show qKA ((ma_u m 110 (m 114 l1.toNatClampNeg).toNatClampNeg (1 : Int32)) 110) (m 99) (m 100) (m 98) (m 101) (m 102) (m 108) ((ma_u m 118 (m 94 73).toNatClampNeg (m 114 l1.toNatClampNeg)) 118) ((m 94 73) + (1 : Int32)) (zRch aa) (fun _ => False) 3100 0 from by first | (exact KA_push r_KA (by omega) (by omega) (Rc_wl r_RB (j := l1) (by omega) (by omega) rfl).1 (Rc_wl r_RB (j := l1) (by omega) (by omega) rfl).2 (by assumption) (by omega) (by omega) (by decide)) | (exfalso; omega; done) | (exfalso; contradiction; done)) (show zcov ((ma_u m 110 (m 114 l1.toNatClampNeg).toNatClampNeg (1 : Int32)) 110) (m 112) 16 from by first | (exact cov_one (cov_push r_CVR (by decide)) rfl (by omega) (by omega) (Or.inr (by rw [mu_self]; decide))) | (exact cov_push r_CVR (by decide)) | (exfalso; omega; done) | (exfalso; contradiction; done)) (show zcov ((ma_u m 110 (m 114 l1.toNatClampNeg).toNatClampNeg (1 : Int32)) 110) (m 114) (l1 + (1 : Int32)).toInt from by first | (exact cov_one (cov_push r_CVW (by decide)) rfl (by omega) (by omega) (Or.inr (by rw [mu_self]; decide))) | (exact cov_push r_CVW (by decide)) | (exfalso; omega; done) | (exfalso; contradiction; done))
        · skip
          have g32 := i_ne h19
          first | have e33 : (l1 + (1 : Int32)).toInt = l1.toInt + (1) := i_addk rfl (by omega) (by omega) | have b34 := i_bd (l1 + (1 : Int32))
          exact IH (3100 - (l1 + (1 : Int32)).toInt).toNat (by omega) _ ((l1 + (1 : Int32))) rfl hF hV (by omega) r_KS r_W r_RB r_QI r_KA r_CVR (show zcov (m 110) (m 114) (l1 + (1 : Int32)).toInt from by first | (exact cov_0 (by decide)) | (exact cov_one r_CVW rfl (by omega) (by omega) (Or.inl (by omega))) | (exact cov_one r_CVW rfl (by omega) (by omega) (Or.inr (by assumption))) | (exact cov_cut r_CVW (by omega)) | (exfalso; omega; done) | (exfalso; contradiction; done))
theorem lp_188r_11 {X : Nat × (Nat → Int32)} {P : Option ma_V → (Nat → Nat → Int32) → Prop} {aa : Nat→Nat→Int32} {m0 : Nat → Nat → Int32} (h0 : zV m0) (K : ∀ m₉, zF wr_188 m0 m₉ → zV m₉ → ((m₉ 94 73).toInt = 0) → (∀ s, s < 3100 → (m₉ 99) s ≠ 0 → ((m₉ 110) s ≠ 0 ↔ zRch aa ((m₉ 100) s).toNatClampNeg)) → P none m₉) : ∀ (n : Nat) (m : Nat → Nat → Int32) (l1 : Int32), (16 - l1.toInt).toNat = n → zF wr_188 m0 m → zV m → (0 ≤ l1.toInt) → (zKS (m 110) (m 94 73)) → (zW (m 94 7) (m 98) (m 101) (m 102) (m 108)) → (qRB (m 99) (m 100) (m 98) (m 101) (m 102) (m 103) (m 107) (m 108) (m 109) (m 111) (m 112) (m 113) (m 114) (m 94 55) (m 94 46) (m 94 11) (m 94 12) (m 94 62) (m 94 17) (m 94 9) aa) → (qI aa) → (qKA (m 110) (m 99) (m 100) (m 98) (m 101) (m 102) (m 108) (m 118) (m 94 73) (zRch aa) (fun _ => False) 3100 0) → (zcov (m 110) (m 112) l1.toInt) → zm X 3 66 188 11 [(0, .inr (.inr (some 94))), (1, .inl l1)] m P := by
  intro n
  induction n using Nat.strongRecOn with
  | _ n IH =>
    intro m l1 hmu hF hV hi0 r_KS r_W r_RB r_QI r_KA r_CVR
    refine g_188_11 l1 ?_
    have li1 : (16 : Int32).toInt = 16 := rfl
    have b2 := i_bd l1
    refine zd (fun (h3 : (16 : Int32) ≤ l1) => ?_) (fun (h3 : ¬ (16 : Int32) ≤ l1) => ?_)
    · skip
      have g4 := i_le h3
      have li5 : (0 : Int32).toInt = 0 := rfl
      exact lp_188r_35 h0 K _ _ ((0 : Int32)) rfl hF hV (by omega) r_KS r_W r_RB r_QI r_KA (show zcov (m 110) (m 112) 16 from by first | (exact cov_0 (by decide)) | (exact cov_one r_CVR rfl (by omega) (by omega) (Or.inl (by omega))) | (exact cov_one r_CVR rfl (by omega) (by omega) (Or.inr (by assumption))) | (exact cov_cut r_CVR (by omega)) | (exfalso; omega; done) | (exfalso; contradiction; done)) (show zcov (m 110) (m 114) (0 : Int32).toInt from by first | (exact cov_0 (by decide)) | (exfalso; omega; done) | (exfalso; contradiction; done))
    · skip
      have g6 := i_nle h3
      have hg7 : (0 ≤ l1 ∧ l1.toNatClampNeg < 16) := i_ix (by omega) (by omega)
      refine ⟨hg7, ?_⟩
      first | have f8 : -1 ≤ (m 112 l1.toNatClampNeg).toInt ∧ (m 112 l1.toNatClampNeg).toInt ≤ 3099 := ra_112 (m := m) hV (k := l1.toNatClampNeg) (i_ix (n := 16) (by omega) (by omega)).2 | have b9 := i_bd (m 112 l1.toNatClampNeg)
      have li10 : (0 : Int32).toInt = 0 := rfl
      refine zd (fun (h11 : (m 112 l1.toNatClampNeg) < (0 : Int32)) => ?_) (fun (h11 : ¬ (m 112 l1.toNatClampNeg) < (0 : Int32)) => ?_)
      · skip
        have g12 := i_lt h11
        first | have e13 : (l1 + (1 : Int32)).toInt = l1.toInt + (1) := i_addk rfl (by omega) (by omega) | have b14 := i_bd (l1 + (1 : Int32))
        exact IH (16 - (l1 + (1 : Int32)).toInt).toNat (by omega) _ ((l1 + (1 : Int32))) rfl hF hV (by omega) r_KS r_W r_RB r_QI r_KA (show zcov (m 110) (m 112) (l1 + (1 : Int32)).toInt from by first | (exact cov_0 (by decide)) | (exact cov_one r_CVR rfl (by omega) (by omega) (Or.inl (by omega))) | (exact cov_one r_CVR rfl (by omega) (by omega) (Or.inr (by assumption))) | (exact cov_cut r_CVR (by omega)) | (exfalso; omega; done) | (exfalso; contradiction; done))
      · skip
        have g15 := i_nlt h11
        have hg16 : (0 ≤ (m 112 l1.toNatClampNeg) ∧ (m 112 l1.toNatClampNeg).toNatClampNeg < 3100) := i_ix (by omega) (by omega)
        refine ⟨hg16, ?_⟩
        first | have f17 : 0 ≤ (m 110 (m 112 l1.toNatClampNeg).toNatClampNeg).toInt ∧ (m 110 (m 112 l1.toNatClampNeg).toNatClampNeg).toInt ≤ 1 := ra_110 (m := m) hV (k := (m 112 l1.toNatClampNeg).toNatClampNeg) (i_ix (n := 3100) (by omega) (by omega)).2 | have b18 := i_bd (m 110 (m 112 l1.toNatClampNeg).toNatClampNeg)
        refine zd (fun (h19 : (m 110 (m 112 l1.toNatClampNeg).toNatClampNeg) = (0 : Int32)) => ?_) (fun (h19 : ¬ (m 110 (m 112 l1.toNatClampNeg).toNatClampNeg) = (0 : Int32)) => ?_)
        · skip
          have g20 := i_eq h19
          have hg21 : (0 ≤ (m 112 l1.toNatClampNeg) ∧ (m 112 l1.toNatClampNeg).toNatClampNeg < 3100) := i_ix (by omega) (by omega)
          refine ⟨hg21, ?_⟩
          have f22 : 0 ≤ (m 94 73).toInt ∧ (m 94 73).toInt ≤ 3100 := rs_94_73 (m := m) hV
          try have gk := KS_room r_KS (by assumption) (by omega)
          have hg23 : (0 ≤ (m 94 73) ∧ (m 94 73).toNatClampNeg < 3100) := i_ix (by omega) (by omega)
          refine ⟨hg23, ?_⟩
          have li25 : (1 : Int32).toInt = 1 := rfl
          have hV24 : zV (ma_u m 110 (m 112 l1.toNatClampNeg).toNatClampNeg (1 : Int32)) := ua_110 hV (by omega) (by omega)
          have hV26 : zV (ma_u (ma_u m 110 (m 112 l1.toNatClampNeg).toNatClampNeg (1 : Int32)) 118 (m 94 73).toNatClampNeg (m 112 l1.toNatClampNeg)) := ua_118 hV24 (by omega) (by omega)
          first | have e28 : ((m 94 73) + (1 : Int32)).toInt = (m 94 73).toInt + (1) := i_addk rfl (by omega) (by omega) | have b29 := i_bd ((m 94 73) + (1 : Int32))
          have hV27 : zV (ma_u (ma_u (ma_u m 110 (m 112 l1.toNatClampNeg).toNatClampNeg (1 : Int32)) 118 (m 94 73).toNatClampNeg (m 112 l1.toNatClampNeg)) 94 73 ((m 94 73) + (1 : Int32))) := us_94_73 hV26 (by omega) (by omega)
          first | have e30 : (l1 + (1 : Int32)).toInt = l1.toInt + (1) := i_addk rfl (by omega) (by omega) | have b31 := i_bd (l1 + (1 : Int32))
          exact IH (16 - (l1 + (1 : Int32)).toInt).toNat (by omega) _ ((l1 + (1 : Int32))) rfl (zF_u (zF_u (zF_u hF rfl) rfl) rfl) hV27 (by omega) (show zKS ((ma_u m 110 (m 112 l1.toNatClampNeg).toNatClampNeg (1 : Int32)) 110) ((m 94 73) + (1 : Int32)) from by first | (exact KS_push r_KS (by assumption) (by omega) (by decide) (by assumption)) | (exact KS_push (KS_0 (r := m 110) (y := m 94 73) (by omega)) (by assumption) (by omega) (by decide) (by assumption)) | (exfalso; omega; done) | (exfalso; contradiction; done)) r_W r_RB r_QI (show qKA ((ma_u m 110 (m 112 l1.toNatClampNeg).toNatClampNeg (1 : Int32)) 110) (m 99) (m 100) (m 98) (m 101) (m 102) (m 108) ((ma_u m 118 (m 94 73).toNatClampNeg (m 112 l1.toNatClampNeg)) 118) ((m 94 73) + (1 : Int32)) (zRch aa) (fun _ => False) 3100 0 from by first | (exact KA_push r_KA (by omega) (by omega) (Rc_rt r_RB (j := l1) (by omega) (by omega) rfl (by omega)).1 (Rc_rt r_RB (j := l1) (by omega) (by omega) rfl (by omega)).2 (by assumption) (by omega) (by omega) (by decide)) | (exfalso; omega; done) | (exfalso; contradiction; done)) (show zcov ((ma_u m 110 (m 112 l1.toNatClampNeg).toNatClampNeg (1 : Int32)) 110) (m 112) (l1 + (1 : Int32)).toInt from by first | (exact cov_one (cov_push r_CVR (by decide)) rfl (by omega) (by omega) (Or.inr (by rw [mu_self]; decide))) | (exact cov_push r_CVR (by decide)) | (exfalso; omega; done) | (exfalso; contradiction; done))
        · skip
          have g32 := i_ne h19
          first | have e33 : (l1 + (1 : Int32)).toInt = l1.toInt + (1) := i_addk rfl (by omega) (by omega) | have b34 := i_bd (l1 + (1 : Int32))
          exact IH (16 - (l1 + (1 : Int32)).toInt).toNat (by omega) _ ((l1 + (1 : Int32))) rfl hF hV (by omega) r_KS r_W r_RB r_QI r_KA (show zcov (m 110) (m 112) (l1 + (1 : Int32)).toInt from by first | (exact cov_0 (by decide)) | (exact cov_one r_CVR rfl (by omega) (by omega) (Or.inl (by omega))) | (exact cov_one r_CVR rfl (by omega) (by omega) (Or.inr (by assumption))) | (exact cov_cut r_CVR (by omega)) | (exfalso; omega; done) | (exfalso; contradiction; done))
theorem sp_188r {X : Nat × (Nat → Int32)} {P : Option ma_V → (Nat → Nat → Int32) → Prop} {aa : Nat→Nat→Int32} {m : Nat → Nat → Int32}  (hV : zV m) (r_W : zW (m 94 7) (m 98) (m 101) (m 102) (m 108)) (r_RB : qRB (m 99) (m 100) (m 98) (m 101) (m 102) (m 103) (m 107) (m 108) (m 109) (m 111) (m 112) (m 113) (m 114) (m 94 55) (m 94 46) (m 94 11) (m 94 12) (m 94 62) (m 94 17) (m 94 9) aa) (r_QI : qI aa) (KZ : ∀ m₉, zV (zov wr_188 m m₉) → ((m₉ 94 73).toInt = 0) → (∀ s, s < 3100 → (m 99) s ≠ 0 → ((m₉ 110) s ≠ 0 ↔ zRch aa ((m 100) s).toNatClampNeg)) → P none (zov wr_188 m m₉)) : zm X 3 66 188 0 [(0, .inr (.inr (some 94)))] m P := by
  have K : ∀ m₉, zF wr_188 m m₉ → zV m₉ → ((m₉ 94 73).toInt = 0) → (∀ s, s < 3100 → (m₉ 99) s ≠ 0 → ((m₉ 110) s ≠ 0 ↔ zRch aa ((m₉ 100) s).toNatClampNeg)) → P none m₉ := by
    intro m₉ hf z q0 q1
    have e := zov_eq hf
    rw [e] at z ⊢
    try rw [e] at q0
    try rw [e] at q1
    exact KZ m₉ z q0 q1
  refine g_188_0  ?_
  refine sp_189  hV  (fun m1 hV_m1 p0_m1 => zmv_n ?_)
  have p0_m1 : ∀ s : Nat, s < 3100 → (m1 110) s = 0 := p0_m1
  have li2 : (0 : Int32).toInt = 0 := rfl
  have hV1 : zV (ma_u (zov wr_189 m m1) 94 73 (0 : Int32)) := us_94_73 hV_m1 (by omega) (by omega)
  exact lp_188r_11 hV K _ _ ((0 : Int32)) rfl (zF_u (zF_zov zF_rfl ws_189_188) rfl) hV1 (by omega) (show zKS (m1 110) (0 : Int32) from by first | (exact KS_0 (by omega)) | (exfalso; omega; done) | (exfalso; contradiction; done)) r_W r_RB r_QI (show qKA (m1 110) (m 99) (m 100) (m 98) (m 101) (m 102) (m 108) (m 118) (0 : Int32) (zRch aa) (fun _ => False) 3100 0 from by first | (exact KA_none p0_m1 (by omega) (fun _ z => z)) | (exfalso; omega; done) | (exfalso; contradiction; done)) (show zcov (m1 110) (m 112) (0 : Int32).toInt from by first | (exact cov_0 (by decide)) | (exfalso; omega; done) | (exfalso; contradiction; done))
theorem sp_245r {X : Nat × (Nat → Int32)} {P : Option ma_V → (Nat → Nat → Int32) → Prop} {aa : Nat→Nat→Int32} {m : Nat → Nat → Int32} (ob : Int32) (hV : zV m) (r_W : zW (m 94 7) (m 98) (m 101) (m 102) (m 108)) (r_RB : qRB (m 99) (m 100) (m 98) (m 101) (m 102) (m 103) (m 107) (m 108) (m 109) (m 111) (m 112) (m 113) (m 114) (m 94 55) (m 94 46) (m 94 11) (m 94 12) (m 94 62) (m 94 17) (m 94 9) aa) (r_QI : qI aa) (KZ : ∀ v m₉, zV (zov wr_245 m m₉) → (-1 ≤ v.toInt ∧ v.toInt ≤ 3099) → (v.toInt < 0 ∨ (m 99) v.toNatClampNeg ≠ 0) → (qRe (m 99) (m 100) aa ob v) → P (some (.inl v)) (zov wr_245 m m₉)) : zm X 4 87 245 0 [(0, .inr (.inr (some 94))), (1, .inl ob)] m P := by
  have K : ∀ v m₉, zF wr_245 m m₉ → zV m₉ → (-1 ≤ v.toInt ∧ v.toInt ≤ 3099) → (v.toInt < 0 ∨ (m₉ 99) v.toNatClampNeg ≠ 0) → (qRe (m₉ 99) (m₉ 100) aa ob v) → P (some (.inl v)) m₉ := by
    intro v m₉ hf z q0 q1 q2
    have e := zov_eq hf
    rw [e] at z ⊢
    try rw [e] at q0
    try rw [e] at q1
    try rw [e] at q2
    exact KZ v m₉ z q0 q1 q2
  refine g_245_0 ob ?_
  have b1 := i_bd ob
  refine sp_246r (ob) hV  (fun v2 m1 hV_m1 p0_m1 p1_m1 => zmi_n ?_)
  have p0_m1 : -1 ≤ v2.toInt ∧ v2.toInt ≤ 3099 := p0_m1
  have p1_m1 : qPl (m 99) (m 100) ob v2 := p1_m1
  have li2 : (0 : Int32).toInt = 0 := rfl
  have b3 := i_bd v2
  refine zd (fun (h4 : (0 : Int32) ≤ v2) => ?_) (fun (h4 : ¬ (0 : Int32) ≤ v2) => ?_)
  · skip
    have g5 := i_le h4
    refine sp_188r (aa := aa)  hV_m1 r_W r_RB r_QI (fun m3 hV_m3 p0_m3 p1_m3 => zmv_n ?_)
    have p0_m3 : (m3 94 73).toInt = 0 := p0_m3
    have p1_m3 : ∀ s, s < 3100 → (m 99) s ≠ 0 → ((m3 110) s ≠ 0 ↔ zRch aa ((m 100) s).toNatClampNeg) := p1_m3
    have f6 : 0 ≤ (m3 94 73).toInt ∧ (m3 94 73).toInt ≤ 3100 := rs_94_73 (m := (zov wr_188 (zov wr_246 m m1) m3)) hV_m3
    have hg7 : (0 ≤ v2 ∧ v2.toNatClampNeg < 3100) := i_ix (by omega) (by omega)
    refine ⟨hg7, ?_⟩
    first | have f8 : 0 ≤ (m3 110 v2.toNatClampNeg).toInt ∧ (m3 110 v2.toNatClampNeg).toInt ≤ 1 := ra_110 (m := (zov wr_188 (zov wr_246 m m1) m3)) hV_m3 (k := v2.toNatClampNeg) (i_ix (n := 3100) (by omega) (by omega)).2 | have b9 := i_bd (m3 110 v2.toNatClampNeg)
    refine zd (fun (h10 : (m3 110 v2.toNatClampNeg) = (0 : Int32)) => ?_) (fun (h10 : ¬ (m3 110 v2.toNatClampNeg) = (0 : Int32)) => ?_)
    · skip
      have g11 := i_eq h10
      have li12 : (-1 : Int32).toInt = -1 := rfl
      exact K ((-1 : Int32)) _ (zF_zov (zF_zov zF_rfl ws_246_245) ws_188_245) hV_m3 (show -1 ≤ (-1 : Int32).toInt ∧ (-1 : Int32).toInt ≤ 3099 from by omega) (show (-1 : Int32).toInt < 0 ∨ (m 99) (-1 : Int32).toNatClampNeg ≠ 0 from by first | (exact Or.inl (by decide)) | (exact p1_m1.elim (fun z => absurd z.1 (i_ne2 (by omega))) (fun z => Or.inr z.2.2.1)) | (exact p1_m1.elim (fun z => Or.inl (by rw [z.1]; decide)) (fun z => Or.inr z.2.2.1)) | (exact Or.inl (by decide)) | (exact Or.inr (by assumption)) | (exact Or.inl (by omega)) | (exfalso; omega; done) | (exfalso; contradiction; done)) (show qRe (m 99) (m 100) aa ob (-1 : Int32) from by first | (exact Re_0 r_RB p1_m1 (by omega)) | (exact Re_1 r_RB r_QI p1_m1 (by omega) p1_m3 (by assumption)) | (exact Re_2 r_RB r_QI p1_m1 (by omega) p1_m3 (by assumption)) | (exfalso; omega; done) | (exfalso; contradiction; done))
    · skip
      have g13 := i_ne h10
      exact K (v2) _ (zF_zov (zF_zov zF_rfl ws_246_245) ws_188_245) hV_m3 (show -1 ≤ v2.toInt ∧ v2.toInt ≤ 3099 from by omega) (show v2.toInt < 0 ∨ (m 99) v2.toNatClampNeg ≠ 0 from by first | (exact Or.inl (by decide)) | (exact p1_m1.elim (fun z => absurd z.1 (i_ne2 (by omega))) (fun z => Or.inr z.2.2.1)) | (exact p1_m1.elim (fun z => Or.inl (by rw [z.1]; decide)) (fun z => Or.inr z.2.2.1)) | (exact Or.inl (by decide)) | (exact Or.inr (by assumption)) | (exact Or.inl (by omega)) | (exfalso; omega; done) | (exfalso; contradiction; done)) (show qRe (m 99) (m 100) aa ob v2 from by first | (exact Re_0 r_RB p1_m1 (by omega)) | (exact Re_1 r_RB r_QI p1_m1 (by omega) p1_m3 (by assumption)) | (exact Re_2 r_RB r_QI p1_m1 (by omega) p1_m3 (by assumption)) | (exfalso; omega; done) | (exfalso; contradiction; done))
  · skip
    have g14 := i_nle h4
    have li15 : (-1 : Int32).toInt = -1 := rfl
    exact K ((-1 : Int32)) _ (zF_zov zF_rfl ws_246_245) hV_m1 (show -1 ≤ (-1 : Int32).toInt ∧ (-1 : Int32).toInt ≤ 3099 from by omega) (show (-1 : Int32).toInt < 0 ∨ (m 99) (-1 : Int32).toNatClampNeg ≠ 0 from by first | (exact Or.inl (by decide)) | (exact p1_m1.elim (fun z => absurd z.1 (i_ne2 (by omega))) (fun z => Or.inr z.2.2.1)) | (exact p1_m1.elim (fun z => Or.inl (by rw [z.1]; decide)) (fun z => Or.inr z.2.2.1)) | (exact Or.inl (by decide)) | (exact Or.inr (by assumption)) | (exact Or.inl (by omega)) | (exfalso; omega; done) | (exfalso; contradiction; done)) (show qRe (m 99) (m 100) aa ob (-1 : Int32) from by first | (exact Re_0 r_RB p1_m1 (by omega)) | (exfalso; omega; done) | (exfalso; contradiction; done))

/-! from 95.h11 -/
/-! the reference by numbers (written by wip/tools/gen18r.py) -/
/-! LAST WISHES ARE GRANTED, the reference -/
abbrev qCw (us kp wi nr : Nat → Int32) (l : Int32) : Nat → Prop := fun t => us t ≠ 0 ∧ kp t = 0 ∧ wi t ≠ 0 ∧ l.toInt < (nr t).toInt
def qKB (kp us nr : Nat → Int32) (b : Nat → Nat → Int32) : Prop := (∀ s, s < 3100 → kp s ≠ 0 → us s ≠ 0) ∧ ∀ s, s < 3100 → us s ≠ 0 → (kp s ≠ 0 ↔ zNn b (nr s).toNatClampNeg)
def qE0 (b : Nat → Nat → Int32) : Prop := zWQ b ∧ ¬ (b 75 3).toInt < (b 75 4).toInt
def qUn (wk0 wk : Nat → Int32) (s : Int32) (l : Int) : Prop := ∀ k : Nat, wk k = (if (k : Int) < l ∧ wk0 k = s then -1 else wk0 k)
/-- all that are not WHITE: ROOTS and WISHES, and what they refer to -/
def qCl (b : Nat → Nat → Int32) : Prop := (∀ u, xAl b u → zRl b u ∨ zWl b u → zNn b u) ∧ ∀ u y, zNn b u → xAl b u → zEd b u y → zNn b y
def qGL (us nr kr kd ws at₉ ho wd wi ow rt wk wl : Nat → Int32) (wm nu ro fo le ra pi : Int32) (kp : Nat → Int32) (x : Int32) (T : Nat → Nat → Int32) : Prop := ∃ (b : Nat → Nat → Int32) (l : Int32), qRB us nr kr kd ws at₉ ho wd wi ow rt wk wl wm nu ro fo le ra pi b ∧ qKB kp us nr b ∧ qE0 b ∧ qI b ∧ qCl b ∧ (-1 ≤ l.toInt ∧ l.toInt + 1 ≤ (b 69 6).toInt) ∧ qMin (qCw us kp wi nr l) nr x 3100 ∧ aGw b (l + 1) = T
section QG
variable {aa a b c T : Nat → Nat → Int32} {us nr kr kd ws at₉ ho wd wi ow rt wk wk₉ wl kp kp₉ st wk0 : Nat → Int32} {wm nu ro fo le ra pi z v y x j s l i : Int32} {cur n k t u : Nat} {m ms m2 : Nat → Nat → Int32} {d : Nat → Nat → Int32}
theorem Un_0 {e : Int} (h : e ≤ 0) : qUn wk wk s e := fun k => by rw [if_neg (by omega)]
theorem Un_y {e : Int} (h : qUn wk0 (m 113) s i.toInt) (h0 : 0 ≤ i.toInt) (e1 : e = i.toInt + 1) (hs : m 113 i.toNatClampNeg = s) : qUn wk0 (ma_u m 113 i.toNatClampNeg (-1) 113) s e := by
  intro k
  have c := tn_cast h0
  by_cases w : k = i.toNatClampNeg
  · have q := h k
    rw [w, if_neg (by omega)] at q
    rw [w, mu_self, if_pos ⟨by omega, by rw [← q]; exact hs⟩]
  · rw [mu_ne w, h k]
    by_cases w2 : (k : Int) < i.toInt ∧ wk0 k = s
    · rw [if_pos w2, if_pos ⟨by omega, w2.2⟩]
    · rw [if_neg w2, if_neg (fun q => w2 ⟨by omega, q.2⟩)]
theorem Un_n {e : Int} (h : qUn wk0 wk s i.toInt) (h0 : 0 ≤ i.toInt) (e1 : e = i.toInt + 1) (hs : ¬ wk i.toNatClampNeg = s) : qUn wk0 wk s e := by
  intro k
  have c := tn_cast h0
  rw [h k]
  by_cases w : k = i.toNatClampNeg
  · have q := h k
    rw [w, if_neg (by omega)] at q
    rw [w, if_neg (by omega), if_neg (fun q2 => hs (by rw [q]; exact q2.2))]
  · by_cases w2 : (k : Int) < i.toInt ∧ wk0 k = s
    · rw [if_pos w2, if_pos ⟨by omega, w2.2⟩]
    · rw [if_neg w2, if_neg (fun q => w2 ⟨by omega, q.2⟩)]
theorem gr_5 (h : (a 69 5).toInt < 512) : aGr a y 69 5 = a 69 5 + 1 ∧ aGr a y 74 (a 69 5).toNatClampNeg = y ∧ (∀ k, k ≠ (a 69 5).toNatClampNeg → aGr a y 74 k = a 74 k) ∧ (∀ k, aGr a y 73 k = zUw a y 16 73 k) ∧ aGr a y 134 y.toNatClampNeg = 0 ∧ ∀ k, k ≠ y.toNatClampNeg → aGr a y 134 k = a 134 k := by
  unfold aGr
  rw [if_pos h]
  refine ⟨xu_s, ?_, fun k hk => ?_, fun k => ?_, ?_, fun k hk => ?_⟩
  · rw [xu_o (by omega), xu_s]
  · rw [xu_o (by omega), xu_o (fun w => hk w.2), xu_o (by omega), zUw_o (by decide)]
  · rw [xu_o (by omega), xu_o (by omega), xu_o (by omega)]
  · rw [xu_o (by omega), xu_o (by omega), xu_s]
  · rw [xu_o (by omega), xu_o (by omega), xu_o (fun w => hk w.2), zUw_o (by decide)]
theorem gr_r (h : n ≠ 73) (h1 : n ≠ 134) (h2 : n ≠ 74) (h3 : n ≠ 69) : aGr a y n = a n := funext (fun k => aGr_o ⟨h, h1, h2, fun w => h3 w.1⟩)
theorem gr_ref : aRef (aGr a y) n i = aRef a n i := by
  unfold aRef
  rw [gr_r (n := 1000 + n) (by omega) (by omega) (by omega) (by omega), gr_r (n := 130) (by decide) (by decide) (by decide) (by decide), gr_r (n := 71) (by decide) (by decide) (by decide) (by decide)]
theorem RB_gr (h : qRB us nr kr kd ws at₉ ho wd (m 109) ow rt wk (m2 114) wm nu ro fo le ra pi a) (h0 : 0 ≤ s.toInt) (h3 : s.toInt ≤ 3099) (hu : us s.toNatClampNeg ≠ 0) (hw : qUn wk wk₉ s 16) (hm : wm.toInt < 512) (hm0 : 0 ≤ wm.toInt) : qRB us nr kr kd ws at₉ ho wd (ma_u m 109 s.toNatClampNeg 0 109) ow rt wk₉ (ma_u m2 114 wm.toNatClampNeg s 114) (wm + 1) nu ro fo le ra pi (aGr a (nr s.toNatClampNeg)) := by
  obtain ⟨q1, q2, q3, q4, q5, q6, q7, q8⟩ := h
  have hs := tn_lt h0 (by omega)
  have ts := q1.1 _ hs hu
  have g := gr_5 (a := a) (y := nr s.toNatClampNeg) (by rw [q5.1]; exact hm)
  rw [q5.1] at g
  have cm := tn_cast hm0
  have e1 := i_p1 (i := wm) (by omega)
  refine ⟨?_, ?_, ?_, ?_, ?_, ?_, q7, ?_⟩
  · unfold qR1 at q1 ⊢
    rw [gr_r (n := 126) (by decide) (by decide) (by decide) (by decide), gr_r (n := 128) (by decide) (by decide) (by decide) (by decide), gr_r (n := 130) (by decide) (by decide) (by decide) (by decide), gr_r (n := 133) (by decide) (by decide) (by decide) (by decide)]
    exact q1
  · intro t ht hv i hi
    have q := q2 t ht hv i hi
    rw [gr_ref, gr_r (n := 1000 + (nr t).toNatClampNeg) (by omega) (by omega) (by omega) (by omega)]
    exact q
  · unfold qR3 at q3 ⊢
    rw [gr_r (n := 72) (by decide) (by decide) (by decide) (by decide)]
    exact q3
  · intro k hk
    have q := q4 k hk
    rw [hw k, g.2.2.2.1 k]
    unfold zUw
    by_cases w : wk k = s
    · rw [if_pos ⟨by omega, w⟩]
      rw [w, No_y h0] at q
      rw [if_pos ⟨rfl, by omega, q.2⟩]
      exact ⟨Or.inl (by decide), rfl⟩
    · rw [if_neg (fun z => w z.2)]
      refine ⟨q.1, ?_⟩
      rw [if_neg]
      · exact q.2
      · rintro ⟨_, _, z3⟩
        rw [q.2] at z3
        by_cases z : (wk k).toInt < 0
        · rw [No_n z] at z3
          have := ts.1.1
          rw [← z3] at this
          exact absurd this (by decide)
        · have u := U_y q.1 (by omega)
          rw [No_y (by omega)] at z3
          have e := q1.2.1 _ _ (tn_lt (by omega) u.1) hs u.2 hu z3
          apply w
          have c1 := tn_cast (x := wk k) (by omega)
          have c2 := tn_cast h0
          exact Int32.toInt_inj.mp (by omega)
  · refine ⟨g.1, fun k hk => ?_⟩
    by_cases w : k = wm.toNatClampNeg
    · rw [w, mu_self, g.2.1]
      exact ⟨⟨h0, by omega, hu⟩, rfl⟩
    · rw [mu_ne w, g.2.2.1 k w]
      exact q5.2 k (by omega)
  · intro t ht hv
    by_cases w : t = s.toNatClampNeg
    · rw [w, mu_self]
      exact g.2.2.2.2.1
    · rw [mu_ne w, g.2.2.2.2.2 _ (fun z => w (R1_in q1 ht hs hv hu z))]
      exact q6 t ht hv
  · unfold qR8 at q8 ⊢
    rw [aGr_o ⟨by decide, by decide, by decide, by decide⟩, gr_r (n := 87) (by decide) (by decide) (by decide) (by decide)]
    exact q8
theorem I_gr (h : qI a) (h5 : (a 69 5).toInt < 512) : qI (aGr a y) := by
  have al : xAl (aGr a y) = xAl a := by
    funext n
    unfold xAl
    rw [gr_r (n := 126) (by decide) (by decide) (by decide) (by decide)]
  have e8 := gr_r (a := a) (y := y) (n := 128) (by decide) (by decide) (by decide) (by decide)
  have e6 := gr_r (a := a) (y := y) (n := 126) (by decide) (by decide) (by decide) (by decide)
  have su := Su_cg (a := aGr a y) (b := a) e6 e8 512
  obtain ⟨h1, h2, h3, h4, h6, h7⟩ := h
  have i5 := h4.2.1
  have e8₉ : qI6 (aGr a y) := fun n hn k => by
    rw [gr_r (n := 1000 + n) (by omega) (by omega) (by omega) (by omega)]
    exact h7 n (by rw [← al]; exact hn) k
  unfold qI qI1 qI2 qI3 qI4 qGd at *
  rw [al, su, e8, gr_r (n := 130) (by decide) (by decide) (by decide) (by decide), gr_r (n := 71) (by decide) (by decide) (by decide) (by decide), gr_r (n := 87) (by decide) (by decide) (by decide) (by decide), aGr_o (c := 69) (k := 6) ⟨by decide, by decide, by decide, by decide⟩, aGr_o (c := 69) (k := 8) ⟨by decide, by decide, by decide, by decide⟩, (gr_5 h5).1, i_p1 (by omega)]
  exact ⟨h1, h2, h3, ⟨h4.1, ⟨by omega, by omega⟩, h4.2.2⟩, h6, e8₉⟩
theorem WQ_cg (h : zWQ a) (e1 : a 75 = b 75) (e2 : a 76 = b 76) (e3 : a 77 = b 77) (e4 : a 126 = b 126) (e5 : a 130 = b 130) : zWQ b := by
  unfold zWQ zQ1 zQ2 zQ3 zQ4 zQ5 xFp xAl at h ⊢
  rw [← e1, ← e2, ← e3, ← e4, ← e5]
  exact h
theorem E0_gr (h : qE0 a) : qE0 (aGr a y) := by
  have e := gr_r (a := a) (y := y) (n := 75) (by decide) (by decide) (by decide) (by decide)
  refine ⟨WQ_cg h.1 e.symm (gr_r (by decide) (by decide) (by decide) (by decide)).symm (gr_r (by decide) (by decide) (by decide) (by decide)).symm (gr_r (by decide) (by decide) (by decide) (by decide)).symm (gr_r (by decide) (by decide) (by decide) (by decide)).symm, ?_⟩
  rw [e]
  exact h.2
theorem Nn_gr : zNn (aGr a y) = zNn a := by
  funext n
  unfold zNn
  rw [gr_r (n := 77) (by decide) (by decide) (by decide) (by decide)]
/-- nothing GREY: all that are not WHITE are BLACK -/
theorem E0_bl (h : qE0 c) : zDn c u ↔ zNn c u := by
  refine ⟨Dn_Nn, fun w => ⟨w.1, ?_⟩⟩
  rcases h.1.2.2.2.2.1 u w.1 with z | z | z
  · exact absurd z w.2
  · obtain ⟨j, j1, j2, _⟩ := h.1.2.2.2.1 u w.1 z
    have := h.2
    omega
  · exact z
abbrev qQ (c : Nat → Nat → Int32) (y : Int32) : Nat → Prop := zM (fun u => zNn c u ∨ u = y.toNatClampNeg) (zNn c) (zEd c)
theorem KA_b (h : qKB kp us nr c) (hz : z.toInt = 0) : qKA kp us nr kr kd ws wd st z (qQ c y) (zNn c) 3100 0 :=
  ⟨fun s hs hk => ⟨h.1 s hs hk, zM_in (Or.inl ((h.2 s hs (h.1 s hs hk)).mp hk))⟩, fun j hj => by omega, fun e => absurd e (by decide), fun s hs hu hd => (h.2 s hs hu).mpr hd, fun s hs hk => Or.inl ((h.2 s hs (h.1 s hs hk)).mp hk)⟩
theorem KB_gr (h : qKB kp us nr b) : qKB kp us nr (aGr b y) := by
  unfold qKB at h ⊢
  rw [Nn_gr]
  exact h
/-- one is granted: what is kept behind it -/
theorem KB_nx (hR : qRB us nr kr kd ws at₉ ho wd wi ow rt wk wl wm nu ro fo le ra pi c) (h : qKB (m 110) us nr c) (hE : qE0 c) (h0 : 0 ≤ s.toInt) (h3 : s.toInt ≤ 3099) (hu : us s.toNatClampNeg ≠ 0) (hK : qKA kp₉ us nr kr kd ws wd st z (qQ c (nr s.toNatClampNeg)) (zNn c) 3100 0) (hz : z.toInt = 0) (hl : zle (ma_u m 110 s.toNatClampNeg x 110) kp₉) (hx : x ≠ 0) : qKB kp₉ us nr (aSp 512 (aCm c (nr s.toNatClampNeg))) := by
  have hs := tn_lt h0 (by omega)
  have ts := hR.1.1 _ hs hu
  have cy := tn_cast ts.1.1
  refine ⟨fun t ht hk => (hK.1 t ht hk).1, fun t ht hv => ?_⟩
  have g := gr_cm (y := nr s.toNatClampNeg) hE.1
  have e : zNn (aSp 512 (aCm c (nr s.toNatClampNeg))) (nr t).toNatClampNeg ↔ qQ c (nr s.toNatClampNeg) (nr t).toNatClampNeg := by
    refine (sp_Nn g.1).trans (zM_cg (fun u => ?_) (fun u => (g.2.2.1 u).trans (E0_bl hE)) (fun u y => Of_ed g.2.1))
    rw [g.2.2.2.1 u]
    constructor
    · rintro (w | w)
      · exact Or.inl w
      · refine Or.inr ?_
        rw [w.2]
        exact (tn_of w.1.1).symm
    · rintro (w | w)
      · exact Or.inl w
      · refine Or.inr ⟨?_, ?_⟩
        · rw [w]
          exact R1_al hR.1 hs hu
        · rw [w]
          exact (ofN_tn ts.1.1).symm
  rw [e]
  refine ⟨fun w => (hK.1 t ht w).2, fun w => ?_⟩
  have q := w (fun x => zNn c x ∨ ∃ r, r < 3100 ∧ us r ≠ 0 ∧ (nr r).toNatClampNeg = x ∧ kp₉ r ≠ 0) (fun g hg => ?_) (fun u y hp hd he => ?_)
  · rcases q with q | ⟨r, hr, hv2, e2, hk⟩
    · exact hl t ht (mu_mono hx ((h.2 t ht hv).mpr q))
    · rw [← R1_in hR.1 hr ht hv2 hv e2]
      exact hk
  · rcases hg with hg | hg
    · exact Or.inl hg
    · exact Or.inr ⟨_, hs, hu, hg.symm, hl _ hs (by rw [mu_self]; exact hx)⟩
  · rcases hp with hp | ⟨r, hr, hv2, e2, hk⟩
    · exact absurd hp hd
    · rw [← e2] at he hd
      obtain ⟨i, i1, i2, i3, i4, i5⟩ := Ed_t hR hr hv2 he
      refine Or.inr ⟨_, i3, i4, i5, ?_⟩
      rcases hK.2.2.2.2 r hr hk with w2 | ⟨j, j1, _⟩ | w2 | ⟨w2, _⟩
      · exact absurd w2 hd
      · omega
      · exact (w2 i i1).elim (fun w3 => by omega) id
      · omega
theorem E0_sp (h : zWQ a) : qE0 (aSp 512 a) ∧ zOf a (aSp 512 a) := ⟨⟨(sp_all 512 a h).1, sp_end h⟩, (sp_all 512 a h).2.1⟩
theorem aGw_to : ∀ (k : Nat) (n y : Int32), 0 ≤ n.toInt → y.toInt = n.toInt + (k : Int) → y.toInt ≤ (b 69 6).toInt → (∀ z : Int32, n.toInt ≤ z.toInt → z.toInt < y.toInt → ¬ aGc b z) → aGw b n = aGw b y := by
  intro k
  induction k with
  | zero =>
    intro n y _ e _ _
    rw [show n = y from Int32.toInt_inj.mp (by omega)]
  | succ k ih =>
    intro n y h0 e h6 hz
    have bd := i_bd y
    have e1 := i_p1 (i := n) (by omega)
    rw [aGw_n (by omega) (hz n (by omega) (by omega))]
    exact ih (n + 1) y (by omega) (by omega) h6 (fun z z1 z2 => hz z (by omega) z2)
theorem GL_no (hR : qRB us nr kr kd ws at₉ ho wd wi ow rt wk wl wm nu ro fo le ra pi b) (hK : qKB kp us nr b) {v : Int} (hm : ∀ t : Nat, t < 3100 → qCw us kp wi nr l t → v ≤ (nr t).toInt) (h1 : l.toInt < z.toInt) (h2 : z.toInt < v) : ¬ aGc b z := by
  rintro ⟨w0, w1, w2, w3, w4, w5⟩
  have c := tn_cast w0
  obtain ⟨t, ht, hu, hn⟩ := R1_ex hR.1 (show xAl b z.toNatClampNeg from ⟨by omega, w2⟩)
  have q := hR.1.1 t ht hu
  have ct := tn_cast q.1.1
  have k0 : kp t = 0 := by
    by_cases w : kp t = 0
    · exact w
    · have := ((hK.2 t ht hu).mp w).2
      rw [hn] at this
      exact absurd w5 this
  have wt := hR.2.2.2.2.2.1 t ht hu
  rw [hn] at wt
  have := hm t ht ⟨hu, k0, by rw [← wt]; exact w3, by omega⟩
  omega
theorem GL_end (hR : qRB us nr kr kd ws at₉ ho wd wi ow rt wk wl wm nu ro fo le ra pi b) (hI : qI b) (hK : qKB kp us nr b) (h1 : -1 ≤ l.toInt) (h2 : l.toInt + 1 ≤ (b 69 6).toInt) (hm : qMin (qCw us kp wi nr l) nr x 3100) (hx : x.toInt < 0) (hT : aGw b (l + 1) = T) : b = T := by
  have i4 := hI.2.2.2.1.1
  have e1 := i_p1 (i := l) (by omega)
  rw [← hT, aGw_to (b := b) ((b 69 6).toInt - (l + 1).toInt).toNat (l + 1) (b 69 6) (by omega) (by omega) (by omega) (fun z z1 z2 => GL_no hR hK (v := 600) (fun t ht hc => by
      rcases hm with q | q
      · exact absurd hc (q.2 t (by omega))
      · omega) (by omega) (by omega)), aGw_st (by omega)]
theorem GL_nx (hR : qRB us nr kr kd ws at₉ ho wd wi ow rt wk wl wm nu ro fo le ra pi b) (hI : qI b) (hE : qE0 b) (hK : qKB kp us nr b) (h1 : -1 ≤ l.toInt) (h2 : l.toInt + 1 ≤ (b 69 6).toInt) (hm : qMin (qCw us kp wi nr l) nr x 3100) (hx : 0 ≤ x.toInt) (hT : aGw b (l + 1) = T) : aGw (aSp 512 (aCm (aGr b (nr x.toNatClampNeg)) (nr x.toNatClampNeg))) (nr x.toNatClampNeg + 1) = T ∧ (nr x.toNatClampNeg).toInt + 1 ≤ (b 69 6).toInt ∧ -1 ≤ (nr x.toNatClampNeg).toInt := by
  rcases hm with q | q
  · omega
  · have i4 := hI.2.2.2.1.1
    have e1 := i_p1 (i := l) (by omega)
    have hs := tn_lt hx q.2.1
    have t := hR.1.1 _ hs q.2.2.1.1
    have al := R1_al hR.1 hs q.2.2.1.1
    have l6 := (hI.1 _ al).1
    have ct := tn_cast t.1.1
    have l3 := q.2.2.1.2.2.2
    have wt := hR.2.2.2.2.2.1 _ hs q.2.2.1.1
    refine ⟨?_, by omega, by omega⟩
    rw [← hT, aGw_to (b := b) ((nr x.toNatClampNeg).toInt - (l + 1).toInt).toNat (l + 1) (nr x.toNatClampNeg) (by omega) (by omega) (by omega) (fun z z1 z2 => GL_no hR hK (fun t ht hc => q.2.2.2 t (by omega) hc) (by omega) z2)]
    refine (aGw_y (by omega) ⟨t.1.1, t.1.2, t.2.1, ?_, ?_, ?_⟩).symm
    · rw [wt]
      exact q.2.2.1.2.2.1
    · have f := hE.1.2.2.2.2.2.1
      have l7 := l6.2
      omega
    · by_cases w : b 77 (nr x.toNatClampNeg).toNatClampNeg = 0
      · exact w
      · exact absurd q.2.2.1.2.1 ((hK.2 _ hs q.2.2.1.1).mpr ⟨al.1, w⟩)
theorem gr_ed : zEd (aGr a y) u n ↔ zEd a u n := by
  have al : xAl (aGr a y) = xAl a := by
    funext n
    unfold xAl
    rw [gr_r (n := 126) (by decide) (by decide) (by decide) (by decide)]
  unfold zEd
  rw [al, gr_r (n := 128) (by decide) (by decide) (by decide) (by decide)]
  constructor
  · rintro ⟨w1, i, w2, w3, w4⟩
    exact ⟨w1, i, w2, w3, by rw [← gr_ref (y := y)]; exact w4⟩
  · rintro ⟨w1, i, w2, w3, w4⟩
    exact ⟨w1, i, w2, w3, by rw [gr_ref]; exact w4⟩
theorem Cl_nx (h : qCl b) (hE : qE0 b) (h5 : (b 69 5).toInt < 512) (h50 : 0 ≤ (b 69 5).toInt) (hy : xAl b y.toNatClampNeg) (hy0 : 0 ≤ y.toInt) : qCl (aSp 512 (aCm (aGr b y) y)) := by
  have hc := E0_gr (y := y) hE
  have g := gr_cm (y := y) hc.1
  have al : xAl (aGr b y) = xAl b := by
    funext n
    unfold xAl
    rw [gr_r (n := 126) (by decide) (by decide) (by decide) (by decide)]
  have sp := E0_sp g.1
  have o : zOf (aGr b y) (aSp 512 (aCm (aGr b y) y)) := Of_tr g.2.1 sp.2
  have nn : ∀ x, zNn (aSp 512 (aCm (aGr b y) y)) x ↔ zM (fun u => zNn b u ∨ u = y.toNatClampNeg) (zNn b) (zEd b) x := fun x => by
    refine (sp_Nn g.1).trans (zM_cg (fun u => ?_) (fun u => (g.2.2.1 u).trans ((E0_bl hc).trans (by rw [Nn_gr]))) (fun u y2 => (Of_ed g.2.1).trans gr_ed))
    rw [g.2.2.2.1 u, Nn_gr, al]
    constructor
    · rintro (w | w)
      · exact Or.inl w
      · refine Or.inr ?_
        rw [w.2]
        exact (tn_of w.1.1).symm
    · rintro (w | w)
      · exact Or.inl w
      · refine Or.inr ⟨?_, ?_⟩
        · rw [w]
          exact hy
        · rw [w]
          exact (ofN_tn hy0).symm
  have q5 := gr_5 (a := b) (y := y) h5
  have e1 := i_p1 (i := b 69 5) (by omega)
  have c5 := tn_cast h50
  refine ⟨fun u hu hr => ?_, fun u v hu ha he => ?_⟩
  · rw [← Al_of o, al] at hu
    rw [nn]
    have e2 := Of_r (c := 72) o (by decide) (by decide) (by decide)
    have e4 := Of_r (c := 74) o (by decide) (by decide) (by decide)
    have e9 := Of_r (c := 69) o (by decide) (by decide) (by decide)
    unfold zRl zWl at hr
    rw [← e2, ← e4, ← e9, gr_r (n := 72) (by decide) (by decide) (by decide) (by decide), q5.1, e1] at hr
    rcases hr with hr | ⟨j, j1, j2⟩
    · exact zM_in (Or.inl (h.1 u hu (Or.inl hr)))
    · by_cases z : j = (b 69 5).toNatClampNeg
      · rw [z, q5.2.1] at j2
        refine zM_in (Or.inr ?_)
        rw [j2]
        exact (tn_of hu.1).symm
      · rw [q5.2.2.1 j z] at j2
        exact zM_in (Or.inl (h.1 u hu (Or.inr ⟨j, by omega, j2⟩)))
  · rw [nn] at hu ⊢
    rw [← Al_of o, al] at ha
    have he2 := gr_ed.mp ((Of_ed o).mp he)
    by_cases z : zNn b u
    · exact zM_in (Or.inl (h.2 u v z ha he2))
    · exact zM_cl hu z he2
def qCK (kp us rt wl : Nat → Int32) (wm : Int32) (kr kd ws wd : Nat → Int32) : Prop := zcov kp rt 16 ∧ zcov kp wl wm.toInt ∧ ∀ s, s < 3100 → us s ≠ 0 → kp s ≠ 0 → ∀ i : Nat, (i : Int) < (ws s).toInt → zcl kp kr kd wd s i
theorem CK_of (h : qCl b) (hR : qRB us nr kr kd ws at₉ ho wd wi ow rt wk wl wm nu ro fo le ra pi b) (hK : qKB kp us nr b) : qCK kp us rt wl wm kr kd ws wd := by
  refine ⟨fun k hk => ?_, fun k hk => ?_, fun s hs hu hk i hi => ?_⟩
  · have q := hR.2.2.1 k (by omega)
    by_cases z : (rt k).toInt < 0
    · exact Or.inl z
    · have u := U_y q.1 (by omega)
      have hs := tn_lt (by omega) u.1
      rw [No_y (by omega)] at q
      refine Or.inr ((hK.2 _ hs u.2).mpr (h.1 _ (R1_al hR.1 hs u.2) (Or.inl ⟨k, by omega, ?_⟩)))
      rw [q.2, R1_of_nr hR.1 hs u.2]
  · have q := hR.2.2.2.2.1.2 k hk
    have hs := tn_lt q.1.1 q.1.2.1
    refine Or.inr ((hK.2 _ hs q.1.2.2).mpr (h.1 _ (R1_al hR.1 hs q.1.2.2) (Or.inr ⟨k, by rw [hR.2.2.2.2.1.1]; exact hk, ?_⟩)))
    rw [q.2, R1_of_nr hR.1 hs q.1.2.2]
  · by_cases z : (zrf kr kd wd s i).toInt < 0
    · exact Or.inl z
    · have u := U_y (hR.2.1 s hs hu i hi).1 (by omega)
      have ht := tn_lt (by omega) u.1
      exact Or.inr ((hK.2 _ ht u.2).mpr (h.2 _ _ ((hK.2 s hs hu).mp hk) (R1_al hR.1 hs hu) (Ed_s hR hs hu hi (by omega))))
theorem sp_6 : aSp 512 (aCm (aGr a y) y) 69 6 = a 69 6 := by
  rw [aSp_o ⟨by decide, by decide, by decide⟩, aCm_o ⟨by decide, by decide, by decide⟩, aGr_o ⟨by decide, by decide, by decide, by decide⟩]
end QG

