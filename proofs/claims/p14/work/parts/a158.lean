/-! from 95.l02 -/
/-! the reference where it sweeps (written by wip/tools/gen20r.py) -/
/-! A SWEEP OF THE REFERENCE -/
section SW0
variable {a b : Nat → Nat → Int32} {us nr kp : Nat → Int32} {u x : Nat}
theorem RA_zo : zOf a (aRA a) := fun _ _ h1 h2 h3 => (aRA_o ⟨h1, h2, h3⟩).symm
theorem RA_st (hI : qI a) : zNn (aRA a) x ↔ zRch a x := RA_set (fun x hx => (hI.1 x hx).1.2) hI.2.2.2.1.1.2 hI.2.2.2.1.2.1.2
theorem E0_ra (hI : qI a) : qE0 (aRA a) := by
  have h := WQ_wh (fun x hx => (hI.1 x hx).1.2)
  have o := h.2.1
  have g := gr_ro h.1 (by rw [← o 69 6 (by decide) (by decide) (by decide)]; exact hI.2.2.2.1.1.2) (by rw [← o 69 5 (by decide) (by decide) (by decide)]; exact hI.2.2.2.1.2.1.2)
  exact (E0_sp g.1).1
theorem Cl_ra (hI : qI a) : qCl (aRA a) := by
  refine ⟨fun u hu hr => ?_, fun u y hn hu he => ?_⟩
  · have al : xAl a u := (Of_al RA_zo).mp hu
    refine (RA_st hI).mpr (zM_in ?_)
    have q : zRl a u ∨ zWl a u := by
      unfold zRl zWl at hr ⊢
      rw [← Of_r (c := 72) (RA_zo (a := a)) (by decide) (by decide) (by decide), ← Of_r (c := 74) (RA_zo (a := a)) (by decide) (by decide) (by decide), ← Of_r (c := 69) (RA_zo (a := a)) (by decide) (by decide) (by decide)] at hr
      exact hr
    exact ⟨al, q.elim Or.inl (fun w => Or.inr (Or.inl w))⟩
  · exact (RA_st hI).mpr (zM_cl ((RA_st hI).mp hn) (fun z => z) ((Of_ed RA_zo).mp he))
theorem KB_ra (hI : qI a) (h0 : ∀ s, s < 3100 → kp s ≠ 0 → us s ≠ 0) (h : ∀ s, s < 3100 → us s ≠ 0 → (kp s ≠ 0 ↔ zRch a (nr s).toNatClampNeg)) : qKB kp us nr (aRA a) := ⟨h0, fun s hs hu => (h s hs hu).trans (RA_st hI).symm⟩
end SW0
theorem lp_188rn_61 {X : Nat × (Nat → Int32)} {P : Option ma_V → (Nat → Nat → Int32) → Prop} {aa : Nat→Nat→Int32} {m0 : Nat → Nat → Int32} (h0 : zV m0) (K : ∀ m₉, zF wr_188 m0 m₉ → zV m₉ → ((m₉ 94 73).toInt = 0) → (∀ s, s < 3100 → (m₉ 99) s ≠ 0 → ((m₉ 110) s ≠ 0 ↔ zRch aa ((m₉ 100) s).toNatClampNeg)) → (∀ s, s < 3100 → (m₉ 110) s ≠ 0 → (m₉ 99) s ≠ 0) → P none m₉) : ∀ (n : Nat) (m : Nat → Nat → Int32) (l1 : Int32), (3100 - l1.toInt).toNat = n → zF wr_188 m0 m → zV m → (l1.toInt ≤ 3100) → (0 ≤ l1.toInt) → (zKS (m 110) (m 94 73)) → (zW (m 94 7) (m 98) (m 101) (m 102) (m 108)) → (qRB (m 99) (m 100) (m 98) (m 101) (m 102) (m 103) (m 107) (m 108) (m 109) (m 111) (m 112) (m 113) (m 114) (m 94 55) (m 94 46) (m 94 11) (m 94 12) (m 94 62) (m 94 17) (m 94 9) aa) → (qI aa) → (qKA (m 110) (m 99) (m 100) (m 98) (m 101) (m 102) (m 108) (m 118) (m 94 73) (zRch aa) (fun _ => False) 3100 0) → (zcov (m 110) (m 112) 16) → (zcov (m 110) (m 114) (m 94 55).toInt) → (∀ s : Nat, (s : Int) < l1.toInt → (m 99) s ≠ 0 → 0 < ((m 107) s).toInt → (m 110) s ≠ 0) → zm X 3 66 188 61 [(0, .inr (.inr (some 94))), (1, .inl l1)] m P := by
  intro n
  induction n using Nat.strongRecOn with
  | _ n IH =>
    intro m l1 hmu hF hV hi0 hi1 r_KS r_W r_RB r_QI r_KA r_CVR r_CVW r_CVH
    refine g_188_61 l1 ?_
    have li1 : (3100 : Int32).toInt = 3100 := rfl
    have b2 := i_bd l1
    refine zd (fun (h3 : (3100 : Int32) ≤ l1) => ?_) (fun (h3 : ¬ (3100 : Int32) ≤ l1) => ?_)
    · skip
      have g4 := i_le h3
      refine sp_191r (aa := aa) (QQ := (zRch aa)) (DD := (fun _ => False))  hV r_KS r_W r_RB (show qQC (m 99) (m 100) (m 98) (m 101) (m 102) (m 108) (zRch aa) (fun _ => False) from by first | (exact QC_M r_RB) | (exfalso; omega; done) | (exfalso; contradiction; done)) r_KA (fun m1 hV_m1 p0_m1 p1_m1 p2_m1 => zmv_n ?_)
      have p0_m1 : (m1 94 73).toInt = 0 := p0_m1
      have p1_m1 : zle (m 110) (m1 110) := p1_m1
      have p2_m1 : qKA (m1 110) (m 99) (m 100) (m 98) (m 101) (m 102) (m 108) (m1 118) (m1 94 73) (zRch aa) (fun _ => False) 3100 0 := p2_m1
      have f5 : 0 ≤ (m1 94 73).toInt ∧ (m1 94 73).toInt ≤ 3100 := rs_94_73 (m := (zov wr_191 m m1)) hV_m1
      exact K _ (zF_zov hF ws_191_188) hV_m1 (show (m1 94 73).toInt = 0 from by omega) (show ∀ s, s < 3100 → (m 99) s ≠ 0 → ((m1 110) s ≠ 0 ↔ zRch aa ((m 100) s).toNatClampNeg) from by first | (exact fun s hs hu => KR_end r_RB p2_m1 (by omega) (cov_le r_CVR p1_m1 (fun k hk => (ra_112 hV (by omega)).2)) (cov_le r_CVW p1_m1 (fun k hk => (ra_114 hV (by have := rs_94_55 hV; omega)).2)) (fun s hs => cvh_le r_CVH p1_m1 (by omega) s (by omega)) hs hu) | (exfalso; omega; done) | (exfalso; contradiction; done)) (show ∀ s, s < 3100 → (m1 110) s ≠ 0 → (m 99) s ≠ 0 from by first | (exact fun s hs hk => (p2_m1.1 s hs hk).1) | (exfalso; omega; done) | (exfalso; contradiction; done))
    · skip
      have g6 := i_nle h3
      have hg7 : (0 ≤ l1 ∧ l1.toNatClampNeg < 3100) := i_ix (by omega) (by omega)
      refine ⟨hg7, ?_⟩
      first | have f8 : 0 ≤ (m 99 l1.toNatClampNeg).toInt ∧ (m 99 l1.toNatClampNeg).toInt ≤ 1 := ra_99 (m := m) hV (k := l1.toNatClampNeg) (i_ix (n := 3100) (by omega) (by omega)).2 | have b9 := i_bd (m 99 l1.toNatClampNeg)
      have li10 : (0 : Int32).toInt = 0 := rfl
      refine zd (fun (h11 : (m 99 l1.toNatClampNeg) = (0 : Int32)) => ?_) (fun (h11 : ¬ (m 99 l1.toNatClampNeg) = (0 : Int32)) => ?_)
      · skip
        have g12 := i_eq h11
        first | have e13 : (l1 + (1 : Int32)).toInt = l1.toInt + (1) := i_addk rfl (by omega) (by omega) | have b14 := i_bd (l1 + (1 : Int32))
        exact IH (3100 - (l1 + (1 : Int32)).toInt).toNat (by omega) _ ((l1 + (1 : Int32))) rfl hF hV (by omega) (by omega) r_KS r_W r_RB r_QI r_KA r_CVR r_CVW (show ∀ s : Nat, (s : Int) < (l1 + (1 : Int32)).toInt → (m 99) s ≠ 0 → 0 < ((m 107) s).toInt → (m 110) s ≠ 0 from by first | (intro s hs; omega; done) | (exact cvh_s r_CVH (by omega) (by omega) (Or.inl (by assumption))) | (exact cvh_s r_CVH (by omega) (by omega) (Or.inr (Or.inl (by omega)))) | (exact cvh_s r_CVH (by omega) (by omega) (Or.inr (Or.inr (by assumption)))) | (exfalso; omega; done) | (exfalso; contradiction; done))
      · skip
        have g15 := i_ne h11
        have hg16 : (0 ≤ l1 ∧ l1.toNatClampNeg < 3100) := i_ix (by omega) (by omega)
        refine ⟨hg16, ?_⟩
        have b17 := i_bd (m 107 l1.toNatClampNeg)
        refine zd (fun (h18 : (m 107 l1.toNatClampNeg) ≤ (0 : Int32)) => ?_) (fun (h18 : ¬ (m 107 l1.toNatClampNeg) ≤ (0 : Int32)) => ?_)
        · skip
          have g19 := i_le h18
          first | have e20 : (l1 + (1 : Int32)).toInt = l1.toInt + (1) := i_addk rfl (by omega) (by omega) | have b21 := i_bd (l1 + (1 : Int32))
          exact IH (3100 - (l1 + (1 : Int32)).toInt).toNat (by omega) _ ((l1 + (1 : Int32))) rfl hF hV (by omega) (by omega) r_KS r_W r_RB r_QI r_KA r_CVR r_CVW (show ∀ s : Nat, (s : Int) < (l1 + (1 : Int32)).toInt → (m 99) s ≠ 0 → 0 < ((m 107) s).toInt → (m 110) s ≠ 0 from by first | (intro s hs; omega; done) | (exact cvh_s r_CVH (by omega) (by omega) (Or.inl (by assumption))) | (exact cvh_s r_CVH (by omega) (by omega) (Or.inr (Or.inl (by omega)))) | (exact cvh_s r_CVH (by omega) (by omega) (Or.inr (Or.inr (by assumption)))) | (exfalso; omega; done) | (exfalso; contradiction; done))
        · skip
          have g22 := i_nle h18
          refine zd (fun (h23 : l1 < (0 : Int32)) => ?_) (fun (h23 : ¬ l1 < (0 : Int32)) => ?_)
          · skip
            have g24 := i_lt h23
            first | have e25 : (l1 + (1 : Int32)).toInt = l1.toInt + (1) := i_addk rfl (by omega) (by omega) | have b26 := i_bd (l1 + (1 : Int32))
            exact IH (3100 - (l1 + (1 : Int32)).toInt).toNat (by omega) _ ((l1 + (1 : Int32))) rfl hF hV (by omega) (by omega) r_KS r_W r_RB r_QI r_KA r_CVR r_CVW (show ∀ s : Nat, (s : Int) < (l1 + (1 : Int32)).toInt → (m 99) s ≠ 0 → 0 < ((m 107) s).toInt → (m 110) s ≠ 0 from by first | (intro s hs; omega; done) | (exact cvh_s r_CVH (by omega) (by omega) (Or.inl (by assumption))) | (exact cvh_s r_CVH (by omega) (by omega) (Or.inr (Or.inl (by omega)))) | (exact cvh_s r_CVH (by omega) (by omega) (Or.inr (Or.inr (by assumption)))) | (exfalso; omega; done) | (exfalso; contradiction; done))
          · skip
            have g27 := i_nlt h23
            have hg28 : (0 ≤ l1 ∧ l1.toNatClampNeg < 3100) := i_ix (by omega) (by omega)
            refine ⟨hg28, ?_⟩
            first | have f29 : 0 ≤ (m 110 l1.toNatClampNeg).toInt ∧ (m 110 l1.toNatClampNeg).toInt ≤ 1 := ra_110 (m := m) hV (k := l1.toNatClampNeg) (i_ix (n := 3100) (by omega) (by omega)).2 | have b30 := i_bd (m 110 l1.toNatClampNeg)
            refine zd (fun (h31 : (m 110 l1.toNatClampNeg) = (0 : Int32)) => ?_) (fun (h31 : ¬ (m 110 l1.toNatClampNeg) = (0 : Int32)) => ?_)
            · skip
              have g32 := i_eq h31
              have hg33 : (0 ≤ l1 ∧ l1.toNatClampNeg < 3100) := i_ix (by omega) (by omega)
              refine ⟨hg33, ?_⟩
              have f34 : 0 ≤ (m 94 73).toInt ∧ (m 94 73).toInt ≤ 3100 := rs_94_73 (m := m) hV
              try have gk := KS_room r_KS (by assumption) (by omega)
              have hg35 : (0 ≤ (m 94 73) ∧ (m 94 73).toNatClampNeg < 3100) := i_ix (by omega) (by omega)
              refine ⟨hg35, ?_⟩
              have li37 : (1 : Int32).toInt = 1 := rfl
              have hV36 : zV (ma_u m 110 l1.toNatClampNeg (1 : Int32)) := ua_110 hV (by omega) (by omega)
              have hV38 : zV (ma_u (ma_u m 110 l1.toNatClampNeg (1 : Int32)) 118 (m 94 73).toNatClampNeg l1) := ua_118 hV36 (by omega) (by omega)
              first | have e40 : ((m 94 73) + (1 : Int32)).toInt = (m 94 73).toInt + (1) := i_addk rfl (by omega) (by omega) | have b41 := i_bd ((m 94 73) + (1 : Int32))
              have hV39 : zV (ma_u (ma_u (ma_u m 110 l1.toNatClampNeg (1 : Int32)) 118 (m 94 73).toNatClampNeg l1) 94 73 ((m 94 73) + (1 : Int32))) := us_94_73 hV38 (by omega) (by omega)
              first | have e42 : (l1 + (1 : Int32)).toInt = l1.toInt + (1) := i_addk rfl (by omega) (by omega) | have b43 := i_bd (l1 + (1 : Int32))
              exact IH (3100 - (l1 + (1 : Int32)).toInt).toNat (by omega) _ ((l1 + (1 : Int32))) rfl (zF_u (zF_u (zF_u hF rfl) rfl) rfl) hV39 (by omega) (by omega) (show zKS ((ma_u m 110 l1.toNatClampNeg (1 : Int32)) 110) ((m 94 73) + (1 : Int32)) from by first | (exact KS_push r_KS (by assumption) (by omega) (by decide) (by assumption)) | (exact KS_push (KS_0 (r := m 110) (y := m 94 73) (by omega)) (by assumption) (by omega) (by decide) (by assumption)) | (exfalso; omega; done) | (exfalso; contradiction; done)) r_W r_RB r_QI (show qKA ((ma_u m 110 l1.toNatClampNeg (1 : Int32)) 110) (m 99) (m 100) (m 98) (m 101) (m 102) (m 108) ((ma_u m 118 (m 94 73).toNatClampNeg l1) 118) ((m 94 73) + (1 : Int32)) (zRch aa) (fun _ => False) 3100 0 from by first | (exact KA_push r_KA (by omega) (by omega) (by assumption) (Rc_ho r_RB r_QI (by omega) (by assumption) (by omega)) (by assumption) (by omega) (by omega) (by decide)) | (exfalso; omega; done) | (exfalso; contradiction; done)) (show zcov ((ma_u m 110 l1.toNatClampNeg (1 : Int32)) 110) (m 112) 16 from by first | (exact cov_one (cov_push r_CVR (by decide)) rfl (by omega) (by omega) (Or.inr (by rw [mu_self]; decide))) | (exact cov_push r_CVR (by decide)) | (exfalso; omega; done) | (exfalso; contradiction; done)) (show zcov ((ma_u m 110 l1.toNatClampNeg (1 : Int32)) 110) (m 114) (m 94 55).toInt from by first | (exact cov_one (cov_push r_CVW (by decide)) rfl (by omega) (by omega) (Or.inr (by rw [mu_self]; decide))) | (exact cov_push r_CVW (by decide)) | (exfalso; omega; done) | (exfalso; contradiction; done)) (show ∀ s : Nat, (s : Int) < (l1 + (1 : Int32)).toInt → (m 99) s ≠ 0 → 0 < ((m 107) s).toInt → ((ma_u m 110 l1.toNatClampNeg (1 : Int32)) 110) s ≠ 0 from by first | (exact cvh_s (cvh_p r_CVH (by decide)) (by omega) (by omega) (Or.inr (Or.inr (by rw [mu_self]; decide)))) | (exfalso; omega; done) | (exfalso; contradiction; done))
            · skip
              have g44 := i_ne h31
              first | have e45 : (l1 + (1 : Int32)).toInt = l1.toInt + (1) := i_addk rfl (by omega) (by omega) | have b46 := i_bd (l1 + (1 : Int32))
              exact IH (3100 - (l1 + (1 : Int32)).toInt).toNat (by omega) _ ((l1 + (1 : Int32))) rfl hF hV (by omega) (by omega) r_KS r_W r_RB r_QI r_KA r_CVR r_CVW (show ∀ s : Nat, (s : Int) < (l1 + (1 : Int32)).toInt → (m 99) s ≠ 0 → 0 < ((m 107) s).toInt → (m 110) s ≠ 0 from by first | (intro s hs; omega; done) | (exact cvh_s r_CVH (by omega) (by omega) (Or.inl (by assumption))) | (exact cvh_s r_CVH (by omega) (by omega) (Or.inr (Or.inl (by omega)))) | (exact cvh_s r_CVH (by omega) (by omega) (Or.inr (Or.inr (by assumption)))) | (exfalso; omega; done) | (exfalso; contradiction; done))
theorem lp_188rn_35 {X : Nat × (Nat → Int32)} {P : Option ma_V → (Nat → Nat → Int32) → Prop} {aa : Nat→Nat→Int32} {m0 : Nat → Nat → Int32} (h0 : zV m0) (K : ∀ m₉, zF wr_188 m0 m₉ → zV m₉ → ((m₉ 94 73).toInt = 0) → (∀ s, s < 3100 → (m₉ 99) s ≠ 0 → ((m₉ 110) s ≠ 0 ↔ zRch aa ((m₉ 100) s).toNatClampNeg)) → (∀ s, s < 3100 → (m₉ 110) s ≠ 0 → (m₉ 99) s ≠ 0) → P none m₉) : ∀ (n : Nat) (m : Nat → Nat → Int32) (l1 : Int32), (3100 - l1.toInt).toNat = n → zF wr_188 m0 m → zV m → (0 ≤ l1.toInt) → (zKS (m 110) (m 94 73)) → (zW (m 94 7) (m 98) (m 101) (m 102) (m 108)) → (qRB (m 99) (m 100) (m 98) (m 101) (m 102) (m 103) (m 107) (m 108) (m 109) (m 111) (m 112) (m 113) (m 114) (m 94 55) (m 94 46) (m 94 11) (m 94 12) (m 94 62) (m 94 17) (m 94 9) aa) → (qI aa) → (qKA (m 110) (m 99) (m 100) (m 98) (m 101) (m 102) (m 108) (m 118) (m 94 73) (zRch aa) (fun _ => False) 3100 0) → (zcov (m 110) (m 112) 16) → (zcov (m 110) (m 114) l1.toInt) → zm X 3 66 188 35 [(0, .inr (.inr (some 94))), (1, .inl l1)] m P := by
  intro n
  induction n using Nat.strongRecOn with
  | _ n IH =>
    intro m l1 hmu hF hV hi0 r_KS r_W r_RB r_QI r_KA r_CVR r_CVW
    refine g_188_35 l1 ?_
    have f1 : 0 ≤ (m 94 55).toInt ∧ (m 94 55).toInt ≤ 3100 := rs_94_55 (m := m) hV
    have b2 := i_bd l1
    refine zd (fun (h3 : (m 94 55) ≤ l1) => ?_) (fun (h3 : ¬ (m 94 55) ≤ l1) => ?_)
    · skip
      have g4 := i_le h3
      have li5 : (0 : Int32).toInt = 0 := rfl
      exact lp_188rn_61 h0 K _ _ ((0 : Int32)) rfl hF hV (by omega) (by omega) r_KS r_W r_RB r_QI r_KA r_CVR (show zcov (m 110) (m 114) (m 94 55).toInt from by first | (exact cov_0 (by decide)) | (exact cov_one r_CVW rfl (by omega) (by omega) (Or.inl (by omega))) | (exact cov_one r_CVW rfl (by omega) (by omega) (Or.inr (by assumption))) | (exact cov_cut r_CVW (by omega)) | (exfalso; omega; done) | (exfalso; contradiction; done)) (show ∀ s : Nat, (s : Int) < (0 : Int32).toInt → (m 99) s ≠ 0 → 0 < ((m 107) s).toInt → (m 110) s ≠ 0 from by first | (intro s hs; omega; done) | (exfalso; omega; done) | (exfalso; contradiction; done))
    · skip
      have g6 := i_nle h3
      have hg7 : (0 ≤ l1 ∧ l1.toNatClampNeg < 3100) := i_ix (by omega) (by omega)
      refine ⟨hg7, ?_⟩
      first | have f8 : 0 ≤ (m 114 l1.toNatClampNeg).toInt ∧ (m 114 l1.toNatClampNeg).toInt ≤ 3099 := ra_114 (m := m) hV (k := l1.toNatClampNeg) (i_ix (n := 3100) (by omega) (by omega)).2 | have b9 := i_bd (m 114 l1.toNatClampNeg)
      have li10 : (0 : Int32).toInt = 0 := rfl
      refine zd (fun (h11 : (m 114 l1.toNatClampNeg) < (0 : Int32)) => ?_) (fun (h11 : ¬ (m 114 l1.toNatClampNeg) < (0 : Int32)) => ?_)
      · skip
        have g12 := i_lt h11
        first | have e13 : (l1 + (1 : Int32)).toInt = l1.toInt + (1) := i_addk rfl (by omega) (by omega) | have b14 := i_bd (l1 + (1 : Int32))
        exact IH (3100 - (l1 + (1 : Int32)).toInt).toNat (by omega) _ ((l1 + (1 : Int32))) rfl hF hV (by omega) r_KS r_W r_RB r_QI r_KA r_CVR (show zcov (m 110) (m 114) (l1 + (1 : Int32)).toInt from by first | (exact cov_0 (by decide)) | (exact cov_one r_CVW rfl (by omega) (by omega) (Or.inl (by omega))) | (exact cov_one r_CVW rfl (by omega) (by omega) (Or.inr (by assumption))) | (exact cov_cut r_CVW (by omega)) | (exfalso; omega; done) | (exfalso; contradiction; done))
      · skip
        have g15 := i_nlt h11
        have hg16 : (0 ≤ (m 114 l1.toNatClampNeg) ∧ (m 114 l1.toNatClampNeg).toNatClampNeg < 3100) := i_ix (by omega) (by omega)
        refine ⟨hg16, ?_⟩
        first | have f17 : 0 ≤ (m 110 (m 114 l1.toNatClampNeg).toNatClampNeg).toInt ∧ (m 110 (m 114 l1.toNatClampNeg).toNatClampNeg).toInt ≤ 1 := ra_110 (m := m) hV (k := (m 114 l1.toNatClampNeg).toNatClampNeg) (i_ix (n := 3100) (by omega) (by omega)).2 | have b18 := i_bd (m 110 (m 114 l1.toNatClampNeg).toNatClampNeg)
        refine zd (fun (h19 : (m 110 (m 114 l1.toNatClampNeg).toNatClampNeg) = (0 : Int32)) => ?_) (fun (h19 : ¬ (m 110 (m 114 l1.toNatClampNeg).toNatClampNeg) = (0 : Int32)) => ?_)
        · skip
          have g20 := i_eq h19
          have hg21 : (0 ≤ (m 114 l1.toNatClampNeg) ∧ (m 114 l1.toNatClampNeg).toNatClampNeg < 3100) := i_ix (by omega) (by omega)
          refine ⟨hg21, ?_⟩
          have f22 : 0 ≤ (m 94 73).toInt ∧ (m 94 73).toInt ≤ 3100 := rs_94_73 (m := m) hV
          try have gk := KS_room r_KS (by assumption) (by omega)
          have hg23 : (0 ≤ (m 94 73) ∧ (m 94 73).toNatClampNeg < 3100) := i_ix (by omega) (by omega)
          refine ⟨hg23, ?_⟩
          have li25 : (1 : Int32).toInt = 1 := rfl
          have hV24 : zV (ma_u m 110 (m 114 l1.toNatClampNeg).toNatClampNeg (1 : Int32)) := ua_110 hV (by omega) (by omega)
          have hV26 : zV (ma_u (ma_u m 110 (m 114 l1.toNatClampNeg).toNatClampNeg (1 : Int32)) 118 (m 94 73).toNatClampNeg (m 114 l1.toNatClampNeg)) := ua_118 hV24 (by omega) (by omega)
          first | have e28 : ((m 94 73) + (1 : Int32)).toInt = (m 94 73).toInt + (1) := i_addk rfl (by omega) (by omega) | have b29 := i_bd ((m 94 73) + (1 : Int32))
          have hV27 : zV (ma_u (ma_u (ma_u m 110 (m 114 l1.toNatClampNeg).toNatClampNeg (1 : Int32)) 118 (m 94 73).toNatClampNeg (m 114 l1.toNatClampNeg)) 94 73 ((m 94 73) + (1 : Int32))) := us_94_73 hV26 (by omega) (by omega)
          first | have e30 : (l1 + (1 : Int32)).toInt = l1.toInt + (1) := i_addk rfl (by omega) (by omega) | have b31 := i_bd (l1 + (1 : Int32))
          exact IH (3100 - (l1 + (1 : Int32)).toInt).toNat (by omega) _ ((l1 + (1 : Int32))) rfl (zF_u (zF_u (zF_u hF rfl) rfl) rfl) hV27 (by omega) (show zKS ((ma_u m 110 (m 114 l1.toNatClampNeg).toNatClampNeg (1 : Int32)) 110) ((m 94 73) + (1 : Int32)) from by first | (exact KS_push r_KS (by assumption) (by omega) (by decide) (by assumption)) | (exact KS_push (KS_0 (r := m 110) (y := m 94 73) (by omega)) (by assumption) (by omega) (by decide) (by assumption)) | (exfalso; omega; done) | (exfalso; contradiction; done)) r_W r_RB r_QI (show qKA ((ma_u m 110 (m 114 l1.toNatClampNeg).toNatClampNeg (1 : Int32)) 110) (m 99) (m 100) (m 98) (m 101) (m 102) (m 108) ((ma_u m 118 (m 94 73).toNatClampNeg (m 114 l1.toNatClampNeg)) 118) ((m 94 73) + (1 : Int32)) (zRch aa) (fun _ => False) 3100 0 from by first | (exact KA_push r_KA (by omega) (by omega) (Rc_wl r_RB (j := l1) (by omega) (by omega) rfl).1 (Rc_wl r_RB (j := l1) (by omega) (by omega) rfl).2 (by assumption) (by omega) (by omega) (by decide)) | (exfalso; omega; done) | (exfalso; contradiction; done)) (show zcov ((ma_u m 110 (m 114 l1.toNatClampNeg).toNatClampNeg (1 : Int32)) 110) (m 112) 16 from by first | (exact cov_one (cov_push r_CVR (by decide)) rfl (by omega) (by omega) (Or.inr (by rw [mu_self]; decide))) | (exact cov_push r_CVR (by decide)) | (exfalso; omega; done) | (exfalso; contradiction; done)) (show zcov ((ma_u m 110 (m 114 l1.toNatClampNeg).toNatClampNeg (1 : Int32)) 110) (m 114) (l1 + (1 : Int32)).toInt from by first | (exact cov_one (cov_push r_CVW (by decide)) rfl (by omega) (by omega) (Or.inr (by rw [mu_self]; decide))) | (exact cov_push r_CVW (by decide)) | (exfalso; omega; done) | (exfalso; contradiction; done))
        · skip
          have g32 := i_ne h19
          first | have e33 : (l1 + (1 : Int32)).toInt = l1.toInt + (1) := i_addk rfl (by omega) (by omega) | have b34 := i_bd (l1 + (1 : Int32))
          exact IH (3100 - (l1 + (1 : Int32)).toInt).toNat (by omega) _ ((l1 + (1 : Int32))) rfl hF hV (by omega) r_KS r_W r_RB r_QI r_KA r_CVR (show zcov (m 110) (m 114) (l1 + (1 : Int32)).toInt from by first | (exact cov_0 (by decide)) | (exact cov_one r_CVW rfl (by omega) (by omega) (Or.inl (by omega))) | (exact cov_one r_CVW rfl (by omega) (by omega) (Or.inr (by assumption))) | (exact cov_cut r_CVW (by omega)) | (exfalso; omega; done) | (exfalso; contradiction; done))
theorem lp_188rn_11 {X : Nat × (Nat → Int32)} {P : Option ma_V → (Nat → Nat → Int32) → Prop} {aa : Nat→Nat→Int32} {m0 : Nat → Nat → Int32} (h0 : zV m0) (K : ∀ m₉, zF wr_188 m0 m₉ → zV m₉ → ((m₉ 94 73).toInt = 0) → (∀ s, s < 3100 → (m₉ 99) s ≠ 0 → ((m₉ 110) s ≠ 0 ↔ zRch aa ((m₉ 100) s).toNatClampNeg)) → (∀ s, s < 3100 → (m₉ 110) s ≠ 0 → (m₉ 99) s ≠ 0) → P none m₉) : ∀ (n : Nat) (m : Nat → Nat → Int32) (l1 : Int32), (16 - l1.toInt).toNat = n → zF wr_188 m0 m → zV m → (0 ≤ l1.toInt) → (zKS (m 110) (m 94 73)) → (zW (m 94 7) (m 98) (m 101) (m 102) (m 108)) → (qRB (m 99) (m 100) (m 98) (m 101) (m 102) (m 103) (m 107) (m 108) (m 109) (m 111) (m 112) (m 113) (m 114) (m 94 55) (m 94 46) (m 94 11) (m 94 12) (m 94 62) (m 94 17) (m 94 9) aa) → (qI aa) → (qKA (m 110) (m 99) (m 100) (m 98) (m 101) (m 102) (m 108) (m 118) (m 94 73) (zRch aa) (fun _ => False) 3100 0) → (zcov (m 110) (m 112) l1.toInt) → zm X 3 66 188 11 [(0, .inr (.inr (some 94))), (1, .inl l1)] m P := by
  intro n
  induction n using Nat.strongRecOn with
  | _ n IH =>
    intro m l1 hmu hF hV hi0 r_KS r_W r_RB r_QI r_KA r_CVR
    refine g_188_11 l1 ?_
    have li1 : (16 : Int32).toInt = 16 := rfl
    have b2 := i_bd l1
    refine zd (fun (h3 : (16 : Int32) ≤ l1) => ?_) (fun (h3 : ¬ (16 : Int32) ≤ l1) => ?_)
    · skip
      have g4 := i_le h3
      have li5 : (0 : Int32).toInt = 0 := rfl
      exact lp_188rn_35 h0 K _ _ ((0 : Int32)) rfl hF hV (by omega) r_KS r_W r_RB r_QI r_KA (show zcov (m 110) (m 112) 16 from by first | (exact cov_0 (by decide)) | (exact cov_one r_CVR rfl (by omega) (by omega) (Or.inl (by omega))) | (exact cov_one r_CVR rfl (by omega) (by omega) (Or.inr (by assumption))) | (exact cov_cut r_CVR (by omega)) | (exfalso; omega; done) | (exfalso; contradiction; done)) (show zcov (m 110) (m 114) (0 : Int32).toInt from by first | (exact cov_0 (by decide)) | (exfalso; omega; done) | (exfalso; contradiction; done))
    · skip
      have g6 := i_nle h3
      have hg7 : (0 ≤ l1 ∧ l1.toNatClampNeg < 16) := i_ix (by omega) (by omega)
      refine ⟨hg7, ?_⟩
      first | have f8 : -1 ≤ (m 112 l1.toNatClampNeg).toInt ∧ (m 112 l1.toNatClampNeg).toInt ≤ 3099 := ra_112 (m := m) hV (k := l1.toNatClampNeg) (i_ix (n := 16) (by omega) (by omega)).2 | have b9 := i_bd (m 112 l1.toNatClampNeg)
      have li10 : (0 : Int32).toInt = 0 := rfl
      refine zd (fun (h11 : (m 112 l1.toNatClampNeg) < (0 : Int32)) => ?_) (fun (h11 : ¬ (m 112 l1.toNatClampNeg) < (0 : Int32)) => ?_)
      · skip
        have g12 := i_lt h11
        first | have e13 : (l1 + (1 : Int32)).toInt = l1.toInt + (1) := i_addk rfl (by omega) (by omega) | have b14 := i_bd (l1 + (1 : Int32))
        exact IH (16 - (l1 + (1 : Int32)).toInt).toNat (by omega) _ ((l1 + (1 : Int32))) rfl hF hV (by omega) r_KS r_W r_RB r_QI r_KA (show zcov (m 110) (m 112) (l1 + (1 : Int32)).toInt from by first | (exact cov_0 (by decide)) | (exact cov_one r_CVR rfl (by omega) (by omega) (Or.inl (by omega))) | (exact cov_one r_CVR rfl (by omega) (by omega) (Or.inr (by assumption))) | (exact cov_cut r_CVR (by omega)) | (exfalso; omega; done) | (exfalso; contradiction; done))
      · skip
        have g15 := i_nlt h11
        have hg16 : (0 ≤ (m 112 l1.toNatClampNeg) ∧ (m 112 l1.toNatClampNeg).toNatClampNeg < 3100) := i_ix (by omega) (by omega)
        refine ⟨hg16, ?_⟩
        first | have f17 : 0 ≤ (m 110 (m 112 l1.toNatClampNeg).toNatClampNeg).toInt ∧ (m 110 (m 112 l1.toNatClampNeg).toNatClampNeg).toInt ≤ 1 := ra_110 (m := m) hV (k := (m 112 l1.toNatClampNeg).toNatClampNeg) (i_ix (n := 3100) (by omega) (by omega)).2 | have b18 := i_bd (m 110 (m 112 l1.toNatClampNeg).toNatClampNeg)
        refine zd (fun (h19 : (m 110 (m 112 l1.toNatClampNeg).toNatClampNeg) = (0 : Int32)) => ?_) (fun (h19 : ¬ (m 110 (m 112 l1.toNatClampNeg).toNatClampNeg) = (0 : Int32)) => ?_)
        · skip
          have g20 := i_eq h19
          have hg21 : (0 ≤ (m 112 l1.toNatClampNeg) ∧ (m 112 l1.toNatClampNeg).toNatClampNeg < 3100) := i_ix (by omega) (by omega)
          refine ⟨hg21, ?_⟩
          have f22 : 0 ≤ (m 94 73).toInt ∧ (m 94 73).toInt ≤ 3100 := rs_94_73 (m := m) hV
          try have gk := KS_room r_KS (by assumption) (by omega)
          have hg23 : (0 ≤ (m 94 73) ∧ (m 94 73).toNatClampNeg < 3100) := i_ix (by omega) (by omega)
          refine ⟨hg23, ?_⟩
          have li25 : (1 : Int32).toInt = 1 := rfl
          have hV24 : zV (ma_u m 110 (m 112 l1.toNatClampNeg).toNatClampNeg (1 : Int32)) := ua_110 hV (by omega) (by omega)
          have hV26 : zV (ma_u (ma_u m 110 (m 112 l1.toNatClampNeg).toNatClampNeg (1 : Int32)) 118 (m 94 73).toNatClampNeg (m 112 l1.toNatClampNeg)) := ua_118 hV24 (by omega) (by omega)
          first | have e28 : ((m 94 73) + (1 : Int32)).toInt = (m 94 73).toInt + (1) := i_addk rfl (by omega) (by omega) | have b29 := i_bd ((m 94 73) + (1 : Int32))
          have hV27 : zV (ma_u (ma_u (ma_u m 110 (m 112 l1.toNatClampNeg).toNatClampNeg (1 : Int32)) 118 (m 94 73).toNatClampNeg (m 112 l1.toNatClampNeg)) 94 73 ((m 94 73) + (1 : Int32))) := us_94_73 hV26 (by omega) (by omega)
          first | have e30 : (l1 + (1 : Int32)).toInt = l1.toInt + (1) := i_addk rfl (by omega) (by omega) | have b31 := i_bd (l1 + (1 : Int32))
          exact IH (16 - (l1 + (1 : Int32)).toInt).toNat (by omega) _ ((l1 + (1 : Int32))) rfl (zF_u (zF_u (zF_u hF rfl) rfl) rfl) hV27 (by omega) (show zKS ((ma_u m 110 (m 112 l1.toNatClampNeg).toNatClampNeg (1 : Int32)) 110) ((m 94 73) + (1 : Int32)) from by first | (exact KS_push r_KS (by assumption) (by omega) (by decide) (by assumption)) | (exact KS_push (KS_0 (r := m 110) (y := m 94 73) (by omega)) (by assumption) (by omega) (by decide) (by assumption)) | (exfalso; omega; done) | (exfalso; contradiction; done)) r_W r_RB r_QI (show qKA ((ma_u m 110 (m 112 l1.toNatClampNeg).toNatClampNeg (1 : Int32)) 110) (m 99) (m 100) (m 98) (m 101) (m 102) (m 108) ((ma_u m 118 (m 94 73).toNatClampNeg (m 112 l1.toNatClampNeg)) 118) ((m 94 73) + (1 : Int32)) (zRch aa) (fun _ => False) 3100 0 from by first | (exact KA_push r_KA (by omega) (by omega) (Rc_rt r_RB (j := l1) (by omega) (by omega) rfl (by omega)).1 (Rc_rt r_RB (j := l1) (by omega) (by omega) rfl (by omega)).2 (by assumption) (by omega) (by omega) (by decide)) | (exfalso; omega; done) | (exfalso; contradiction; done)) (show zcov ((ma_u m 110 (m 112 l1.toNatClampNeg).toNatClampNeg (1 : Int32)) 110) (m 112) (l1 + (1 : Int32)).toInt from by first | (exact cov_one (cov_push r_CVR (by decide)) rfl (by omega) (by omega) (Or.inr (by rw [mu_self]; decide))) | (exact cov_push r_CVR (by decide)) | (exfalso; omega; done) | (exfalso; contradiction; done))
        · skip
          have g32 := i_ne h19
          first | have e33 : (l1 + (1 : Int32)).toInt = l1.toInt + (1) := i_addk rfl (by omega) (by omega) | have b34 := i_bd (l1 + (1 : Int32))
          exact IH (16 - (l1 + (1 : Int32)).toInt).toNat (by omega) _ ((l1 + (1 : Int32))) rfl hF hV (by omega) r_KS r_W r_RB r_QI r_KA (show zcov (m 110) (m 112) (l1 + (1 : Int32)).toInt from by first | (exact cov_0 (by decide)) | (exact cov_one r_CVR rfl (by omega) (by omega) (Or.inl (by omega))) | (exact cov_one r_CVR rfl (by omega) (by omega) (Or.inr (by assumption))) | (exact cov_cut r_CVR (by omega)) | (exfalso; omega; done) | (exfalso; contradiction; done))
theorem sp_188rn {X : Nat × (Nat → Int32)} {P : Option ma_V → (Nat → Nat → Int32) → Prop} {aa : Nat→Nat→Int32} {m : Nat → Nat → Int32}  (hV : zV m) (r_W : zW (m 94 7) (m 98) (m 101) (m 102) (m 108)) (r_RB : qRB (m 99) (m 100) (m 98) (m 101) (m 102) (m 103) (m 107) (m 108) (m 109) (m 111) (m 112) (m 113) (m 114) (m 94 55) (m 94 46) (m 94 11) (m 94 12) (m 94 62) (m 94 17) (m 94 9) aa) (r_QI : qI aa) (KZ : ∀ m₉, zV (zov wr_188 m m₉) → ((m₉ 94 73).toInt = 0) → (∀ s, s < 3100 → (m 99) s ≠ 0 → ((m₉ 110) s ≠ 0 ↔ zRch aa ((m 100) s).toNatClampNeg)) → (∀ s, s < 3100 → (m₉ 110) s ≠ 0 → (m 99) s ≠ 0) → P none (zov wr_188 m m₉)) : zm X 3 66 188 0 [(0, .inr (.inr (some 94)))] m P := by
  have K : ∀ m₉, zF wr_188 m m₉ → zV m₉ → ((m₉ 94 73).toInt = 0) → (∀ s, s < 3100 → (m₉ 99) s ≠ 0 → ((m₉ 110) s ≠ 0 ↔ zRch aa ((m₉ 100) s).toNatClampNeg)) → (∀ s, s < 3100 → (m₉ 110) s ≠ 0 → (m₉ 99) s ≠ 0) → P none m₉ := by
    intro m₉ hf z q0 q1 q2
    have e := zov_eq hf
    rw [e] at z ⊢
    try rw [e] at q0
    try rw [e] at q1
    try rw [e] at q2
    exact KZ m₉ z q0 q1 q2
  refine g_188_0  ?_
  refine sp_189  hV  (fun m1 hV_m1 p0_m1 => zmv_n ?_)
  have p0_m1 : ∀ s : Nat, s < 3100 → (m1 110) s = 0 := p0_m1
  have li2 : (0 : Int32).toInt = 0 := rfl
  have hV1 : zV (ma_u (zov wr_189 m m1) 94 73 (0 : Int32)) := us_94_73 hV_m1 (by omega) (by omega)
  exact lp_188rn_11 hV K _ _ ((0 : Int32)) rfl (zF_u (zF_zov zF_rfl ws_189_188) rfl) hV1 (by omega) (show zKS (m1 110) (0 : Int32) from by first | (exact KS_0 (by omega)) | (exfalso; omega; done) | (exfalso; contradiction; done)) r_W r_RB r_QI (show qKA (m1 110) (m 99) (m 100) (m 98) (m 101) (m 102) (m 108) (m 118) (0 : Int32) (zRch aa) (fun _ => False) 3100 0 from by first | (exact KA_none p0_m1 (by omega) (fun _ z => z)) | (exfalso; omega; done) | (exfalso; contradiction; done)) (show zcov (m1 110) (m 112) (0 : Int32).toInt from by first | (exact cov_0 (by decide)) | (exfalso; omega; done) | (exfalso; contradiction; done))
theorem sp_187rn {X : Nat × (Nat → Int32)} {P : Option ma_V → (Nat → Nat → Int32) → Prop} {T : Nat} {aa : Nat→Nat→Int32} {m : Nat → Nat → Int32}  (hV : zV m) (hpre0 : T ≤ 512) (r_W : zW (m 94 7) (m 98) (m 101) (m 102) (m 108)) (r_GW : zGW T (m 94 55) (m 109)) (r_GU : zGU T (m 94 46) (m 99)) (r_OW : zOw (m 99) (m 103) (m 111)) (hpre5 : (m 94 10).toInt ≠ 4) (r_RB : qRB (m 99) (m 100) (m 98) (m 101) (m 102) (m 103) (m 107) (m 108) (m 109) (m 111) (m 112) (m 113) (m 114) (m 94 55) (m 94 46) (m 94 11) (m 94 12) (m 94 62) (m 94 17) (m 94 9) aa) (r_QI : qI aa) (r_WTS : (m 94 45).toInt = sm (zbU (m 99)) (m 102) 3100) (KZ : ∀ v m₉, zV (zov wr_187 m m₉) → (zGW T (m₉ 94 55) (m₉ 109)) → (zGU T (m 94 46) (m₉ 99)) → (zOw (m₉ 99) (m 103) (m₉ 111)) → (qRB (m₉ 99) (m 100) (m 98) (m 101) (m 102) (m 103) (m 107) (m 108) (m₉ 109) (m₉ 111) (m 112) (m₉ 113) (m₉ 114) (m₉ 94 55) (m 94 46) (m 94 11) (m 94 12) (m 94 62) (m 94 17) (m 94 9) (aSw aa)) → (qI (aSw aa)) → ((m₉ 94 45).toInt = sm (zbU (m₉ 99)) (m 102) 3100) → P (some (.inl v)) (zov wr_187 m m₉)) : zm X 4 88 187 0 [(0, .inr (.inr (some 94)))] m P := by
  have K : ∀ v m₉, zF wr_187 m m₉ → zV m₉ → (zGW T (m₉ 94 55) (m₉ 109)) → (zGU T (m₉ 94 46) (m₉ 99)) → (zOw (m₉ 99) (m₉ 103) (m₉ 111)) → (qRB (m₉ 99) (m₉ 100) (m₉ 98) (m₉ 101) (m₉ 102) (m₉ 103) (m₉ 107) (m₉ 108) (m₉ 109) (m₉ 111) (m₉ 112) (m₉ 113) (m₉ 114) (m₉ 94 55) (m₉ 94 46) (m₉ 94 11) (m₉ 94 12) (m₉ 94 62) (m₉ 94 17) (m₉ 94 9) (aSw aa)) → (qI (aSw aa)) → ((m₉ 94 45).toInt = sm (zbU (m₉ 99)) (m₉ 102) 3100) → P (some (.inl v)) m₉ := by
    intro v m₉ hf z q0 q1 q2 q3 q4 q5
    have e := zov_eq hf
    rw [e] at z ⊢
    try rw [e] at q0
    try rw [e] at q1
    try rw [e] at q2
    try rw [e] at q3
    try rw [e] at q4
    try rw [e] at q5
    exact KZ v m₉ z q0 q1 q2 q3 q4 q5
  refine g_187_0  ?_
  have f1 : 0 ≤ (m 94 10).toInt ∧ (m 94 10).toInt ≤ 6 := rs_94_10 (m := m) hV
  have hV2 : zV (ma_u m 94 47 ((m 94 47) + (1 : Int32))) := uf_94_47 hV
  refine sp_188rn (aa := aa)  hV2 r_W r_RB r_QI (fun m1 hV_m1 p0_m1 p1_m1 p2_m1 => zmv_n ?_)
  have p0_m1 : (m1 94 73).toInt = 0 := p0_m1
  have p1_m1 : ∀ s, s < 3100 → (m 99) s ≠ 0 → ((m1 110) s ≠ 0 ↔ zRch aa ((m 100) s).toNatClampNeg) := p1_m1
  have p2_m1 : ∀ s, s < 3100 → (m1 110) s ≠ 0 → (m 99) s ≠ 0 := p2_m1
  have f3 : 0 ≤ (m1 94 73).toInt ∧ (m1 94 73).toInt ≤ 3100 := rs_94_73 (m := (zov wr_188 (ma_u m 94 47 ((m 94 47) + (1 : Int32))) m1)) hV_m1
  refine sp_194rn (aa := (aRA aa))  hV_m1 (by omega) (show (m 94 10).toInt ≠ 4 from by omega) (show (m1 94 73).toInt = 0 from by omega) r_W r_GW (show qRB (m 99) (m 100) (m 98) (m 101) (m 102) (m 103) (m 107) (m 108) (m 109) (m 111) (m 112) (m 113) (m 114) (m 94 55) (m 94 46) (m 94 11) (m 94 12) (m 94 62) (m 94 17) (m 94 9) (aRA aa) from by first | (exact RB_of r_RB RA_zo) | (exfalso; omega; done) | (exfalso; contradiction; done)) (show qI (aRA aa) from by first | (exact qI_of r_QI RA_zo) | (exfalso; omega; done) | (exfalso; contradiction; done)) (show qKB (m1 110) (m 99) (m 100) (aRA aa) from by first | (exact KB_ra r_QI p2_m1 p1_m1) | (exfalso; omega; done) | (exfalso; contradiction; done)) (show qE0 (aRA aa) from by first | (exact E0_ra r_QI) | (exfalso; omega; done) | (exfalso; contradiction; done)) (show qCl (aRA aa) from by first | (exact Cl_ra r_QI) | (exfalso; omega; done) | (exfalso; contradiction; done)) (fun m3 hV_m3 p0_m3 p1_m3 p2_m3 p3_m3 p4_m3 p5_m3 p6_m3 p7_m3 => zmv_n ?_)
  have p0_m3 : (m3 94 73).toInt = 0 := p0_m3
  have p1_m3 : zGW T (m3 94 55) (m3 109) := p1_m3
  have p2_m3 : zuw (m 113) (m3 113) := p2_m3
  have p3_m3 : qRB (m 99) (m 100) (m 98) (m 101) (m 102) (m 103) (m 107) (m 108) (m3 109) (m 111) (m 112) (m3 113) (m3 114) (m3 94 55) (m 94 46) (m 94 11) (m 94 12) (m 94 62) (m 94 17) (m 94 9) (aGw (aRA aa) 0) := p3_m3
  have p4_m3 : qI (aGw (aRA aa) 0) := p4_m3
  have p5_m3 : qKB (m3 110) (m 99) (m 100) (aGw (aRA aa) 0) := p5_m3
  have p6_m3 : qE0 (aGw (aRA aa) 0) := p6_m3
  have p7_m3 : qCl (aGw (aRA aa) 0) := p7_m3
  have f4 : 0 ≤ (m3 94 73).toInt ∧ (m3 94 73).toInt ≤ 3100 := rs_94_73 (m := (zov wr_194 (zov wr_188 (ma_u m 94 47 ((m 94 47) + (1 : Int32))) m1) m3)) hV_m3
  refine sp_199r  hV_m3  (fun m5 hV_m5 p0_m5 p1_m5 => zmv_n ?_)
  have p0_m5 : zuw (m3 113) (m5 113) := p0_m5
  have p1_m5 : qUr (m3 113) (m5 113) (m3 110) 16 := p1_m5
  refine sp_200rn  hV_m5 (show (m 94 10).toInt ≠ 4 from by omega) r_W r_GU r_OW r_WTS (fun v8 m7 hV_m7 p0_m7 p1_m7 p2_m7 p3_m7 p4_m7 => zmi_n ?_)
  have p0_m7 : zrm (m 99) (m7 99) (m3 110) 3100 := p0_m7
  have p1_m7 : zowr (m 111) (m7 111) (m 99) (m3 110) (m 103) := p1_m7
  have p2_m7 : zGU T (m 94 46) (m7 99) := p2_m7
  have p3_m7 : zOw (m7 99) (m 103) (m7 111) := p3_m7
  have p4_m7 : (m7 94 45).toInt = sm (zbU (m7 99)) (m 102) 3100 := p4_m7
  have b5 := i_bd v8
  exact K (v8) _ (zF_zov (zF_zov (zF_zov (zF_zov (zF_u zF_rfl rfl) ws_188_187) ws_194_187) ws_199_187) ws_200_187) hV_m7 p1_m3 p2_m7 p3_m7 (show qRB (m7 99) (m 100) (m 98) (m 101) (m 102) (m 103) (m 107) (m 108) (m3 109) (m7 111) (m 112) (m5 113) (m3 114) (m3 94 55) (m 94 46) (m 94 11) (m 94 12) (m 94 62) (m 94 17) (m 94 9) (aSw aa) from by first | (exact RB_mv p3_m3 p4_m3 p5_m3 (CK_of p7_m3 p3_m3 p5_m3) p6_m3.1.2.2.2.2.2.1 p1_m5 p0_m7 p1_m7) | (exfalso; omega; done) | (exfalso; contradiction; done)) (show qI (aSw aa) from by first | (exact I_mv p4_m3 p6_m3.1.2.2.2.2.2.1) | (exfalso; omega; done) | (exfalso; contradiction; done)) p4_m7
theorem sp_240r0 {X : Nat × (Nat → Int32)} {P : Option ma_V → (Nat → Nat → Int32) → Prop} {aa : Nat→Nat→Int32} {m : Nat → Nat → Int32} (wa : Int32) (is : Int32) (hV : zV m) (hpre0 : (m 94 10).toInt = 0 ∧ (m 94 58).toInt = 0) (hpre1 : -1 ≤ wa.toInt) (hpre2 : wa.toInt ≤ 3099) (hpre3 : -1 ≤ is.toInt) (hpre4 : is.toInt ≤ 3099) (r_GG : zGG (m 94 58) (m 94 56) (m 94 57) (m 106)) (r_RB : qRB (m 99) (m 100) (m 98) (m 101) (m 102) (m 103) (m 107) (m 108) (m 109) (m 111) (m 112) (m 113) (m 114) (m 94 55) (m 94 46) (m 94 11) (m 94 12) (m 94 62) (m 94 17) (m 94 9) aa) (r_QI : qI aa) (r_MK : aa 87 8 = (m 94 58)) (r_UA : qU (m 99) wa) (r_UB : qU (m 99) is) (r_MQG : qGQ (m 94 58) (m 106) (m 115) (m 94 57) (m 94 56) (m 99) (m 100) aa) (KZ : ∀ m₉, zV (zov wr_240 m m₉) → (zGG (m 94 58) (m₉ 94 56) (m 94 57) (m₉ 106)) → (qRB (m 99) (m 100) (m 98) (m 101) (m 102) (m 103) (m 107) (m 108) (m 109) (m 111) (m 112) (m 113) (m 114) (m 94 55) (m 94 46) (m 94 11) (m 94 12) (m 94 62) (m 94 17) (m 94 9) (aNc aa (qNo (m 100) wa) (qNo (m 100) is))) → (qI (aNc aa (qNo (m 100) wa) (qNo (m 100) is))) → ((aNc aa (qNo (m 100) wa) (qNo (m 100) is)) 87 8 = (m 94 58)) → (qGQ (m 94 58) (m₉ 106) (m₉ 115) (m 94 57) (m₉ 94 56) (m 99) (m 100) (aNc aa (qNo (m 100) wa) (qNo (m 100) is))) → P none (zov wr_240 m m₉)) : zm X 1 21 240 0 [(0, .inr (.inr (some 94))), (1, .inl wa), (2, .inl is)] m P := by
  have K : ∀ m₉, zF wr_240 m m₉ → zV m₉ → (zGG (m₉ 94 58) (m₉ 94 56) (m₉ 94 57) (m₉ 106)) → (qRB (m₉ 99) (m₉ 100) (m₉ 98) (m₉ 101) (m₉ 102) (m₉ 103) (m₉ 107) (m₉ 108) (m₉ 109) (m₉ 111) (m₉ 112) (m₉ 113) (m₉ 114) (m₉ 94 55) (m₉ 94 46) (m₉ 94 11) (m₉ 94 12) (m₉ 94 62) (m₉ 94 17) (m₉ 94 9) (aNc aa (qNo (m₉ 100) wa) (qNo (m₉ 100) is))) → (qI (aNc aa (qNo (m₉ 100) wa) (qNo (m₉ 100) is))) → ((aNc aa (qNo (m₉ 100) wa) (qNo (m₉ 100) is)) 87 8 = (m₉ 94 58)) → (qGQ (m₉ 94 58) (m₉ 106) (m₉ 115) (m₉ 94 57) (m₉ 94 56) (m₉ 99) (m₉ 100) (aNc aa (qNo (m₉ 100) wa) (qNo (m₉ 100) is))) → P none m₉ := by
    intro m₉ hf z q0 q1 q2 q3 q4
    have e := zov_eq hf
    rw [e] at z ⊢
    try rw [e] at q0
    try rw [e] at q1
    try rw [e] at q2
    try rw [e] at q3
    try rw [e] at q4
    exact KZ m₉ z q0 q1 q2 q3 q4
  refine g_240_0 wa is ?_
  have f1 : 0 ≤ (m 94 10).toInt ∧ (m 94 10).toInt ≤ 6 := rs_94_10 (m := m) hV
  have f2 : 0 ≤ (m 94 58).toInt ∧ (m 94 58).toInt ≤ 1 := rs_94_58 (m := m) hV
  have li3 : (5 : Int32).toInt = 5 := rfl
  refine zd (fun (h4 : (m 94 10) = (5 : Int32)) => ?_) (fun (h4 : ¬ (m 94 10) = (5 : Int32)) => ?_)
  · skip
    have g5 := i_eq h4
    exfalso; omega
  · skip
    have g6 := i_ne h4
    exact K _ zF_rfl hV r_GG (show qRB (m 99) (m 100) (m 98) (m 101) (m 102) (m 103) (m 107) (m 108) (m 109) (m 111) (m 112) (m 113) (m 114) (m 94 55) (m 94 46) (m 94 11) (m 94 12) (m 94 62) (m 94 17) (m 94 9) (aNc aa (qNo (m 100) wa) (qNo (m 100) is)) from by first | (exact RB_of r_RB NC_of) | (exfalso; omega; done) | (exfalso; contradiction; done)) (show qI (aNc aa (qNo (m 100) wa) (qNo (m 100) is)) from by first | (exact qI_of r_QI NC_of) | (exfalso; omega; done) | (exfalso; contradiction; done)) (show (aNc aa (qNo (m 100) wa) (qNo (m 100) is)) 87 8 = (m 94 58) from by first | (exact (NC_of 87 8 (by decide) (by decide) (by decide)).symm.trans r_MK) | (exfalso; omega; done) | (exfalso; contradiction; done)) (show qGQ (m 94 58) (m 106) (m 115) (m 94 57) (m 94 56) (m 99) (m 100) (aNc aa (qNo (m 100) wa) (qNo (m 100) is)) from by first | (exact fun z => absurd (by omega) z) | (rw [show wa = is from by assumption, NC_s]; exact r_MQG; done) | (exact fun z => NC_skip r_RB (r_MQG z) (fun w => absurd (r_MK.symm.trans w) (by assumption)) r_UA r_UB (by omega) (by omega) (by assumption) (if_pos (by assumption)).symm (Or.inl (by omega))) | (exact fun z => NC_skip r_RB (r_MQG z) (fun w => absurd (r_MK.symm.trans w) (by assumption)) r_UA r_UB (by omega) (by omega) (by assumption) (if_pos (by assumption)).symm (Or.inr (by assumption))) | (exact fun z => NC_skip r_RB (r_MQG z) (fun w => absurd (r_MK.symm.trans w) (by assumption)) r_UA r_UB (by omega) (by omega) (by assumption) (if_neg (by assumption)).symm (Or.inl (by omega))) | (exact fun z => NC_skip r_RB (r_MQG z) (fun w => absurd (r_MK.symm.trans w) (by assumption)) r_UA r_UB (by omega) (by omega) (by assumption) (if_neg (by assumption)).symm (Or.inr (by assumption))) | (exfalso; omega; done) | (exfalso; contradiction; done))

/-! from 95.l03 -/
/-! the reference where it sweeps (written by wip/tools/gen20r.py) -/
theorem sp_241r0 {X : Nat × (Nat → Int32)} {P : Option ma_V → (Nat → Nat → Int32) → Prop} {m : Nat → Nat → Int32} (s : Int32) (hV : zV m) (hpre0 : (m 94 10).toInt = 0 ∧ (m 94 58).toInt = 0) (KZ : ∀ m₉, zV (zov wr_241 m m₉) → ((m₉ 99) = (m 99) ∧ (m₉ 105) = (m 105) ∧ (m₉ 109) = (m 109) ∧ (m₉ 111) = (m 111) ∧ (m₉ 113) = (m 113) ∧ (m₉ 114) = (m 114) ∧ (m₉ 94 55) = (m 94 55) ∧ (m₉ 94 45) = (m 94 45)) → P none (zov wr_241 m m₉)) : zm X 3 64 241 0 [(0, .inr (.inr (some 94))), (1, .inl s)] m P := by
  have K : ∀ m₉, zF wr_241 m m₉ → zV m₉ → ((m₉ 99) = (m 99) ∧ (m₉ 105) = (m 105) ∧ (m₉ 109) = (m 109) ∧ (m₉ 111) = (m 111) ∧ (m₉ 113) = (m 113) ∧ (m₉ 114) = (m 114) ∧ (m₉ 94 55) = (m 94 55) ∧ (m₉ 94 45) = (m 94 45)) → P none m₉ := by
    intro m₉ hf z q0
    have e := zov_eq hf
    rw [e] at z ⊢
    try rw [e] at q0
    exact KZ m₉ z q0
  refine g_241_0 s ?_
  have f1 : 0 ≤ (m 94 10).toInt ∧ (m 94 10).toInt ≤ 6 := rs_94_10 (m := m) hV
  have f2 : 0 ≤ (m 94 58).toInt ∧ (m 94 58).toInt ≤ 1 := rs_94_58 (m := m) hV
  have b3 := i_bd s
  have li4 : (0 : Int32).toInt = 0 := rfl
  refine zd (fun (h5 : s < (0 : Int32)) => ?_) (fun (h5 : ¬ s < (0 : Int32)) => ?_)
  · skip
    have g6 := i_lt h5
    exact K _ zF_rfl hV (show (m 99) = (m 99) ∧ (m 105) = (m 105) ∧ (m 109) = (m 109) ∧ (m 111) = (m 111) ∧ (m 113) = (m 113) ∧ (m 114) = (m 114) ∧ (m 94 55) = (m 94 55) ∧ (m 94 45) = (m 94 45) from by first | (exact ⟨rfl, rfl, rfl, rfl, rfl, rfl, rfl, rfl⟩) | (exfalso; omega; done) | (exfalso; contradiction; done))
  · skip
    have g7 := i_nlt h5
    have li8 : (4 : Int32).toInt = 4 := rfl
    refine zd (fun (h9 : (m 94 10) = (4 : Int32)) => ?_) (fun (h9 : ¬ (m 94 10) = (4 : Int32)) => ?_)
    · skip
      have g10 := i_eq h9
      exfalso; omega
    · skip
      have g11 := i_ne h9
      exact K _ zF_rfl hV (show (m 99) = (m 99) ∧ (m 105) = (m 105) ∧ (m 109) = (m 109) ∧ (m 111) = (m 111) ∧ (m 113) = (m 113) ∧ (m 114) = (m 114) ∧ (m 94 55) = (m 94 55) ∧ (m 94 45) = (m 94 45) from by first | (exact ⟨rfl, rfl, rfl, rfl, rfl, rfl, rfl, rfl⟩) | (exfalso; omega; done) | (exfalso; contradiction; done))
theorem sp_238r0 {X : Nat × (Nat → Int32)} {P : Option ma_V → (Nat → Nat → Int32) → Prop} {T : Nat} {aa : Nat→Nat→Int32} {m : Nat → Nat → Int32} (r1 : Int32) (s : Int32) (hV : zV m) (hpre0 : 0 ≤ r1.toInt) (hpre1 : r1.toInt ≤ 15) (hpre2 : -1 ≤ s.toInt) (hpre3 : s.toInt ≤ 3099) (hpre4 : (m 94 10).toInt = 0 ∧ (m 94 58).toInt = 0) (r_W : zW (m 94 7) (m 98) (m 101) (m 102) (m 108)) (r_GW : zGW T (m 94 55) (m 109)) (r_GU : zGU T (m 94 46) (m 99)) (r_OW : zOw (m 99) (m 103) (m 111)) (r_GG : zGG (m 94 58) (m 94 56) (m 94 57) (m 106)) (r_RB : qRB (m 99) (m 100) (m 98) (m 101) (m 102) (m 103) (m 107) (m 108) (m 109) (m 111) (m 112) (m 113) (m 114) (m 94 55) (m 94 46) (m 94 11) (m 94 12) (m 94 62) (m 94 17) (m 94 9) aa) (r_QI : qI aa) (r_MG : qMG (m 94 58) (m 106) (m 115) (m 94 57) (m 94 56) (m 99) (m 100) aa) (r_MK : aa 87 8 = (m 94 58)) (r_WTS : (m 94 45).toInt = sm (zbU (m 99)) (m 102) 3100) (r_US : qU (m 99) s) (r_MS : qMS (m 94 58) aa (qNo (m 100) s)) (KZ : ∀ m₉, zV (zov wr_238 m m₉) → (zGW T (m₉ 94 55) (m₉ 109)) → (zGU T (m 94 46) (m₉ 99)) → (zOw (m₉ 99) (m 103) (m₉ 111)) → (zGG (m 94 58) (m₉ 94 56) (m 94 57) (m₉ 106)) → (qRB (m₉ 99) (m 100) (m 98) (m 101) (m 102) (m 103) (m 107) (m 108) (m₉ 109) (m₉ 111) (m₉ 112) (m₉ 113) (m₉ 114) (m₉ 94 55) (m 94 46) (m 94 11) (m 94 12) (m 94 62) (m 94 17) (m 94 9) (aRt aa r1 (qNo (m 100) s))) → (qI (aRt aa r1 (qNo (m 100) s))) → (qMG (m 94 58) (m₉ 106) (m₉ 115) (m 94 57) (m₉ 94 56) (m₉ 99) (m 100) (aRt aa r1 (qNo (m 100) s))) → ((aRt aa r1 (qNo (m 100) s)) 87 8 = (m 94 58)) → ((m₉ 94 45).toInt = sm (zbU (m₉ 99)) (m 102) 3100) → P none (zov wr_238 m m₉)) : zm X 4 88 238 0 [(0, .inr (.inr (some 94))), (1, .inl r1), (2, .inl s)] m P := by
  have K : ∀ m₉, zF wr_238 m m₉ → zV m₉ → (zGW T (m₉ 94 55) (m₉ 109)) → (zGU T (m₉ 94 46) (m₉ 99)) → (zOw (m₉ 99) (m₉ 103) (m₉ 111)) → (zGG (m₉ 94 58) (m₉ 94 56) (m₉ 94 57) (m₉ 106)) → (qRB (m₉ 99) (m₉ 100) (m₉ 98) (m₉ 101) (m₉ 102) (m₉ 103) (m₉ 107) (m₉ 108) (m₉ 109) (m₉ 111) (m₉ 112) (m₉ 113) (m₉ 114) (m₉ 94 55) (m₉ 94 46) (m₉ 94 11) (m₉ 94 12) (m₉ 94 62) (m₉ 94 17) (m₉ 94 9) (aRt aa r1 (qNo (m₉ 100) s))) → (qI (aRt aa r1 (qNo (m₉ 100) s))) → (qMG (m₉ 94 58) (m₉ 106) (m₉ 115) (m₉ 94 57) (m₉ 94 56) (m₉ 99) (m₉ 100) (aRt aa r1 (qNo (m₉ 100) s))) → ((aRt aa r1 (qNo (m₉ 100) s)) 87 8 = (m₉ 94 58)) → ((m₉ 94 45).toInt = sm (zbU (m₉ 99)) (m₉ 102) 3100) → P none m₉ := by
    intro m₉ hf z q0 q1 q2 q3 q4 q5 q6 q7 q8
    have e := zov_eq hf
    rw [e] at z ⊢
    try rw [e] at q0
    try rw [e] at q1
    try rw [e] at q2
    try rw [e] at q3
    try rw [e] at q4
    try rw [e] at q5
    try rw [e] at q6
    try rw [e] at q7
    try rw [e] at q8
    exact KZ m₉ z q0 q1 q2 q3 q4 q5 q6 q7 q8
  refine g_238_0 r1 s ?_
  have f1 : 0 ≤ (m 94 10).toInt ∧ (m 94 10).toInt ≤ 6 := rs_94_10 (m := m) hV
  have f2 : 0 ≤ (m 94 58).toInt ∧ (m 94 58).toInt ≤ 1 := rs_94_58 (m := m) hV
  have b3 := i_bd r1
  have hg4 : (0 ≤ r1 ∧ r1.toNatClampNeg < 16) := i_ix (by omega) (by omega)
  refine ⟨hg4, ?_⟩
  have b5 := i_bd s
  have li6 : (0 : Int32).toInt = 0 := rfl
  refine zd (fun (h7 : s < (0 : Int32)) => ?_) (fun (h7 : ¬ s < (0 : Int32)) => ?_)
  · skip
    have g8 := i_lt h7
    have hg9 : (0 ≤ r1 ∧ r1.toNatClampNeg < 16) := i_ix (by omega) (by omega)
    refine ⟨hg9, ?_⟩
    first | have f10 : -1 ≤ (m 112 r1.toNatClampNeg).toInt ∧ (m 112 r1.toNatClampNeg).toInt ≤ 3099 := ra_112 (m := m) hV (k := r1.toNatClampNeg) (i_ix (n := 16) (by omega) (by omega)).2 | have b11 := i_bd (m 112 r1.toNatClampNeg)
    have hV12 : zV (ma_u m 112 r1.toNatClampNeg s) := ua_112 hV (by omega) (by omega)
    refine sp_240r0 (aa := (ma_u aa 72 r1.toNatClampNeg (qNo (m 100) s))) ((m 112 r1.toNatClampNeg)) (s) hV12 (show (m 94 10).toInt = 0 ∧ (m 94 58).toInt = 0 from by omega) (by omega) (by omega) (by omega) (by omega) r_GG (show qRB (m 99) (m 100) (m 98) (m 101) (m 102) (m 103) (m 107) (m 108) (m 109) (m 111) ((ma_u m 112 r1.toNatClampNeg s) 112) (m 113) (m 114) (m 94 55) (m 94 46) (m 94 11) (m 94 12) (m 94 62) (m 94 17) (m 94 9) (ma_u aa 72 r1.toNatClampNeg (qNo (m 100) s)) from by first | (exact RB_rt r_RB r_US) | (exfalso; omega; done) | (exfalso; contradiction; done)) (show qI (ma_u aa 72 r1.toNatClampNeg (qNo (m 100) s)) from by first | (exact I_u r_QI (Or.inl rfl)) | (exfalso; omega; done) | (exfalso; contradiction; done)) (show (ma_u aa 72 r1.toNatClampNeg (qNo (m 100) s)) 87 8 = (m 94 58) from by first | (exact (xu_o (by decide)).trans r_MK) | (rw [un (by decide)]; exact r_MK; done) | (exfalso; omega; done) | (exfalso; contradiction; done)) (show qU (m 99) (m 112 r1.toNatClampNeg) from by first | (exact (r_RB.2.2.1 r1.toNatClampNeg (by omega)).1) | (exfalso; omega; done) | (exfalso; contradiction; done)) (show qU (m 99) s from by first | (exact r_US) | (exfalso; omega; done) | (exfalso; contradiction; done)) (show qGQ (m 94 58) (m 106) (m 115) (m 94 57) (m 94 56) (m 99) (m 100) (ma_u aa 72 r1.toNatClampNeg (qNo (m 100) s)) from by first | (exact fun z => MQ_u (r_MG z).1 (by decide)) | (exfalso; omega; done) | (exfalso; contradiction; done)) (fun m1 hV_m1 p0_m1 p1_m1 p2_m1 p3_m1 p4_m1 => zmv_n ?_)
    have p0_m1 : zGG (m 94 58) (m1 94 56) (m 94 57) (m1 106) := p0_m1
    have p1_m1 : qRB (m 99) (m 100) (m 98) (m 101) (m 102) (m 103) (m 107) (m 108) (m 109) (m 111) ((ma_u m 112 r1.toNatClampNeg s) 112) (m 113) (m 114) (m 94 55) (m 94 46) (m 94 11) (m 94 12) (m 94 62) (m 94 17) (m 94 9) (aNc (ma_u aa 72 r1.toNatClampNeg (qNo (m 100) s)) (qNo (m 100) (m 112 r1.toNatClampNeg)) (qNo (m 100) s)) := p1_m1
    have p2_m1 : qI (aNc (ma_u aa 72 r1.toNatClampNeg (qNo (m 100) s)) (qNo (m 100) (m 112 r1.toNatClampNeg)) (qNo (m 100) s)) := p2_m1
    have p3_m1 : (aNc (ma_u aa 72 r1.toNatClampNeg (qNo (m 100) s)) (qNo (m 100) (m 112 r1.toNatClampNeg)) (qNo (m 100) s)) 87 8 = (m 94 58) := p3_m1
    have p4_m1 : qGQ (m 94 58) (m1 106) (m1 115) (m 94 57) (m1 94 56) (m 99) (m 100) (aNc (ma_u aa 72 r1.toNatClampNeg (qNo (m 100) s)) (qNo (m 100) (m 112 r1.toNatClampNeg)) (qNo (m 100) s)) := p4_m1
    refine sp_241r0 ((m 112 r1.toNatClampNeg)) hV_m1 (show (m 94 10).toInt = 0 ∧ (m 94 58).toInt = 0 from by omega) (fun m3 hV_m3 p0_m3 => zmv_n ?_)
    have p0_m3 : (m3 99) = (m 99) ∧ (m3 105) = (m 105) ∧ (m3 109) = (m 109) ∧ (m3 111) = (m 111) ∧ (m3 113) = (m 113) ∧ (m3 114) = (m 114) ∧ (m3 94 55) = (m 94 55) ∧ (m3 94 45) = (m 94 45) := p0_m3
    try have rgb := rs_94_64 hV
    try have lel := LE_lo p0_m3
    try have lex3 := LE_ex p0_m3 (lexi (by omega))
    try have lexi := LE_some p0_m3
    exact K _ (zF_zov (zF_zov (zF_u zF_rfl rfl) ws_240_238) ws_241_238) hV_m3 (show zGW T (m3 94 55) (m3 109) from by first | (rw [p0_m3.2.2.1, p0_m3.2.2.2.2.2.2.1]; exact r_GW; done) | (exfalso; omega; done) | (exfalso; contradiction; done)) (show zGU T (m 94 46) (m3 99) from by first | (rw [p0_m3.1]; exact r_GU; done) | (exact GU_0 r_GU) | (exfalso; omega; done) | (exfalso; contradiction; done)) (show zOw (m3 99) (m 103) (m3 111) from by first | (rw [p0_m3.1, p0_m3.2.2.2.1]; exact r_OW; done) | (exact Ow_rm r_OW (by decide) (tn_cast (by omega)).symm) | (exfalso; omega; done) | (exfalso; contradiction; done)) p0_m1 (show qRB (m3 99) (m 100) (m 98) (m 101) (m 102) (m 103) (m 107) (m 108) (m3 109) (m3 111) ((ma_u m 112 r1.toNatClampNeg s) 112) (m3 113) (m3 114) (m3 94 55) (m 94 46) (m 94 11) (m 94 12) (m 94 62) (m 94 17) (m 94 9) (aRt aa r1 (qNo (m 100) s)) from by first | (rw [(show aRt aa r1 (qNo (m 100) s) = aNc (ma_u aa 72 r1.toNatClampNeg (qNo (m 100) s)) (qNo (m 100) (m 112 r1.toNatClampNeg)) (qNo (m 100) s) from by unfold aRt; rw [Nm_no r_RB.1 r_US, (r_RB.2.2.1 r1.toNatClampNeg (by omega)).2]), p0_m3.1, p0_m3.2.2.1, p0_m3.2.2.2.1, p0_m3.2.2.2.2.1, p0_m3.2.2.2.2.2.1, p0_m3.2.2.2.2.2.2.1]; exact p1_m1; done) | (exfalso; omega; done) | (exfalso; contradiction; done)) (show qI (aRt aa r1 (qNo (m 100) s)) from by first | (rw [(show aRt aa r1 (qNo (m 100) s) = aNc (ma_u aa 72 r1.toNatClampNeg (qNo (m 100) s)) (qNo (m 100) (m 112 r1.toNatClampNeg)) (qNo (m 100) s) from by unfold aRt; rw [Nm_no r_RB.1 r_US, (r_RB.2.2.1 r1.toNatClampNeg (by omega)).2])]; exact p2_m1; done) | (exfalso; omega; done) | (exfalso; contradiction; done)) (show qMG (m 94 58) (m1 106) (m1 115) (m 94 57) (m1 94 56) (m3 99) (m 100) (aRt aa r1 (qNo (m 100) s)) from by first | (rw [(show aRt aa r1 (qNo (m 100) s) = aNc (ma_u aa 72 r1.toNatClampNeg (qNo (m 100) s)) (qNo (m 100) (m 112 r1.toNatClampNeg)) (qNo (m 100) s) from by unfold aRt; rw [Nm_no r_RB.1 r_US, (r_RB.2.2.1 r1.toNatClampNeg (by omega)).2]), p0_m3.1]; exact fun z => ⟨p4_m1 z, MI_rt (r_MG z).2 (r_MG z).1.2.2.2.2 (r_MS z)⟩; done) | (exfalso; omega; done) | (exfalso; contradiction; done)) (show (aRt aa r1 (qNo (m 100) s)) 87 8 = (m 94 58) from by first | (rw [(show aRt aa r1 (qNo (m 100) s) = aNc (ma_u aa 72 r1.toNatClampNeg (qNo (m 100) s)) (qNo (m 100) (m 112 r1.toNatClampNeg)) (qNo (m 100) s) from by unfold aRt; rw [Nm_no r_RB.1 r_US, (r_RB.2.2.1 r1.toNatClampNeg (by omega)).2])]; exact p3_m1; done) | (exfalso; omega; done) | (exfalso; contradiction; done)) (show (m3 94 45).toInt = sm (zbU (m3 99)) (m 102) 3100 from by first | (rw [p0_m3.1, p0_m3.2.2.2.2.2.2.2]; exact r_WTS; done) | (exfalso; omega; done) | (exfalso; contradiction; done))
  · skip
    have g13 := i_nlt h7
    have li14 : (4 : Int32).toInt = 4 := rfl
    refine zd (fun (h15 : (m 94 10) = (4 : Int32)) => ?_) (fun (h15 : ¬ (m 94 10) = (4 : Int32)) => ?_)
    · skip
      have g16 := i_eq h15
      exfalso; omega
    · skip
      have g17 := i_ne h15
      have hg18 : (0 ≤ r1 ∧ r1.toNatClampNeg < 16) := i_ix (by omega) (by omega)
      refine ⟨hg18, ?_⟩
      first | have f19 : -1 ≤ (m 112 r1.toNatClampNeg).toInt ∧ (m 112 r1.toNatClampNeg).toInt ≤ 3099 := ra_112 (m := m) hV (k := r1.toNatClampNeg) (i_ix (n := 16) (by omega) (by omega)).2 | have b20 := i_bd (m 112 r1.toNatClampNeg)
      have hV21 : zV (ma_u m 112 r1.toNatClampNeg s) := ua_112 hV (by omega) (by omega)
      refine sp_240r0 (aa := (ma_u aa 72 r1.toNatClampNeg (qNo (m 100) s))) ((m 112 r1.toNatClampNeg)) (s) hV21 (show (m 94 10).toInt = 0 ∧ (m 94 58).toInt = 0 from by omega) (by omega) (by omega) (by omega) (by omega) r_GG (show qRB (m 99) (m 100) (m 98) (m 101) (m 102) (m 103) (m 107) (m 108) (m 109) (m 111) ((ma_u m 112 r1.toNatClampNeg s) 112) (m 113) (m 114) (m 94 55) (m 94 46) (m 94 11) (m 94 12) (m 94 62) (m 94 17) (m 94 9) (ma_u aa 72 r1.toNatClampNeg (qNo (m 100) s)) from by first | (exact RB_rt r_RB r_US) | (exfalso; omega; done) | (exfalso; contradiction; done)) (show qI (ma_u aa 72 r1.toNatClampNeg (qNo (m 100) s)) from by first | (exact I_u r_QI (Or.inl rfl)) | (exfalso; omega; done) | (exfalso; contradiction; done)) (show (ma_u aa 72 r1.toNatClampNeg (qNo (m 100) s)) 87 8 = (m 94 58) from by first | (exact (xu_o (by decide)).trans r_MK) | (rw [un (by decide)]; exact r_MK; done) | (exfalso; omega; done) | (exfalso; contradiction; done)) (show qU (m 99) (m 112 r1.toNatClampNeg) from by first | (exact (r_RB.2.2.1 r1.toNatClampNeg (by omega)).1) | (exfalso; omega; done) | (exfalso; contradiction; done)) (show qU (m 99) s from by first | (exact r_US) | (exfalso; omega; done) | (exfalso; contradiction; done)) (show qGQ (m 94 58) (m 106) (m 115) (m 94 57) (m 94 56) (m 99) (m 100) (ma_u aa 72 r1.toNatClampNeg (qNo (m 100) s)) from by first | (exact fun z => MQ_u (r_MG z).1 (by decide)) | (exfalso; omega; done) | (exfalso; contradiction; done)) (fun m5 hV_m5 p0_m5 p1_m5 p2_m5 p3_m5 p4_m5 => zmv_n ?_)
      have p0_m5 : zGG (m 94 58) (m5 94 56) (m 94 57) (m5 106) := p0_m5
      have p1_m5 : qRB (m 99) (m 100) (m 98) (m 101) (m 102) (m 103) (m 107) (m 108) (m 109) (m 111) ((ma_u m 112 r1.toNatClampNeg s) 112) (m 113) (m 114) (m 94 55) (m 94 46) (m 94 11) (m 94 12) (m 94 62) (m 94 17) (m 94 9) (aNc (ma_u aa 72 r1.toNatClampNeg (qNo (m 100) s)) (qNo (m 100) (m 112 r1.toNatClampNeg)) (qNo (m 100) s)) := p1_m5
      have p2_m5 : qI (aNc (ma_u aa 72 r1.toNatClampNeg (qNo (m 100) s)) (qNo (m 100) (m 112 r1.toNatClampNeg)) (qNo (m 100) s)) := p2_m5
      have p3_m5 : (aNc (ma_u aa 72 r1.toNatClampNeg (qNo (m 100) s)) (qNo (m 100) (m 112 r1.toNatClampNeg)) (qNo (m 100) s)) 87 8 = (m 94 58) := p3_m5
      have p4_m5 : qGQ (m 94 58) (m5 106) (m5 115) (m 94 57) (m5 94 56) (m 99) (m 100) (aNc (ma_u aa 72 r1.toNatClampNeg (qNo (m 100) s)) (qNo (m 100) (m 112 r1.toNatClampNeg)) (qNo (m 100) s)) := p4_m5
      refine sp_241r0 ((m 112 r1.toNatClampNeg)) hV_m5 (show (m 94 10).toInt = 0 ∧ (m 94 58).toInt = 0 from by omega) (fun m7 hV_m7 p0_m7 => zmv_n ?_)
      have p0_m7 : (m7 99) = (m 99) ∧ (m7 105) = (m 105) ∧ (m7 109) = (m 109) ∧ (m7 111) = (m 111) ∧ (m7 113) = (m 113) ∧ (m7 114) = (m 114) ∧ (m7 94 55) = (m 94 55) ∧ (m7 94 45) = (m 94 45) := p0_m7
      try have rgb := rs_94_64 hV
      try have lel := LE_lo p0_m7
      try have lex3 := LE_ex p0_m7 (lexi (by omega))
      try have lexi := LE_some p0_m7
      exact K _ (zF_zov (zF_zov (zF_u zF_rfl rfl) ws_240_238) ws_241_238) hV_m7 (show zGW T (m7 94 55) (m7 109) from by first | (rw [p0_m7.2.2.1, p0_m7.2.2.2.2.2.2.1]; exact r_GW; done) | (exfalso; omega; done) | (exfalso; contradiction; done)) (show zGU T (m 94 46) (m7 99) from by first | (rw [p0_m7.1]; exact r_GU; done) | (exact GU_0 r_GU) | (exfalso; omega; done) | (exfalso; contradiction; done)) (show zOw (m7 99) (m 103) (m7 111) from by first | (rw [p0_m7.1, p0_m7.2.2.2.1]; exact r_OW; done) | (exact Ow_rm r_OW (by decide) (tn_cast (by omega)).symm) | (exfalso; omega; done) | (exfalso; contradiction; done)) p0_m5 (show qRB (m7 99) (m 100) (m 98) (m 101) (m 102) (m 103) (m 107) (m 108) (m7 109) (m7 111) ((ma_u m 112 r1.toNatClampNeg s) 112) (m7 113) (m7 114) (m7 94 55) (m 94 46) (m 94 11) (m 94 12) (m 94 62) (m 94 17) (m 94 9) (aRt aa r1 (qNo (m 100) s)) from by first | (rw [(show aRt aa r1 (qNo (m 100) s) = aNc (ma_u aa 72 r1.toNatClampNeg (qNo (m 100) s)) (qNo (m 100) (m 112 r1.toNatClampNeg)) (qNo (m 100) s) from by unfold aRt; rw [Nm_no r_RB.1 r_US, (r_RB.2.2.1 r1.toNatClampNeg (by omega)).2]), p0_m7.1, p0_m7.2.2.1, p0_m7.2.2.2.1, p0_m7.2.2.2.2.1, p0_m7.2.2.2.2.2.1, p0_m7.2.2.2.2.2.2.1]; exact p1_m5; done) | (exfalso; omega; done) | (exfalso; contradiction; done)) (show qI (aRt aa r1 (qNo (m 100) s)) from by first | (rw [(show aRt aa r1 (qNo (m 100) s) = aNc (ma_u aa 72 r1.toNatClampNeg (qNo (m 100) s)) (qNo (m 100) (m 112 r1.toNatClampNeg)) (qNo (m 100) s) from by unfold aRt; rw [Nm_no r_RB.1 r_US, (r_RB.2.2.1 r1.toNatClampNeg (by omega)).2])]; exact p2_m5; done) | (exfalso; omega; done) | (exfalso; contradiction; done)) (show qMG (m 94 58) (m5 106) (m5 115) (m 94 57) (m5 94 56) (m7 99) (m 100) (aRt aa r1 (qNo (m 100) s)) from by first | (rw [(show aRt aa r1 (qNo (m 100) s) = aNc (ma_u aa 72 r1.toNatClampNeg (qNo (m 100) s)) (qNo (m 100) (m 112 r1.toNatClampNeg)) (qNo (m 100) s) from by unfold aRt; rw [Nm_no r_RB.1 r_US, (r_RB.2.2.1 r1.toNatClampNeg (by omega)).2]), p0_m7.1]; exact fun z => ⟨p4_m5 z, MI_rt (r_MG z).2 (r_MG z).1.2.2.2.2 (r_MS z)⟩; done) | (exfalso; omega; done) | (exfalso; contradiction; done)) (show (aRt aa r1 (qNo (m 100) s)) 87 8 = (m 94 58) from by first | (rw [(show aRt aa r1 (qNo (m 100) s) = aNc (ma_u aa 72 r1.toNatClampNeg (qNo (m 100) s)) (qNo (m 100) (m 112 r1.toNatClampNeg)) (qNo (m 100) s) from by unfold aRt; rw [Nm_no r_RB.1 r_US, (r_RB.2.2.1 r1.toNatClampNeg (by omega)).2])]; exact p3_m5; done) | (exfalso; omega; done) | (exfalso; contradiction; done)) (show (m7 94 45).toInt = sm (zbU (m7 99)) (m 102) 3100 from by first | (rw [p0_m7.1, p0_m7.2.2.2.2.2.2.2]; exact r_WTS; done) | (exfalso; omega; done) | (exfalso; contradiction; done))

