/-! from 95.h17 -/
/-! the reference by numbers (written by wip/tools/gen18r.py) -/
theorem lp_223r_49 {X : Nat × (Nat → Int32)} {P : Option ma_V → (Nat → Nat → Int32) → Prop} {T : Nat} {aa : Nat→Nat→Int32} {m0 : Nat → Nat → Int32} (h0 : zV m0) (K : ∀ v m₉, zF wr_223 m0 m₉ → zV m₉ → (zGW T (m₉ 94 55) (m₉ 109)) → (zGU T (m₉ 94 46) (m₉ 99)) → (zOw (m₉ 99) (m₉ 103) (m₉ 111)) → (zGG (m₉ 94 58) (m₉ 94 56) (m₉ 94 57) (m₉ 106)) → ((m₉ 94 58).toInt = 0 ∨ ((m₉ 94 58).toInt = 1 ∧ (m₉ 94 57).toInt < (m₉ 94 56).toInt ∧ (m₉ 94 57).toInt = (m0 94 57).toInt)) → (qRB (m₉ 99) (m₉ 100) (m₉ 98) (m₉ 101) (m₉ 102) (m₉ 103) (m₉ 107) (m₉ 108) (m₉ 109) (m₉ 111) (m₉ 112) (m₉ 113) (m₉ 114) (m₉ 94 55) (m₉ 94 46) (m₉ 94 11) (m₉ 94 12) (m₉ 94 62) (m₉ 94 17) (m₉ 94 9) (aLk aa)) → (qI (aLk aa)) → (qMG (m₉ 94 58) (m₉ 106) (m₉ 115) (m₉ 94 57) (m₉ 94 56) (m₉ 99) (m₉ 100) (aLk aa)) → ((aLk aa) 87 8 = (m₉ 94 58)) → ((m₉ 94 45).toInt = sm (zbU (m₉ 99)) (m₉ 102) 3100) → P (some (.inl v)) m₉) : ∀ (n : Nat) (m : Nat → Nat → Int32) (l1 : Int32), (3100 - l1.toInt).toNat = n → zF wr_223 m0 m → zV m → (0 ≤ l1.toInt) → (T ≤ 512) → (zW (m 94 7) (m 98) (m 101) (m 102) (m 108)) → (zGW T (m 94 55) (m 109)) → (zGU T (m 94 46) (m 99)) → (zOw (m 99) (m 103) (m 111)) → ((m 94 10).toInt = 5) → ((m 94 58).toInt = 1) → ((m 94 57).toInt = (m0 94 57).toInt) → (∀ s : Nat, (s : Int) < l1.toInt → ((m 110) s ≠ 0 ↔ (m 99) s ≠ 0 ∧ (m 106) s ≠ 0)) → (qRB (m 99) (m 100) (m 98) (m 101) (m 102) (m 103) (m 107) (m 108) (m 109) (m 111) (m 112) (m 113) (m 114) (m 94 55) (m 94 46) (m 94 11) (m 94 12) (m 94 62) (m 94 17) (m 94 9) (aNw aa)) → (qI (aNw aa)) → (qMQ (m 106) (m 115) (m 94 57) (m 94 56) (m 99) (m 100) (aNw aa)) → (qE0 (aNw aa)) → (qCl (aNw aa)) → (aLk aa = aFi (aNw aa)) → ((m 94 45).toInt = sm (zbU (m 99)) (m 102) 3100) → zm X 4 88 223 49 [(0, .inr (.inr (some 94))), (1, .inl l1)] m P := by
  intro n
  induction n using Nat.strongRecOn with
  | _ n IH =>
    intro m l1 hmu hF hV hi0 hi1 r_W r_GW r_GU r_OW hi6 hi7 hi8 r_KPl r_RB r_QI r_MQ r_E0 r_CLr r_LKf r_WTS
    refine g_223_49 l1 ?_
    have f1 : 0 ≤ (m 94 10).toInt ∧ (m 94 10).toInt ≤ 6 := rs_94_10 (m := m) hV
    have f2 : 0 ≤ (m 94 58).toInt ∧ (m 94 58).toInt ≤ 1 := rs_94_58 (m := m) hV
    have f3 : 0 ≤ (m 94 57).toInt ∧ (m 94 57).toInt ≤ 3100 := rs_94_57 (m := m) hV
    have f4 : 0 ≤ (m0 94 57).toInt ∧ (m0 94 57).toInt ≤ 3100 := rs_94_57 (m := m0) h0
    have li5 : (3100 : Int32).toInt = 3100 := rfl
    have b6 := i_bd l1
    refine zd (fun (h7 : (3100 : Int32) ≤ l1) => ?_) (fun (h7 : ¬ (3100 : Int32) ≤ l1) => ?_)
    · skip
      have g8 := i_le h7
      have li10 : (0 : Int32).toInt = 0 := rfl
      have hV9 : zV (ma_u m 94 73 (0 : Int32)) := us_94_73 hV (by omega) (by omega)
      refine sp_194r (aa := (ma_u (aNw aa) 87 8 0))  hV9 (by omega) (show (m 94 10).toInt = 5 from by omega) (show (0 : Int32).toInt = 0 from by omega) r_W r_GW (show qRB (m 99) (m 100) (m 98) (m 101) (m 102) (m 103) (m 107) (m 108) (m 109) (m 111) (m 112) (m 113) (m 114) (m 94 55) (m 94 46) (m 94 11) (m 94 12) (m 94 62) (m 94 17) (m 94 9) (ma_u (aNw aa) 87 8 0) from by first | (exact RB_87 r_RB) | (exfalso; omega; done) | (exfalso; contradiction; done)) (show qI (ma_u (aNw aa) 87 8 0) from by first | (exact I_87 r_QI) | (exfalso; omega; done) | (exfalso; contradiction; done)) (show qKB (m 110) (m 99) (m 100) (ma_u (aNw aa) 87 8 0) from by first | (exact KB_87 r_MQ r_RB.1 (fun s hs => r_KPl s (by omega))) | (exfalso; omega; done) | (exfalso; contradiction; done)) (show qE0 (ma_u (aNw aa) 87 8 0) from by first | (exact E0_87 r_E0) | (exfalso; omega; done) | (exfalso; contradiction; done)) (show qCl (ma_u (aNw aa) 87 8 0) from by first | (exact Cl_87 r_CLr) | (exfalso; omega; done) | (exfalso; contradiction; done)) (fun m1 hV_m1 p0_m1 p1_m1 p2_m1 p3_m1 p4_m1 p5_m1 p6_m1 p7_m1 => zmv_n ?_)
      have p0_m1 : (m1 94 73).toInt = 0 := p0_m1
      have p1_m1 : zGW T (m1 94 55) (m1 109) := p1_m1
      have p2_m1 : zuw (m 113) (m1 113) := p2_m1
      have p3_m1 : qRB (m 99) (m 100) (m 98) (m 101) (m 102) (m 103) (m 107) (m 108) (m1 109) (m 111) (m 112) (m1 113) (m1 114) (m1 94 55) (m 94 46) (m 94 11) (m 94 12) (m 94 62) (m 94 17) (m 94 9) (aGw (ma_u (aNw aa) 87 8 0) 0) := p3_m1
      have p4_m1 : qI (aGw (ma_u (aNw aa) 87 8 0) 0) := p4_m1
      have p5_m1 : qKB (m1 110) (m 99) (m 100) (aGw (ma_u (aNw aa) 87 8 0) 0) := p5_m1
      have p6_m1 : qE0 (aGw (ma_u (aNw aa) 87 8 0) 0) := p6_m1
      have p7_m1 : qCl (aGw (ma_u (aNw aa) 87 8 0) 0) := p7_m1
      have f11 : 0 ≤ (m1 94 73).toInt ∧ (m1 94 73).toInt ≤ 3100 := rs_94_73 (m := (zov wr_194 (ma_u m 94 73 (0 : Int32)) m1)) hV_m1
      refine sp_199r  hV_m1  (fun m3 hV_m3 p0_m3 p1_m3 => zmv_n ?_)
      have p0_m3 : zuw (m1 113) (m3 113) := p0_m3
      have p1_m3 : qUr (m1 113) (m3 113) (m1 110) 16 := p1_m3
      have hV12 : zV (ma_u (zov wr_199 (zov wr_194 (ma_u m 94 73 (0 : Int32)) m1) m3) 94 58 (0 : Int32)) := us_94_58 hV_m3 (by omega) (by omega)
      refine sp_200r  hV12 (show (m 94 10).toInt = 5 from by omega) r_W r_GU r_OW r_WTS (fun v6 m5 hV_m5 p0_m5 p1_m5 p2_m5 p3_m5 p4_m5 => zmi_n ?_)
      have p0_m5 : zrm (m 99) (m5 99) (m1 110) 3100 := p0_m5
      have p1_m5 : zowr (m 111) (m5 111) (m 99) (m1 110) (m 103) := p1_m5
      have p2_m5 : zGU T (m 94 46) (m5 99) := p2_m5
      have p3_m5 : zOw (m5 99) (m 103) (m5 111) := p3_m5
      have p4_m5 : (m5 94 45).toInt = sm (zbU (m5 99)) (m 102) 3100 := p4_m5
      have b13 := i_bd v6
      have f14 : 0 ≤ (m 94 56).toInt ∧ (m 94 56).toInt ≤ 3100 := rs_94_56 (m := m) hV
      exact K (v6) _ (zF_zov (zF_u (zF_zov (zF_zov (zF_u hF rfl) ws_194_223) ws_199_223) rfl) ws_200_223) hV_m5 p1_m1 p2_m5 p3_m5 (show zGG (0 : Int32) (m 94 56) (m 94 57) (m 106) from by first | (exact fun z => absurd z (by decide)) | (exact fun z => absurd z (by omega)) | (exfalso; omega; done) | (exfalso; contradiction; done)) (show (0 : Int32).toInt = 0 ∨ ((0 : Int32).toInt = 1 ∧ (m 94 57).toInt < (m 94 56).toInt ∧ (m 94 57).toInt = (m0 94 57).toInt) from by omega) (show qRB (m5 99) (m 100) (m 98) (m 101) (m 102) (m 103) (m 107) (m 108) (m1 109) (m5 111) (m 112) (m3 113) (m1 114) (m1 94 55) (m 94 46) (m 94 11) (m 94 12) (m 94 62) (m 94 17) (m 94 9) (aLk aa) from by first | (rw [r_LKf]; exact RB_mv p3_m1 p4_m1 p5_m1 (CK_of p7_m1 p3_m1 p5_m1) p6_m1.1.2.2.2.2.2.1 p1_m3 p0_m5 p1_m5; done) | (exfalso; omega; done) | (exfalso; contradiction; done)) (show qI (aLk aa) from by first | (rw [r_LKf]; exact I_mv p4_m1 p6_m1.1.2.2.2.2.2.1; done) | (skip; done) | (exfalso; omega; done) | (exfalso; contradiction; done)) (show qMG (0 : Int32) (m 106) (m 115) (m 94 57) (m 94 56) (m5 99) (m 100) (aLk aa) from by first | (exact fun z => absurd (by decide) z) | (rw [Lk_2 (by have q := MQ_of r_MQ; omega) (by rw [Nw_n r_RB (by assumption)]; have q := MQ_of r_MQ; omega), Nw_n r_RB (by assumption)]; exact fun _ => ⟨r_MQ, MI_ro r_MI r_MQ.2.2.2.2 r_QI.2.2.2.1.1.2 r_QI.2.2.2.1.2.1.2⟩; done) | (exfalso; omega; done) | (exfalso; contradiction; done)) (show (aLk aa) 87 8 = (0 : Int32) from by first | (rw [r_LKf]; exact Fi_87; done) | (exfalso; omega; done) | (exfalso; contradiction; done)) p4_m5
    · skip
      have g15 := i_nle h7
      have hg16 : (0 ≤ l1 ∧ l1.toNatClampNeg < 3100) := i_ix (by omega) (by omega)
      refine ⟨hg16, ?_⟩
      first | have f17 : 0 ≤ (m 99 l1.toNatClampNeg).toInt ∧ (m 99 l1.toNatClampNeg).toInt ≤ 1 := ra_99 (m := m) hV (k := l1.toNatClampNeg) (i_ix (n := 3100) (by omega) (by omega)).2 | have b18 := i_bd (m 99 l1.toNatClampNeg)
      have li19 : (0 : Int32).toInt = 0 := rfl
      refine zd (fun (h20 : (m 99 l1.toNatClampNeg) = (0 : Int32)) => ?_) (fun (h20 : ¬ (m 99 l1.toNatClampNeg) = (0 : Int32)) => ?_)
      · skip
        have g21 := i_eq h20
        have hg22 : (0 ≤ l1 ∧ l1.toNatClampNeg < 3100) := i_ix (by omega) (by omega)
        refine ⟨hg22, ?_⟩
        have hV23 : zV (ma_u m 110 l1.toNatClampNeg (0 : Int32)) := ua_110 hV (by omega) (by omega)
        first | have e24 : (l1 + (1 : Int32)).toInt = l1.toInt + (1) := i_addk rfl (by omega) (by omega) | have b25 := i_bd (l1 + (1 : Int32))
        exact IH (3100 - (l1 + (1 : Int32)).toInt).toNat (by omega) _ ((l1 + (1 : Int32))) rfl (zF_u hF rfl) hV23 (by omega) (by omega) r_W r_GW r_GU r_OW (show (m 94 10).toInt = 5 from by omega) (show (m 94 58).toInt = 1 from by omega) (show (m 94 57).toInt = (m0 94 57).toInt from by omega) (show ∀ s : Nat, (s : Int) < (l1 + (1 : Int32)).toInt → (((ma_u m 110 l1.toNatClampNeg (0 : Int32)) 110) s ≠ 0 ↔ (m 99) s ≠ 0 ∧ (m 106) s ≠ 0) from by first | (exact kp_s r_KPl (by omega) (by omega) ⟨fun _ => ⟨by assumption, by assumption⟩, fun _ => by decide⟩) | (exact kp_s r_KPl (by omega) (by omega) ⟨fun z => absurd rfl z, fun z => absurd (by assumption) z.1⟩) | (exact kp_s r_KPl (by omega) (by omega) ⟨fun z => absurd rfl z, fun z => absurd (by assumption) z.2⟩) | (exfalso; omega; done) | (exfalso; contradiction; done)) r_RB r_QI r_MQ r_E0 r_CLr r_LKf r_WTS
      · skip
        have g26 := i_ne h20
        have hg27 : (0 ≤ l1 ∧ l1.toNatClampNeg < 3100) := i_ix (by omega) (by omega)
        refine ⟨hg27, ?_⟩
        have b28 := i_bd (m 106 l1.toNatClampNeg)
        refine zd (fun (h29 : (m 106 l1.toNatClampNeg) = (0 : Int32)) => ?_) (fun (h29 : ¬ (m 106 l1.toNatClampNeg) = (0 : Int32)) => ?_)
        · skip
          have g30 := i_eq h29
          have hg31 : (0 ≤ l1 ∧ l1.toNatClampNeg < 3100) := i_ix (by omega) (by omega)
          refine ⟨hg31, ?_⟩
          have hV32 : zV (ma_u m 110 l1.toNatClampNeg (0 : Int32)) := ua_110 hV (by omega) (by omega)
          first | have e33 : (l1 + (1 : Int32)).toInt = l1.toInt + (1) := i_addk rfl (by omega) (by omega) | have b34 := i_bd (l1 + (1 : Int32))
          exact IH (3100 - (l1 + (1 : Int32)).toInt).toNat (by omega) _ ((l1 + (1 : Int32))) rfl (zF_u hF rfl) hV32 (by omega) (by omega) r_W r_GW r_GU r_OW (show (m 94 10).toInt = 5 from by omega) (show (m 94 58).toInt = 1 from by omega) (show (m 94 57).toInt = (m0 94 57).toInt from by omega) (show ∀ s : Nat, (s : Int) < (l1 + (1 : Int32)).toInt → (((ma_u m 110 l1.toNatClampNeg (0 : Int32)) 110) s ≠ 0 ↔ (m 99) s ≠ 0 ∧ (m 106) s ≠ 0) from by first | (exact kp_s r_KPl (by omega) (by omega) ⟨fun _ => ⟨by assumption, by assumption⟩, fun _ => by decide⟩) | (exact kp_s r_KPl (by omega) (by omega) ⟨fun z => absurd rfl z, fun z => absurd (by assumption) z.1⟩) | (exact kp_s r_KPl (by omega) (by omega) ⟨fun z => absurd rfl z, fun z => absurd (by assumption) z.2⟩) | (exfalso; omega; done) | (exfalso; contradiction; done)) r_RB r_QI r_MQ r_E0 r_CLr r_LKf r_WTS
        · skip
          have g35 := i_ne h29
          have hg36 : (0 ≤ l1 ∧ l1.toNatClampNeg < 3100) := i_ix (by omega) (by omega)
          refine ⟨hg36, ?_⟩
          have li38 : (1 : Int32).toInt = 1 := rfl
          have hV37 : zV (ma_u m 110 l1.toNatClampNeg (1 : Int32)) := ua_110 hV (by omega) (by omega)
          first | have e39 : (l1 + (1 : Int32)).toInt = l1.toInt + (1) := i_addk rfl (by omega) (by omega) | have b40 := i_bd (l1 + (1 : Int32))
          exact IH (3100 - (l1 + (1 : Int32)).toInt).toNat (by omega) _ ((l1 + (1 : Int32))) rfl (zF_u hF rfl) hV37 (by omega) (by omega) r_W r_GW r_GU r_OW (show (m 94 10).toInt = 5 from by omega) (show (m 94 58).toInt = 1 from by omega) (show (m 94 57).toInt = (m0 94 57).toInt from by omega) (show ∀ s : Nat, (s : Int) < (l1 + (1 : Int32)).toInt → (((ma_u m 110 l1.toNatClampNeg (1 : Int32)) 110) s ≠ 0 ↔ (m 99) s ≠ 0 ∧ (m 106) s ≠ 0) from by first | (exact kp_s r_KPl (by omega) (by omega) ⟨fun _ => ⟨by assumption, by assumption⟩, fun _ => by decide⟩) | (exact kp_s r_KPl (by omega) (by omega) ⟨fun z => absurd rfl z, fun z => absurd (by assumption) z.1⟩) | (exact kp_s r_KPl (by omega) (by omega) ⟨fun z => absurd rfl z, fun z => absurd (by assumption) z.2⟩) | (exfalso; omega; done) | (exfalso; contradiction; done)) r_RB r_QI r_MQ r_E0 r_CLr r_LKf r_WTS
theorem sp_223r {X : Nat × (Nat → Int32)} {P : Option ma_V → (Nat → Nat → Int32) → Prop} {T : Nat} {aa : Nat→Nat→Int32} {m : Nat → Nat → Int32}  (hV : zV m) (hpre0 : T ≤ 512) (r_W : zW (m 94 7) (m 98) (m 101) (m 102) (m 108)) (r_GW : zGW T (m 94 55) (m 109)) (r_GU : zGU T (m 94 46) (m 99)) (r_OW : zOw (m 99) (m 103) (m 111)) (r_G1 : zG1 (m 94 56) (m 94 57) (m 106)) (hpre6 : (m 94 10).toInt = 5) (hpre7 : (m 94 58).toInt = 1) (r_MQ : qMQ (m 106) (m 115) (m 94 57) (m 94 56) (m 99) (m 100) aa) (r_RB : qRB (m 99) (m 100) (m 98) (m 101) (m 102) (m 103) (m 107) (m 108) (m 109) (m 111) (m 112) (m 113) (m 114) (m 94 55) (m 94 46) (m 94 11) (m 94 12) (m 94 62) (m 94 17) (m 94 9) aa) (r_QI : qI aa) (r_MI : qMI aa) (r_MK : aa 87 8 = (m 94 58)) (r_WTS : (m 94 45).toInt = sm (zbU (m 99)) (m 102) 3100) (KZ : ∀ v m₉, zV (zov wr_223 m m₉) → (zGW T (m₉ 94 55) (m₉ 109)) → (zGU T (m 94 46) (m₉ 99)) → (zOw (m₉ 99) (m 103) (m₉ 111)) → (zGG (m₉ 94 58) (m₉ 94 56) (m 94 57) (m₉ 106)) → ((m₉ 94 58).toInt = 0 ∨ ((m₉ 94 58).toInt = 1 ∧ (m 94 57).toInt < (m₉ 94 56).toInt ∧ (m 94 57).toInt = (m 94 57).toInt)) → (qRB (m₉ 99) (m 100) (m 98) (m 101) (m 102) (m 103) (m 107) (m 108) (m₉ 109) (m₉ 111) (m 112) (m₉ 113) (m₉ 114) (m₉ 94 55) (m 94 46) (m 94 11) (m 94 12) (m 94 62) (m 94 17) (m 94 9) (aLk aa)) → (qI (aLk aa)) → (qMG (m₉ 94 58) (m₉ 106) (m₉ 115) (m 94 57) (m₉ 94 56) (m₉ 99) (m 100) (aLk aa)) → ((aLk aa) 87 8 = (m₉ 94 58)) → ((m₉ 94 45).toInt = sm (zbU (m₉ 99)) (m 102) 3100) → P (some (.inl v)) (zov wr_223 m m₉)) : zm X 4 88 223 0 [(0, .inr (.inr (some 94)))] m P := by
  have K : ∀ v m₉, zF wr_223 m m₉ → zV m₉ → (zGW T (m₉ 94 55) (m₉ 109)) → (zGU T (m₉ 94 46) (m₉ 99)) → (zOw (m₉ 99) (m₉ 103) (m₉ 111)) → (zGG (m₉ 94 58) (m₉ 94 56) (m₉ 94 57) (m₉ 106)) → ((m₉ 94 58).toInt = 0 ∨ ((m₉ 94 58).toInt = 1 ∧ (m₉ 94 57).toInt < (m₉ 94 56).toInt ∧ (m₉ 94 57).toInt = (m 94 57).toInt)) → (qRB (m₉ 99) (m₉ 100) (m₉ 98) (m₉ 101) (m₉ 102) (m₉ 103) (m₉ 107) (m₉ 108) (m₉ 109) (m₉ 111) (m₉ 112) (m₉ 113) (m₉ 114) (m₉ 94 55) (m₉ 94 46) (m₉ 94 11) (m₉ 94 12) (m₉ 94 62) (m₉ 94 17) (m₉ 94 9) (aLk aa)) → (qI (aLk aa)) → (qMG (m₉ 94 58) (m₉ 106) (m₉ 115) (m₉ 94 57) (m₉ 94 56) (m₉ 99) (m₉ 100) (aLk aa)) → ((aLk aa) 87 8 = (m₉ 94 58)) → ((m₉ 94 45).toInt = sm (zbU (m₉ 99)) (m₉ 102) 3100) → P (some (.inl v)) m₉ := by
    intro v m₉ hf z q0 q1 q2 q3 q4 q5 q6 q7 q8 q9
    have e := zov_eq hf
    rw [e] at z ⊢
    try rw [e] at q0
    try rw [e] at q1
    try rw [e] at q2
    try rw [e] at q3
    try rw [e] at q4
    try rw [e] at q5
    try rw [e] at q6
    try rw [e] at q7
    try rw [e] at q8
    try rw [e] at q9
    exact KZ v m₉ z q0 q1 q2 q3 q4 q5 q6 q7 q8 q9
  refine g_223_0  ?_
  have f1 : 0 ≤ (m 94 10).toInt ∧ (m 94 10).toInt ≤ 6 := rs_94_10 (m := m) hV
  have f2 : 0 ≤ (m 94 58).toInt ∧ (m 94 58).toInt ≤ 1 := rs_94_58 (m := m) hV
  have f3 : 0 ≤ (m 94 56).toInt ∧ (m 94 56).toInt ≤ 3100 := rs_94_56 (m := m) hV
  have f4 : 0 ≤ (m 94 57).toInt ∧ (m 94 57).toInt ≤ 3100 := rs_94_57 (m := m) hV
  refine zd (fun (h5 : (m 94 56) ≤ (m 94 57)) => ?_) (fun (h5 : ¬ (m 94 56) ≤ (m 94 57)) => ?_)
  · skip
    have g6 := i_le h5
    have f7 : 0 ≤ (m 94 9).toInt ∧ (m 94 9).toInt ≤ 1 := rs_94_9 (m := m) hV
    have li8 : (0 : Int32).toInt = 0 := rfl
    refine zd (fun (h9 : (m 94 9) = (0 : Int32)) => ?_) (fun (h9 : ¬ (m 94 9) = (0 : Int32)) => ?_)
    · skip
      have g10 := i_eq h9
      refine sp_220r (aa := aa)  hV r_G1 r_MQ r_RB r_QI (fun m1 hV_m1 p0_m1 p1_m1 p2_m1 p3_m1 p4_m1 => zmv_n ?_)
      have p0_m1 : zG1 (m1 94 56) (m 94 57) (m1 106) := p0_m1
      have p1_m1 : (m 94 56).toInt ≤ (m1 94 56).toInt := p1_m1
      have p2_m1 : qRB (m 99) (m 100) (m 98) (m 101) (m 102) (m 103) (m 107) (m 108) (m 109) (m 111) (m 112) (m 113) (m 114) (m 94 55) (m 94 46) (m 94 11) (m 94 12) (m 94 62) (m 94 17) (m 94 9) (aRo aa 0) := p2_m1
      have p3_m1 : qI (aRo aa 0) := p3_m1
      have p4_m1 : qMQ (m1 106) (m1 115) (m 94 57) (m1 94 56) (m 99) (m 100) (aRo aa 0) := p4_m1
      have f11 : 0 ≤ (m1 94 56).toInt ∧ (m1 94 56).toInt ≤ 3100 := rs_94_56 (m := (zov wr_220 m m1)) hV_m1
      refine zd (fun (h12 : (m1 94 56) ≤ (m 94 57)) => ?_) (fun (h12 : ¬ (m1 94 56) ≤ (m 94 57)) => ?_)
      · skip
        have g13 := i_le h12
        have hV14 : zV (ma_u (zov wr_220 m m1) 94 47 ((m 94 47) + (1 : Int32))) := uf_94_47 hV_m1
        exact lp_223r_49 hV K _ _ ((0 : Int32)) rfl (zF_u (zF_zov zF_rfl ws_220_223) rfl) hV14 (by omega) (by omega) r_W r_GW r_GU r_OW (show (m 94 10).toInt = 5 from by omega) (show (m 94 58).toInt = 1 from by omega) (show (m 94 57).toInt = (m 94 57).toInt from by omega) (show ∀ s : Nat, (s : Int) < (0 : Int32).toInt → ((m 110) s ≠ 0 ↔ (m 99) s ≠ 0 ∧ (m1 106) s ≠ 0) from by first | (intro s hs; omega; done) | (exfalso; omega; done) | (exfalso; contradiction; done)) (show qRB (m 99) (m 100) (m 98) (m 101) (m 102) (m 103) (m 107) (m 108) (m 109) (m 111) (m 112) (m 113) (m 114) (m 94 55) (m 94 46) (m 94 11) (m 94 12) (m 94 62) (m 94 17) (m 94 9) (aNw aa) from by first | (rw [Nw_y r_RB (by assumption)]; exact p2_m1; done) | (rw [Nw_n r_RB (by assumption)]; exact p2_m1; done) | (exfalso; omega; done) | (exfalso; contradiction; done)) (show qI (aNw aa) from by first | (rw [Nw_y r_RB (by assumption)]; exact p3_m1; done) | (rw [Nw_n r_RB (by assumption)]; exact p3_m1; done) | (exfalso; omega; done) | (exfalso; contradiction; done)) (show qMQ (m1 106) (m1 115) (m 94 57) (m1 94 56) (m 99) (m 100) (aNw aa) from by first | (rw [Nw_y r_RB (by assumption)]; exact p4_m1; done) | (rw [Nw_n r_RB (by assumption)]; exact p4_m1; done) | (exfalso; omega; done) | (exfalso; contradiction; done)) (show qE0 (aNw aa) from by first | (rw [Nw_y r_RB (by assumption)]; exact E0_of p4_m1 (by omega); done) | (rw [Nw_n r_RB (by assumption)]; exact E0_of p4_m1 (by omega); done) | (exfalso; omega; done) | (exfalso; contradiction; done)) (show qCl (aNw aa) from by first | (exact Cl_0 r_QI r_MI r_MQ.2.2.2.2 (by rw [Nw_y r_RB (by assumption)]; exact E0_of p4_m1 (by omega))) | (exact Cl_0 r_QI r_MI r_MQ.2.2.2.2 (by rw [Nw_n r_RB (by assumption)]; exact E0_of p4_m1 (by omega))) | (exfalso; omega; done) | (exfalso; contradiction; done)) (show aLk aa = aFi (aNw aa) from by first | (exact Lk_3 r_MQ.2.2.2.2 r_QI.2.2.2.1.1.2 r_QI.2.2.2.1.2.1.2 (by rw [Nw_y r_RB (by assumption)]; have q := MQ_of p4_m1; omega)) | (exact Lk_3 r_MQ.2.2.2.2 r_QI.2.2.2.1.1.2 r_QI.2.2.2.1.2.1.2 (by rw [Nw_n r_RB (by assumption)]; have q := MQ_of p4_m1; omega)) | (exfalso; omega; done) | (exfalso; contradiction; done)) r_WTS
      · skip
        have g15 := i_nle h12
        exact K ((0 : Int32)) _ (zF_zov zF_rfl ws_220_223) hV_m1 r_GW r_GU r_OW (show zGG (m 94 58) (m1 94 56) (m 94 57) (m1 106) from by first | (exact fun _ => p0_m1) | (exact fun z => absurd z (by decide)) | (exact fun z => absurd z (by omega)) | (exfalso; omega; done) | (exfalso; contradiction; done)) (show (m 94 58).toInt = 0 ∨ ((m 94 58).toInt = 1 ∧ (m 94 57).toInt < (m1 94 56).toInt ∧ (m 94 57).toInt = (m 94 57).toInt) from by omega) (show qRB (m 99) (m 100) (m 98) (m 101) (m 102) (m 103) (m 107) (m 108) (m 109) (m 111) (m 112) (m 113) (m 114) (m 94 55) (m 94 46) (m 94 11) (m 94 12) (m 94 62) (m 94 17) (m 94 9) (aLk aa) from by first | (rw [Lk_1 (by have q := MQ_of p4_m1; omega)]; exact p2_m1; done) | (rw [Lk_2 (by have q := MQ_of r_MQ; omega) (by rw [Nw_y r_RB (by assumption)]; have q := MQ_of p4_m1; omega), Nw_y r_RB (by assumption)]; exact p2_m1; done) | (rw [Lk_2 (by have q := MQ_of r_MQ; omega) (by rw [Nw_n r_RB (by assumption)]; have q := MQ_of p4_m1; omega), Nw_n r_RB (by assumption)]; exact p2_m1; done) | (exfalso; omega; done) | (exfalso; contradiction; done)) (show qI (aLk aa) from by first | (rw [Lk_1 (by have q := MQ_of p4_m1; omega)]; exact p3_m1; done) | (rw [Lk_2 (by have q := MQ_of r_MQ; omega) (by rw [Nw_y r_RB (by assumption)]; have q := MQ_of p4_m1; omega), Nw_y r_RB (by assumption)]; exact p3_m1; done) | (rw [Lk_2 (by have q := MQ_of r_MQ; omega) (by rw [Nw_n r_RB (by assumption)]; have q := MQ_of p4_m1; omega), Nw_n r_RB (by assumption)]; exact p3_m1; done) | (exfalso; omega; done) | (exfalso; contradiction; done)) (show qMG (m 94 58) (m1 106) (m1 115) (m 94 57) (m1 94 56) (m 99) (m 100) (aLk aa) from by first | (exact fun z => absurd (by decide) z) | (rw [Lk_1 (by have q := MQ_of p4_m1; omega)]; exact fun _ => ⟨p4_m1, r_MI⟩; done) | (rw [Lk_2 (by have q := MQ_of r_MQ; omega) (by rw [Nw_y r_RB (by assumption)]; have q := MQ_of p4_m1; omega), Nw_y r_RB (by assumption)]; exact fun _ => ⟨p4_m1, r_MI⟩; done) | (rw [Lk_2 (by have q := MQ_of r_MQ; omega) (by rw [Nw_n r_RB (by assumption)]; have q := MQ_of p4_m1; omega), Nw_n r_RB (by assumption)]; exact fun _ => ⟨p4_m1, MI_ro r_MI r_MQ.2.2.2.2 r_QI.2.2.2.1.1.2 r_QI.2.2.2.1.2.1.2⟩; done) | (exfalso; omega; done) | (exfalso; contradiction; done)) (show (aLk aa) 87 8 = (m 94 58) from by first | (rw [Lk_1 (by have q := MQ_of p4_m1; omega)]; exact r_MK; done) | (rw [Lk_2 (by have q := MQ_of r_MQ; omega) (by rw [Nw_y r_RB (by assumption)]; have q := MQ_of p4_m1; omega), Nw_87]; exact r_MK; done) | (rw [Lk_2 (by have q := MQ_of r_MQ; omega) (by rw [Nw_n r_RB (by assumption)]; have q := MQ_of p4_m1; omega), Nw_87]; exact r_MK; done) | (exfalso; omega; done) | (exfalso; contradiction; done)) r_WTS
    · skip
      have g16 := i_ne h9
      refine zd (fun (h17 : (m 94 56) ≤ (m 94 57)) => ?_) (fun (h17 : ¬ (m 94 56) ≤ (m 94 57)) => ?_)
      · skip
        have g18 := i_le h17
        have hV19 : zV (ma_u m 94 47 ((m 94 47) + (1 : Int32))) := uf_94_47 hV
        exact lp_223r_49 hV K _ _ ((0 : Int32)) rfl (zF_u zF_rfl rfl) hV19 (by omega) (by omega) r_W r_GW r_GU r_OW (show (m 94 10).toInt = 5 from by omega) (show (m 94 58).toInt = 1 from by omega) (show (m 94 57).toInt = (m 94 57).toInt from by omega) (show ∀ s : Nat, (s : Int) < (0 : Int32).toInt → ((m 110) s ≠ 0 ↔ (m 99) s ≠ 0 ∧ (m 106) s ≠ 0) from by first | (intro s hs; omega; done) | (exfalso; omega; done) | (exfalso; contradiction; done)) (show qRB (m 99) (m 100) (m 98) (m 101) (m 102) (m 103) (m 107) (m 108) (m 109) (m 111) (m 112) (m 113) (m 114) (m 94 55) (m 94 46) (m 94 11) (m 94 12) (m 94 62) (m 94 17) (m 94 9) (aNw aa) from by first | (rw [Nw_y r_RB (by assumption)]; exact r_RB; done) | (rw [Nw_n r_RB (by assumption)]; exact r_RB; done) | (exfalso; omega; done) | (exfalso; contradiction; done)) (show qI (aNw aa) from by first | (rw [Nw_y r_RB (by assumption)]; exact r_QI; done) | (rw [Nw_n r_RB (by assumption)]; exact r_QI; done) | (exfalso; omega; done) | (exfalso; contradiction; done)) (show qMQ (m 106) (m 115) (m 94 57) (m 94 56) (m 99) (m 100) (aNw aa) from by first | (rw [Nw_y r_RB (by assumption)]; exact r_MQ; done) | (rw [Nw_n r_RB (by assumption)]; exact r_MQ; done) | (exfalso; omega; done) | (exfalso; contradiction; done)) (show qE0 (aNw aa) from by first | (rw [Nw_y r_RB (by assumption)]; exact E0_of r_MQ (by omega); done) | (rw [Nw_n r_RB (by assumption)]; exact E0_of r_MQ (by omega); done) | (exfalso; omega; done) | (exfalso; contradiction; done)) (show qCl (aNw aa) from by first | (exact Cl_0 r_QI r_MI r_MQ.2.2.2.2 (by rw [Nw_y r_RB (by assumption)]; exact E0_of r_MQ (by omega))) | (exact Cl_0 r_QI r_MI r_MQ.2.2.2.2 (by rw [Nw_n r_RB (by assumption)]; exact E0_of r_MQ (by omega))) | (exfalso; omega; done) | (exfalso; contradiction; done)) (show aLk aa = aFi (aNw aa) from by first | (exact Lk_3 r_MQ.2.2.2.2 r_QI.2.2.2.1.1.2 r_QI.2.2.2.1.2.1.2 (by rw [Nw_y r_RB (by assumption)]; have q := MQ_of r_MQ; omega)) | (exact Lk_3 r_MQ.2.2.2.2 r_QI.2.2.2.1.1.2 r_QI.2.2.2.1.2.1.2 (by rw [Nw_n r_RB (by assumption)]; have q := MQ_of r_MQ; omega)) | (exfalso; omega; done) | (exfalso; contradiction; done)) r_WTS
      · skip
        have g20 := i_nle h17
        exact K ((0 : Int32)) _ zF_rfl hV r_GW r_GU r_OW (show zGG (m 94 58) (m 94 56) (m 94 57) (m 106) from by first | (exact fun _ => r_G1) | (exact fun z => absurd z (by decide)) | (exact fun z => absurd z (by omega)) | (exfalso; omega; done) | (exfalso; contradiction; done)) (show (m 94 58).toInt = 0 ∨ ((m 94 58).toInt = 1 ∧ (m 94 57).toInt < (m 94 56).toInt ∧ (m 94 57).toInt = (m 94 57).toInt) from by omega) (show qRB (m 99) (m 100) (m 98) (m 101) (m 102) (m 103) (m 107) (m 108) (m 109) (m 111) (m 112) (m 113) (m 114) (m 94 55) (m 94 46) (m 94 11) (m 94 12) (m 94 62) (m 94 17) (m 94 9) (aLk aa) from by first | (rw [Lk_1 (by have q := MQ_of r_MQ; omega)]; exact r_RB; done) | (rw [Lk_2 (by have q := MQ_of r_MQ; omega) (by rw [Nw_y r_RB (by assumption)]; have q := MQ_of r_MQ; omega), Nw_y r_RB (by assumption)]; exact r_RB; done) | (rw [Lk_2 (by have q := MQ_of r_MQ; omega) (by rw [Nw_n r_RB (by assumption)]; have q := MQ_of r_MQ; omega), Nw_n r_RB (by assumption)]; exact r_RB; done) | (exfalso; omega; done) | (exfalso; contradiction; done)) (show qI (aLk aa) from by first | (rw [Lk_1 (by have q := MQ_of r_MQ; omega)]; exact r_QI; done) | (rw [Lk_2 (by have q := MQ_of r_MQ; omega) (by rw [Nw_y r_RB (by assumption)]; have q := MQ_of r_MQ; omega), Nw_y r_RB (by assumption)]; exact r_QI; done) | (rw [Lk_2 (by have q := MQ_of r_MQ; omega) (by rw [Nw_n r_RB (by assumption)]; have q := MQ_of r_MQ; omega), Nw_n r_RB (by assumption)]; exact r_QI; done) | (exfalso; omega; done) | (exfalso; contradiction; done)) (show qMG (m 94 58) (m 106) (m 115) (m 94 57) (m 94 56) (m 99) (m 100) (aLk aa) from by first | (exact fun z => absurd (by decide) z) | (rw [Lk_1 (by have q := MQ_of r_MQ; omega)]; exact fun _ => ⟨r_MQ, r_MI⟩; done) | (rw [Lk_2 (by have q := MQ_of r_MQ; omega) (by rw [Nw_y r_RB (by assumption)]; have q := MQ_of r_MQ; omega), Nw_y r_RB (by assumption)]; exact fun _ => ⟨r_MQ, r_MI⟩; done) | (rw [Lk_2 (by have q := MQ_of r_MQ; omega) (by rw [Nw_n r_RB (by assumption)]; have q := MQ_of r_MQ; omega), Nw_n r_RB (by assumption)]; exact fun _ => ⟨r_MQ, MI_ro r_MI r_MQ.2.2.2.2 r_QI.2.2.2.1.1.2 r_QI.2.2.2.1.2.1.2⟩; done) | (exfalso; omega; done) | (exfalso; contradiction; done)) (show (aLk aa) 87 8 = (m 94 58) from by first | (rw [Lk_1 (by have q := MQ_of r_MQ; omega)]; exact r_MK; done) | (rw [Lk_2 (by have q := MQ_of r_MQ; omega) (by rw [Nw_y r_RB (by assumption)]; have q := MQ_of r_MQ; omega), Nw_87]; exact r_MK; done) | (rw [Lk_2 (by have q := MQ_of r_MQ; omega) (by rw [Nw_n r_RB (by assumption)]; have q := MQ_of r_MQ; omega), Nw_87]; exact r_MK; done) | (exfalso; omega; done) | (exfalso; contradiction; done)) r_WTS
  · skip
    have g21 := i_nle h5
    have li22 : (0 : Int32).toInt = 0 := rfl
    exact K ((0 : Int32)) _ zF_rfl hV r_GW r_GU r_OW (show zGG (m 94 58) (m 94 56) (m 94 57) (m 106) from by first | (exact fun _ => r_G1) | (exact fun z => absurd z (by decide)) | (exact fun z => absurd z (by omega)) | (exfalso; omega; done) | (exfalso; contradiction; done)) (show (m 94 58).toInt = 0 ∨ ((m 94 58).toInt = 1 ∧ (m 94 57).toInt < (m 94 56).toInt ∧ (m 94 57).toInt = (m 94 57).toInt) from by omega) (show qRB (m 99) (m 100) (m 98) (m 101) (m 102) (m 103) (m 107) (m 108) (m 109) (m 111) (m 112) (m 113) (m 114) (m 94 55) (m 94 46) (m 94 11) (m 94 12) (m 94 62) (m 94 17) (m 94 9) (aLk aa) from by first | (rw [Lk_1 (by have q := MQ_of r_MQ; omega)]; exact r_RB; done) | (rw [Lk_2 (by have q := MQ_of r_MQ; omega) (by rw [Nw_y r_RB (by assumption)]; have q := MQ_of r_MQ; omega), Nw_y r_RB (by assumption)]; exact r_RB; done) | (rw [Lk_2 (by have q := MQ_of r_MQ; omega) (by rw [Nw_n r_RB (by assumption)]; have q := MQ_of r_MQ; omega), Nw_n r_RB (by assumption)]; exact r_RB; done) | (exfalso; omega; done) | (exfalso; contradiction; done)) (show qI (aLk aa) from by first | (rw [Lk_1 (by have q := MQ_of r_MQ; omega)]; exact r_QI; done) | (rw [Lk_2 (by have q := MQ_of r_MQ; omega) (by rw [Nw_y r_RB (by assumption)]; have q := MQ_of r_MQ; omega), Nw_y r_RB (by assumption)]; exact r_QI; done) | (rw [Lk_2 (by have q := MQ_of r_MQ; omega) (by rw [Nw_n r_RB (by assumption)]; have q := MQ_of r_MQ; omega), Nw_n r_RB (by assumption)]; exact r_QI; done) | (exfalso; omega; done) | (exfalso; contradiction; done)) (show qMG (m 94 58) (m 106) (m 115) (m 94 57) (m 94 56) (m 99) (m 100) (aLk aa) from by first | (exact fun z => absurd (by decide) z) | (rw [Lk_1 (by have q := MQ_of r_MQ; omega)]; exact fun _ => ⟨r_MQ, r_MI⟩; done) | (rw [Lk_2 (by have q := MQ_of r_MQ; omega) (by rw [Nw_y r_RB (by assumption)]; have q := MQ_of r_MQ; omega), Nw_y r_RB (by assumption)]; exact fun _ => ⟨r_MQ, r_MI⟩; done) | (rw [Lk_2 (by have q := MQ_of r_MQ; omega) (by rw [Nw_n r_RB (by assumption)]; have q := MQ_of r_MQ; omega), Nw_n r_RB (by assumption)]; exact fun _ => ⟨r_MQ, MI_ro r_MI r_MQ.2.2.2.2 r_QI.2.2.2.1.1.2 r_QI.2.2.2.1.2.1.2⟩; done) | (exfalso; omega; done) | (exfalso; contradiction; done)) (show (aLk aa) 87 8 = (m 94 58) from by first | (rw [Lk_1 (by have q := MQ_of r_MQ; omega)]; exact r_MK; done) | (rw [Lk_2 (by have q := MQ_of r_MQ; omega) (by rw [Nw_y r_RB (by assumption)]; have q := MQ_of r_MQ; omega), Nw_87]; exact r_MK; done) | (rw [Lk_2 (by have q := MQ_of r_MQ; omega) (by rw [Nw_n r_RB (by assumption)]; have q := MQ_of r_MQ; omega), Nw_87]; exact r_MK; done) | (exfalso; omega; done) | (exfalso; contradiction; done)) r_WTS
theorem lp_230r_2 {X : Nat × (Nat → Int32)} {P : Option ma_V → (Nat → Nat → Int32) → Prop} {T : Nat} {aa : Nat→Nat→Int32} {m0 : Nat → Nat → Int32} (h0 : zV m0) (K : ∀ v m₉, zF wr_230 m0 m₉ → zV m₉ → (zGW T (m₉ 94 55) (m₉ 109)) → (zGU T (m₉ 94 46) (m₉ 99)) → (zOw (m₉ 99) (m₉ 103) (m₉ 111)) → (zGG (m₉ 94 58) (m₉ 94 56) (m₉ 94 57) (m₉ 106)) → ((m₉ 94 58).toInt = 0) → (qRB (m₉ 99) (m₉ 100) (m₉ 98) (m₉ 101) (m₉ 102) (m₉ 103) (m₉ 107) (m₉ 108) (m₉ 109) (m₉ 111) (m₉ 112) (m₉ 113) (m₉ 114) (m₉ 94 55) (m₉ 94 46) (m₉ 94 11) (m₉ 94 12) (m₉ 94 62) (m₉ 94 17) (m₉ 94 9) (aCl aa)) → (qI (aCl aa)) → ((m₉ 94 45).toInt = sm (zbU (m₉ 99)) (m₉ 102) 3100) → P (some (.inl v)) m₉) : ∀ (n : Nat) (m : Nat → Nat → Int32) (l1 : Int32), ((zfm (m 94 58) (m 94 57) (m 94 56) : Int)).toNat = n → zF wr_230 m0 m → zV m → (T ≤ 512) → (zW (m 94 7) (m 98) (m 101) (m 102) (m 108)) → (zGW T (m 94 55) (m 109)) → (zGU T (m 94 46) (m 99)) → (zOw (m 99) (m 103) (m 111)) → (zGG (m 94 58) (m 94 56) (m 94 57) (m 106)) → ((m 94 10).toInt = 5) → (qFN (m 99) (m 100) (m 98) (m 101) (m 102) (m 103) (m 107) (m 108) (m 109) (m 111) (m 112) (m 113) (m 114) (m 94 55) (m 94 46) (m 94 11) (m 94 12) (m 94 62) (m 94 17) (m 94 9) (m 106) (m 115) (m 94 57) (m 94 56) (m 94 58) (aCl aa)) → ((m 94 45).toInt = sm (zbU (m 99)) (m 102) 3100) → zm X 5 109 230 2 [(0, .inr (.inr (some 94))), (1, .inl l1)] m P := by
  intro n
  induction n using Nat.strongRecOn with
  | _ n IH =>
    intro m l1 hmu hF hV hi0 r_W r_GW r_GU r_OW r_GG hi6 r_FN r_WTS
    refine g_230_2 l1 ?_
    have f1 : 0 ≤ (m 94 10).toInt ∧ (m 94 10).toInt ≤ 6 := rs_94_10 (m := m) hV
    have f2 : 0 ≤ (m 94 58).toInt ∧ (m 94 58).toInt ≤ 1 := rs_94_58 (m := m) hV
    have li3 : (0 : Int32).toInt = 0 := rfl
    refine zd (fun (h4 : (m 94 58) = (0 : Int32)) => ?_) (fun (h4 : ¬ (m 94 58) = (0 : Int32)) => ?_)
    · skip
      have g5 := i_eq h4
      try have g0 := (r_GG (by omega)).1
      have b6 := i_bd l1
      exact K (l1) _ hF hV r_GW r_GU r_OW r_GG (show (m 94 58).toInt = 0 from by omega) (show qRB (m 99) (m 100) (m 98) (m 101) (m 102) (m 103) (m 107) (m 108) (m 109) (m 111) (m 112) (m 113) (m 114) (m 94 55) (m 94 46) (m 94 11) (m 94 12) (m 94 62) (m 94 17) (m 94 9) (aCl aa) from by first | (exact (FN_n r_FN (by assumption)).1) | (exfalso; omega; done) | (exfalso; contradiction; done)) (show qI (aCl aa) from by first | (exact (FN_n r_FN (by assumption)).2) | (exfalso; omega; done) | (exfalso; contradiction; done)) r_WTS
    · skip
      have g7 := i_ne h4
      have li8 : (3100 : Int32).toInt = 3100 := rfl
      try obtain ⟨b, gRB, gQI, gMQ, gMI, gMK, gT⟩ := FN_y r_FN (by assumption)
      refine sp_222r (aa := b) ((3100 : Int32)) hV (by omega) r_W (show zG1 (m 94 56) (m 94 57) (m 106) from by first | (exact r_GG (by omega)) | (exact G1_0 (by omega) (by omega)) | (exact r_GG (by omega)) | (exfalso; omega; done) | (exfalso; contradiction; done)) (show qMQ (m 106) (m 115) (m 94 57) (m 94 56) (m 99) (m 100) b from by first | (exact gMQ) | (exfalso; omega; done) | (exfalso; contradiction; done)) (show qRB (m 99) (m 100) (m 98) (m 101) (m 102) (m 103) (m 107) (m 108) (m 109) (m 111) (m 112) (m 113) (m 114) (m 94 55) (m 94 46) (m 94 11) (m 94 12) (m 94 62) (m 94 17) (m 94 9) b from by first | (exact gRB) | (exfalso; omega; done) | (exfalso; contradiction; done)) (show qI b from by first | (exact gQI) | (exfalso; omega; done) | (exfalso; contradiction; done)) (fun v2 m1 hV_m1 p0_m1 p1_m1 p2_m1 p3_m1 p4_m1 p5_m1 p6_m1 => zmi_n ?_)
      have p0_m1 : zG1 (m1 94 56) (m1 94 57) (m1 106) := p0_m1
      have p1_m1 : (m 94 56).toInt ≤ (m1 94 56).toInt := p1_m1
      have p2_m1 : (m 94 57).toInt ≤ (m1 94 57).toInt ∧ ((m1 94 56).toInt ≤ (m1 94 57).toInt ∨ (m 94 57).toInt + (3100 : Int32).toInt ≤ (m1 94 57).toInt) := p2_m1
      have p3_m1 : qRB (m 99) (m 100) (m 98) (m 101) (m 102) (m 103) (m 107) (m 108) (m 109) (m 111) (m 112) (m 113) (m 114) (m 94 55) (m 94 46) (m 94 11) (m 94 12) (m 94 62) (m 94 17) (m 94 9) (aSp (3100 : Int32).toInt.toNat b) := p3_m1
      have p4_m1 : qI (aSp (3100 : Int32).toInt.toNat b) := p4_m1
      have p5_m1 : qMQ (m1 106) (m1 115) (m1 94 57) (m1 94 56) (m 99) (m 100) (aSp (3100 : Int32).toInt.toNat b) := p5_m1
      have p6_m1 : qEq v2.toInt (aSn (3100 : Int32).toInt.toNat b : Int) := p6_m1
      have f9 : 0 ≤ (m 94 56).toInt ∧ (m 94 56).toInt ≤ 3100 := rs_94_56 (m := m) hV
      have f10 : 0 ≤ (m1 94 56).toInt ∧ (m1 94 56).toInt ≤ 3100 := rs_94_56 (m := (zov wr_222 m m1)) hV_m1
      have f11 : 0 ≤ (m 94 57).toInt ∧ (m 94 57).toInt ≤ 3100 := rs_94_57 (m := m) hV
      have f12 : 0 ≤ (m1 94 57).toInt ∧ (m1 94 57).toInt ≤ 3100 := rs_94_57 (m := (zov wr_222 m m1)) hV_m1
      refine sp_223r (aa := (aSp (3100 : Int32).toInt.toNat b))  hV_m1 (by omega) r_W r_GW r_GU r_OW p0_m1 (show (m 94 10).toInt = 5 from by omega) (show (m 94 58).toInt = 1 from by omega) p5_m1 p3_m1 p4_m1 (show qMI (aSp (3100 : Int32).toInt.toNat b) from by first | (exact gMI) | (exact MI_sp _ _ gMI gMQ.2.2.2.2) | (exfalso; omega; done) | (exfalso; contradiction; done)) (show (aSp (3100 : Int32).toInt.toNat b) 87 8 = (m 94 58) from by first | (exact gMK) | (exact Sp_87.trans gMK) | (exfalso; omega; done) | (exfalso; contradiction; done)) r_WTS (fun v4 m3 hV_m3 p0_m3 p1_m3 p2_m3 p3_m3 p4_m3 p5_m3 p6_m3 p7_m3 p8_m3 p9_m3 => zmi_n ?_)
      have p0_m3 : zGW T (m3 94 55) (m3 109) := p0_m3
      have p1_m3 : zGU T (m 94 46) (m3 99) := p1_m3
      have p2_m3 : zOw (m3 99) (m 103) (m3 111) := p2_m3
      have p3_m3 : zGG (m3 94 58) (m3 94 56) (m1 94 57) (m3 106) := p3_m3
      have p4_m3 : (m3 94 58).toInt = 0 ∨ ((m3 94 58).toInt = 1 ∧ (m1 94 57).toInt < (m3 94 56).toInt ∧ (m1 94 57).toInt = (m1 94 57).toInt) := p4_m3
      have p5_m3 : qRB (m3 99) (m 100) (m 98) (m 101) (m 102) (m 103) (m 107) (m 108) (m3 109) (m3 111) (m 112) (m3 113) (m3 114) (m3 94 55) (m 94 46) (m 94 11) (m 94 12) (m 94 62) (m 94 17) (m 94 9) (aLk (aSp (3100 : Int32).toInt.toNat b)) := p5_m3
      have p6_m3 : qI (aLk (aSp (3100 : Int32).toInt.toNat b)) := p6_m3
      have p7_m3 : qMG (m3 94 58) (m3 106) (m3 115) (m1 94 57) (m3 94 56) (m3 99) (m 100) (aLk (aSp (3100 : Int32).toInt.toNat b)) := p7_m3
      have p8_m3 : (aLk (aSp (3100 : Int32).toInt.toNat b)) 87 8 = (m3 94 58) := p8_m3
      have p9_m3 : (m3 94 45).toInt = sm (zbU (m3 99)) (m 102) 3100 := p9_m3
      have f13 : 0 ≤ (m3 94 58).toInt ∧ (m3 94 58).toInt ≤ 1 := rs_94_58 (m := (zov wr_223 (zov wr_222 m m1) m3)) hV_m3
      have f14 : 0 ≤ (m3 94 56).toInt ∧ (m3 94 56).toInt ≤ 3100 := rs_94_56 (m := (zov wr_223 (zov wr_222 m m1) m3)) hV_m3
      try have g1 := p0_m1.1
      try have g0 := (r_GG (by omega)).1
      have b15 := i_bd l1
      have b16 := i_bd v4
      first | have e17 : (l1 + v4).toInt = l1.toInt + v4.toInt := i_add (by omega) (by omega) | have b18 := i_bd (l1 + v4)
      exact IH ((zfm (m3 94 58) (m1 94 57) (m3 94 56) : Int)).toNat (by have zq := zfm_lt (im := m 94 58) (ga := m 94 57) (gm := m 94 56) (im₉ := (m3 94 58)) (ga₉ := (m1 94 57)) (gm₉ := (m3 94 56)) (by omega) (by omega) (by omega) (by omega); omega) _ ((l1 + v4)) rfl (zF_zov (zF_zov hF ws_222_230) ws_223_230) hV_m3 (by omega) r_W p0_m3 p1_m3 p2_m3 p3_m3 (show (m 94 10).toInt = 5 from by omega) (show qFN (m3 99) (m 100) (m 98) (m 101) (m 102) (m 103) (m 107) (m 108) (m3 109) (m3 111) (m 112) (m3 113) (m3 114) (m3 94 55) (m 94 46) (m 94 11) (m 94 12) (m 94 62) (m 94 17) (m 94 9) (m3 106) (m3 115) (m1 94 57) (m3 94 56) (m3 94 58) (aCl aa) from by first | (exact FN_s gMQ.2.2.2.2 gQI (by rw [gMK]; exact i_nz2 (by omega)) (by decide) gT p5_m3 p6_m3 p7_m3 p8_m3 (by omega)) | (exfalso; omega; done) | (exfalso; contradiction; done)) p9_m3
theorem sp_230r {X : Nat × (Nat → Int32)} {P : Option ma_V → (Nat → Nat → Int32) → Prop} {T : Nat} {aa : Nat→Nat→Int32} {m : Nat → Nat → Int32}  (hV : zV m) (hpre0 : T ≤ 512) (r_W : zW (m 94 7) (m 98) (m 101) (m 102) (m 108)) (r_GW : zGW T (m 94 55) (m 109)) (r_GU : zGU T (m 94 46) (m 99)) (r_OW : zOw (m 99) (m 103) (m 111)) (r_G1 : zG1 (m 94 56) (m 94 57) (m 106)) (hpre6 : (m 94 10).toInt = 5) (hpre7 : (m 94 58).toInt = 1) (r_MQ : qMQ (m 106) (m 115) (m 94 57) (m 94 56) (m 99) (m 100) aa) (r_RB : qRB (m 99) (m 100) (m 98) (m 101) (m 102) (m 103) (m 107) (m 108) (m 109) (m 111) (m 112) (m 113) (m 114) (m 94 55) (m 94 46) (m 94 11) (m 94 12) (m 94 62) (m 94 17) (m 94 9) aa) (r_QI : qI aa) (r_MI : qMI aa) (r_MK : aa 87 8 = (m 94 58)) (r_WTS : (m 94 45).toInt = sm (zbU (m 99)) (m 102) 3100) (KZ : ∀ v m₉, zV (zov wr_230 m m₉) → (zGW T (m₉ 94 55) (m₉ 109)) → (zGU T (m 94 46) (m₉ 99)) → (zOw (m₉ 99) (m 103) (m₉ 111)) → (zGG (m₉ 94 58) (m₉ 94 56) (m₉ 94 57) (m₉ 106)) → ((m₉ 94 58).toInt = 0) → (qRB (m₉ 99) (m 100) (m 98) (m 101) (m 102) (m 103) (m 107) (m 108) (m₉ 109) (m₉ 111) (m 112) (m₉ 113) (m₉ 114) (m₉ 94 55) (m 94 46) (m 94 11) (m 94 12) (m 94 62) (m 94 17) (m 94 9) (aCl aa)) → (qI (aCl aa)) → ((m₉ 94 45).toInt = sm (zbU (m₉ 99)) (m 102) 3100) → P (some (.inl v)) (zov wr_230 m m₉)) : zm X 5 109 230 0 [(0, .inr (.inr (some 94)))] m P := by
  have K : ∀ v m₉, zF wr_230 m m₉ → zV m₉ → (zGW T (m₉ 94 55) (m₉ 109)) → (zGU T (m₉ 94 46) (m₉ 99)) → (zOw (m₉ 99) (m₉ 103) (m₉ 111)) → (zGG (m₉ 94 58) (m₉ 94 56) (m₉ 94 57) (m₉ 106)) → ((m₉ 94 58).toInt = 0) → (qRB (m₉ 99) (m₉ 100) (m₉ 98) (m₉ 101) (m₉ 102) (m₉ 103) (m₉ 107) (m₉ 108) (m₉ 109) (m₉ 111) (m₉ 112) (m₉ 113) (m₉ 114) (m₉ 94 55) (m₉ 94 46) (m₉ 94 11) (m₉ 94 12) (m₉ 94 62) (m₉ 94 17) (m₉ 94 9) (aCl aa)) → (qI (aCl aa)) → ((m₉ 94 45).toInt = sm (zbU (m₉ 99)) (m₉ 102) 3100) → P (some (.inl v)) m₉ := by
    intro v m₉ hf z q0 q1 q2 q3 q4 q5 q6 q7
    have e := zov_eq hf
    rw [e] at z ⊢
    try rw [e] at q0
    try rw [e] at q1
    try rw [e] at q2
    try rw [e] at q3
    try rw [e] at q4
    try rw [e] at q5
    try rw [e] at q6
    try rw [e] at q7
    exact KZ v m₉ z q0 q1 q2 q3 q4 q5 q6 q7
  refine g_230_0  ?_
  have f1 : 0 ≤ (m 94 10).toInt ∧ (m 94 10).toInt ≤ 6 := rs_94_10 (m := m) hV
  have f2 : 0 ≤ (m 94 58).toInt ∧ (m 94 58).toInt ≤ 1 := rs_94_58 (m := m) hV
  try have g1 := r_G1.1
  try have g0 := (r_GG (by omega)).1
  have li3 : (0 : Int32).toInt = 0 := rfl
  have f4 : 0 ≤ (m 94 57).toInt ∧ (m 94 57).toInt ≤ 3100 := rs_94_57 (m := m) hV
  have f5 : 0 ≤ (m 94 56).toInt ∧ (m 94 56).toInt ≤ 3100 := rs_94_56 (m := m) hV
  exact lp_230r_2 hV K _ _ ((0 : Int32)) rfl zF_rfl hV (by omega) r_W r_GW r_GU r_OW (show zGG (m 94 58) (m 94 56) (m 94 57) (m 106) from by first | (exact fun _ => r_G1) | (exact fun z => absurd z (by decide)) | (exact fun z => absurd z (by omega)) | (exfalso; omega; done) | (exfalso; contradiction; done)) (show (m 94 10).toInt = 5 from by omega) (show qFN (m 99) (m 100) (m 98) (m 101) (m 102) (m 103) (m 107) (m 108) (m 109) (m 111) (m 112) (m 113) (m 114) (m 94 55) (m 94 46) (m 94 11) (m 94 12) (m 94 62) (m 94 17) (m 94 9) (m 106) (m 115) (m 94 57) (m 94 56) (m 94 58) (aCl aa) from by first | (exact Or.inl ⟨by have q := rs_94_58 hV; exact i_nz2 (by omega), aa, r_RB, r_QI, r_MQ, r_MI, r_MK, (Cl_m (by rw [r_MK]; exact i_nz2 (by omega))).symm⟩) | (exfalso; omega; done) | (exfalso; contradiction; done)) r_WTS

/-! from 95.h18 -/
/-! the reference by numbers (written by wip/tools/gen18r.py) -/
theorem sp_229r {X : Nat × (Nat → Int32)} {P : Option ma_V → (Nat → Nat → Int32) → Prop} {T : Nat} {aa : Nat→Nat→Int32} {m : Nat → Nat → Int32}  (hV : zV m) (hpre0 : T ≤ 512) (r_W : zW (m 94 7) (m 98) (m 101) (m 102) (m 108)) (r_GW : zGW T (m 94 55) (m 109)) (r_GU : zGU T (m 94 46) (m 99)) (r_OW : zOw (m 99) (m 103) (m 111)) (hpre5 : (m 94 10).toInt = 5) (r_RB : qRB (m 99) (m 100) (m 98) (m 101) (m 102) (m 103) (m 107) (m 108) (m 109) (m 111) (m 112) (m 113) (m 114) (m 94 55) (m 94 46) (m 94 11) (m 94 12) (m 94 62) (m 94 17) (m 94 9) aa) (r_QI : qI aa) (r_WTS : (m 94 45).toInt = sm (zbU (m 99)) (m 102) 3100) (r_MKz : aa 87 8 = 0) (KZ : ∀ v m₉, zV (zov wr_229 m m₉) → (zGW T (m₉ 94 55) (m₉ 109)) → (zGU T (m 94 46) (m₉ 99)) → (zOw (m₉ 99) (m 103) (m₉ 111)) → (zGG (m₉ 94 58) (m₉ 94 56) (m₉ 94 57) (m₉ 106)) → ((m₉ 94 58).toInt = 0) → (qRB (m₉ 99) (m 100) (m 98) (m 101) (m 102) (m 103) (m 107) (m 108) (m₉ 109) (m₉ 111) (m 112) (m₉ 113) (m₉ 114) (m₉ 94 55) (m 94 46) (m 94 11) (m 94 12) (m 94 62) (m 94 17) (m 94 9) (aCl aa)) → (qI (aCl aa)) → ((m₉ 94 45).toInt = sm (zbU (m₉ 99)) (m 102) 3100) → P (some (.inl v)) (zov wr_229 m m₉)) : zm X 6 131 229 0 [(0, .inr (.inr (some 94)))] m P := by
  have K : ∀ v m₉, zF wr_229 m m₉ → zV m₉ → (zGW T (m₉ 94 55) (m₉ 109)) → (zGU T (m₉ 94 46) (m₉ 99)) → (zOw (m₉ 99) (m₉ 103) (m₉ 111)) → (zGG (m₉ 94 58) (m₉ 94 56) (m₉ 94 57) (m₉ 106)) → ((m₉ 94 58).toInt = 0) → (qRB (m₉ 99) (m₉ 100) (m₉ 98) (m₉ 101) (m₉ 102) (m₉ 103) (m₉ 107) (m₉ 108) (m₉ 109) (m₉ 111) (m₉ 112) (m₉ 113) (m₉ 114) (m₉ 94 55) (m₉ 94 46) (m₉ 94 11) (m₉ 94 12) (m₉ 94 62) (m₉ 94 17) (m₉ 94 9) (aCl aa)) → (qI (aCl aa)) → ((m₉ 94 45).toInt = sm (zbU (m₉ 99)) (m₉ 102) 3100) → P (some (.inl v)) m₉ := by
    intro v m₉ hf z q0 q1 q2 q3 q4 q5 q6 q7
    have e := zov_eq hf
    rw [e] at z ⊢
    try rw [e] at q0
    try rw [e] at q1
    try rw [e] at q2
    try rw [e] at q3
    try rw [e] at q4
    try rw [e] at q5
    try rw [e] at q6
    try rw [e] at q7
    exact KZ v m₉ z q0 q1 q2 q3 q4 q5 q6 q7
  refine g_229_0  ?_
  have f1 : 0 ≤ (m 94 10).toInt ∧ (m 94 10).toInt ≤ 6 := rs_94_10 (m := m) hV
  refine sp_219r (aa := aa)  hV r_RB r_QI (fun m1 hV_m1 p0_m1 p1_m1 p2_m1 p3_m1 p4_m1 => zmv_n ?_)
  have p0_m1 : zG1 (m1 94 56) (m1 94 57) (m1 106) := p0_m1
  have p1_m1 : (m1 94 58).toInt = 1 := p1_m1
  have p2_m1 : qRB (m 99) (m 100) (m 98) (m 101) (m 102) (m 103) (m 107) (m 108) (m 109) (m 111) (m 112) (m 113) (m 114) (m 94 55) (m 94 46) (m 94 11) (m 94 12) (m 94 62) (m 94 17) (m 94 9) (aB0 aa) := p2_m1
  have p3_m1 : qI (aB0 aa) := p3_m1
  have p4_m1 : qMQ (m1 106) (m1 115) (m1 94 57) (m1 94 56) (m 99) (m 100) (aB0 aa) := p4_m1
  have f2 : 0 ≤ (m1 94 58).toInt ∧ (m1 94 58).toInt ≤ 1 := rs_94_58 (m := (zov wr_219 m m1)) hV_m1
  refine sp_230r (aa := (aB0 aa))  hV_m1 (by omega) r_W r_GW r_GU r_OW p0_m1 (show (m 94 10).toInt = 5 from by omega) (show (m1 94 58).toInt = 1 from by omega) p4_m1 p2_m1 p3_m1 (show qMI (aB0 aa) from by first | (exact MI_b0 r_QI) | (exfalso; omega; done) | (exfalso; contradiction; done)) (show (aB0 aa) 87 8 = (m1 94 58) from by first | (exact B0_87.trans (i_one (by omega))) | (exfalso; omega; done) | (exfalso; contradiction; done)) r_WTS (fun v4 m3 hV_m3 p0_m3 p1_m3 p2_m3 p3_m3 p4_m3 p5_m3 p6_m3 p7_m3 => zmi_n ?_)
  have p0_m3 : zGW T (m3 94 55) (m3 109) := p0_m3
  have p1_m3 : zGU T (m 94 46) (m3 99) := p1_m3
  have p2_m3 : zOw (m3 99) (m 103) (m3 111) := p2_m3
  have p3_m3 : zGG (m3 94 58) (m3 94 56) (m3 94 57) (m3 106) := p3_m3
  have p4_m3 : (m3 94 58).toInt = 0 := p4_m3
  have p5_m3 : qRB (m3 99) (m 100) (m 98) (m 101) (m 102) (m 103) (m 107) (m 108) (m3 109) (m3 111) (m 112) (m3 113) (m3 114) (m3 94 55) (m 94 46) (m 94 11) (m 94 12) (m 94 62) (m 94 17) (m 94 9) (aCl (aB0 aa)) := p5_m3
  have p6_m3 : qI (aCl (aB0 aa)) := p6_m3
  have p7_m3 : (m3 94 45).toInt = sm (zbU (m3 99)) (m 102) 3100 := p7_m3
  have f3 : 0 ≤ (m3 94 58).toInt ∧ (m3 94 58).toInt ≤ 1 := rs_94_58 (m := (zov wr_230 (zov wr_219 m m1) m3)) hV_m3
  have b4 := i_bd v4
  exact K (v4) _ (zF_zov (zF_zov zF_rfl ws_219_229) ws_230_229) hV_m3 p0_m3 p1_m3 p2_m3 p3_m3 (show (m3 94 58).toInt = 0 from by omega) (show qRB (m3 99) (m 100) (m 98) (m 101) (m 102) (m 103) (m 107) (m 108) (m3 109) (m3 111) (m 112) (m3 113) (m3 114) (m3 94 55) (m 94 46) (m 94 11) (m 94 12) (m 94 62) (m 94 17) (m 94 9) (aCl aa) from by first | (rw [← Cl_b r_MKz]; exact p5_m3; done) | (exact p5_m3) | (exfalso; omega; done) | (exfalso; contradiction; done)) (show qI (aCl aa) from by first | (rw [← Cl_b r_MKz]; exact p6_m3; done) | (exact p6_m3) | (exfalso; omega; done) | (exfalso; contradiction; done)) p7_m3

