/-! from 95.o09 -/
/-! the reference under COUNTS (written by wip/tools/gen20s.py) -/
set_option maxHeartbeats 8000000 in
theorem lp_255r4_61 {X : Nat × (Nat → Int32)} {P : Option ma_V → (Nat → Nat → Int32) → Prop} {T : Nat} {aa : Nat→Nat→Int32} {B : Int} {r1 : Int32} {m0 : Nat → Nat → Int32} (h0 : zV m0) (K : ∀ v m₉, zF wr_255 m0 m₉ → zV m₉ → (zW (m₉ 94 7) (m₉ 98) (m₉ 101) (m₉ 102) (m₉ 108)) → (zGW T (m₉ 94 55) (m₉ 109)) → (zGU T (m₉ 94 46) (m₉ 99)) → (zOw (m₉ 99) (m₉ 103) (m₉ 111)) → (zGG (m₉ 94 58) (m₉ 94 56) (m₉ 94 57) (m₉ 106)) → ((m₉ 94 45).toInt = sm (zbU (m₉ 99)) (m₉ 102) 3100) → (qRB (m₉ 99) (m₉ 100) (m₉ 98) (m₉ 101) (m₉ 102) (m₉ 103) (m₉ 107) (m₉ 108) (m₉ 109) (m₉ 111) (m₉ 112) (m₉ 113) (m₉ 114) (m₉ 94 55) (m₉ 94 46) (m₉ 94 11) (m₉ 94 12) (m₉ 94 62) (m₉ 94 17) (m₉ 94 9) (kGr aa r1)) → (qI (kGr aa r1)) → ((kGr aa r1) 87 8 = (m₉ 94 58)) → (cV (kGr aa r1) [] B) → (qCt (m₉ 105) (m₉ 99) (m₉ 100) (kGr aa r1) [] (-1) (-1)) → P (some (.inl v)) m₉) : ∀ (n : Nat) (m : Nat → Nat → Int32) (l1 : Int32) (l2 : Int32) (l3 : Int32), (3100 - l3.toInt).toNat = n → zF wr_255 m0 m → zV m → (0 ≤ l3.toInt) → (0 ≤ l1.toInt) → (l1.toInt ≤ 15) → (l1.toInt = r1.toInt) → (l1 = r1) → (0 ≤ l2.toInt) → (l2.toInt ≤ 3099) → (B ≤ 1000000) → (T ≤ 512) → (1 ≤ (m0 94 55).toInt) → ((m 94 55).toInt = (m0 94 55).toInt - 1) → (l3.toInt ≤ (m 94 55).toInt) → (zW (m 94 7) (m 98) (m 101) (m 102) (m 108)) → (zGW T (m 94 55) (m 109)) → (zGU T (m 94 46) (m 99)) → (zOw (m 99) (m 103) (m 111)) → (zGG (m 94 58) (m 94 56) (m 94 57) (m 106)) → ((m 94 10).toInt = 4 ∧ (m 94 58).toInt = 0) → ((m 94 8).toInt = 1) → (qRB (m 99) (m 100) (m 98) (m 101) (m 102) (m 103) (m 107) (m 108) (m 109) (m 111) (m 112) (m 113) (m0 114) (m0 94 55) (m 94 46) (m 94 11) (m 94 12) (m 94 62) (m 94 17) (m 94 9) aa) → (qI aa) → (aa 87 8 = (m 94 58)) → ((m 94 45).toInt = sm (zbU (m 99)) (m 102) 3100) → (cV aa [] B) → (qCt (m 105) (m 99) (m 100) aa [] (-1) (-1)) → (qSh (m0 114) (m 114) l3.toInt) → ((m 94 55) = (m0 94 55) - 1) → (l2 = (m0 114) 0) → zm X 5 111 255 61 [(0, .inr (.inr (some 94))), (1, .inl l1), (2, .inl l2), (3, .inl l3)] m P := by
  intro n
  induction n using Nat.strongRecOn with
  | _ n IH =>
    intro m l1 l2 l3 hmu hF hV hi0 hi1 hi2 hi3 r_R1e hi5 hi6 hi7 hi8 hi9 hi10 hi11 r_W r_GW r_GU r_OW r_GG hi17 hi18 r_RB0 r_QI r_MK r_WTS r_VV r_CT r_SHl r_WMe r_L2s
    refine g_255_61 l1 l2 l3 ?_
    have f1 : 0 ≤ (m0 94 55).toInt ∧ (m0 94 55).toInt ≤ 3100 := rs_94_55 (m := m0) h0
    have f2 : 0 ≤ (m 94 55).toInt ∧ (m 94 55).toInt ≤ 3100 := rs_94_55 (m := m) hV
    have f3 : 0 ≤ (m 94 10).toInt ∧ (m 94 10).toInt ≤ 6 := rs_94_10 (m := m) hV
    have f4 : 0 ≤ (m 94 58).toInt ∧ (m 94 58).toInt ≤ 1 := rs_94_58 (m := m) hV
    have f5 : 0 ≤ (m 94 8).toInt ∧ (m 94 8).toInt ≤ 1 := rs_94_8 (m := m) hV
    have b6 := i_bd l3
    refine zd (fun (h7 : (m 94 55) ≤ l3) => ?_) (fun (h7 : ¬ (m 94 55) ≤ l3) => ?_)
    · skip
      have g8 := i_le h7
      have b9 := i_bd l2
      have hg10 : (0 ≤ l2 ∧ l2.toNatClampNeg < 3100) := i_ix (by omega) (by omega)
      refine ⟨hg10, ?_⟩
      have b11 := i_bd l1
      refine sp_238r4 (aa := (aTw aa)) (x := (qNo (m 100) l2)) (l1) (l2) hV (by omega) (by omega) (by omega) (by omega) (by omega) (by omega) (show (m 94 10).toInt = 4 ∧ (m 94 58).toInt = 0 from by omega) r_W r_GW r_GU r_OW (show qRB (m 99) (m 100) (m 98) (m 101) (m 102) (m 103) (m 107) (m 108) (m 109) (m 111) (m 112) (m 113) (m 114) (m 94 55) (m 94 46) (m 94 11) (m 94 12) (m 94 62) (m 94 17) (m 94 9) (aTw aa) from by first | (exact RB_tw r_RB0 (by omega) r_SHl (by rw [congrArg Int32.toInt r_WMe] at *; omega) r_WMe) | (exact RB_tw r_RB0 (by omega) r_SHl (by omega) r_WMe) | (exfalso; omega; done) | (exfalso; contradiction; done)) (show qI (aTw aa) from by first | (exact I_tw r_QI (show 0 < (aa 69 5).toInt from by rw [r_RB0.2.2.2.2.1.1]; omega)) | (exfalso; omega; done) | (exfalso; contradiction; done)) (show (aTw aa) 87 8 = (m 94 58) from by first | (rw [(Tw_r (show 0 < (aa 69 5).toInt from by rw [r_RB0.2.2.2.2.1.1]; omega)).2.2.1 87 (by decide) (by decide)]; exact r_MK; done) | (exfalso; omega; done) | (exfalso; contradiction; done)) r_WTS (show cV (aTw aa) [] B from by first | (exact V_tw4 r_VV) | (exfalso; omega; done) | (exfalso; contradiction; done)) (show qCt (m 105) (m 99) (m 100) (aTw aa) [] (qNo (m 100) l2) (-1) from by first | (exact Ct_tw r_RB0 r_CT (by omega) (by rw [← r_RB0.2.2.2.2.1.1]; exact r_QI.2.2.2.1.2.1.2) r_L2s) | (exfalso; omega; done) | (exfalso; contradiction; done)) (show qU (m 99) l2 from by first | (rw [r_L2s]; exact Or.inr (r_RB0.2.2.2.2.1.2 0 (by omega)).1.2; done) | (assumption; done) | (exact ow5.1) | (exact ow3.1) | (exfalso; omega; done) | (exfalso; contradiction; done)) (show (qNo (m 100) l2).toInt < 0 ∨ (qNo (m 100) l2) = qNo (m 100) l2 from by first | (exact Or.inr rfl) | (exfalso; omega; done) | (exfalso; contradiction; done)) (fun m1 hV_m1 p0_m1 p1_m1 p2_m1 p3_m1 p4_m1 p5_m1 p6_m1 p7_m1 p8_m1 p9_m1 p10_m1 => zmv_n ?_)
      have p0_m1 : zGW T (m1 94 55) (m1 109) := p0_m1
      have p1_m1 : zGU T (m 94 46) (m1 99) := p1_m1
      have p2_m1 : zOw (m1 99) (m 103) (m1 111) := p2_m1
      have p3_m1 : (m1 94 45).toInt = sm (zbU (m1 99)) (m 102) 3100 := p3_m1
      have p4_m1 : qRB (m1 99) (m 100) (m 98) (m 101) (m 102) (m 103) (m 107) (m 108) (m1 109) (m1 111) (m1 112) (m1 113) (m1 114) (m1 94 55) (m 94 46) (m 94 11) (m 94 12) (m 94 62) (m 94 17) (m 94 9) (kRt (aTw aa) l1 (qNo (m 100) l2)) := p4_m1
      have p5_m1 : qI (kRt (aTw aa) l1 (qNo (m 100) l2)) := p5_m1
      have p6_m1 : (kRt (aTw aa) l1 (qNo (m 100) l2)) 87 8 = (m 94 58) := p6_m1
      have p7_m1 : cV (kRt (aTw aa) l1 (qNo (m 100) l2)) [] B := p7_m1
      have p8_m1 : qCt (m1 105) (m1 99) (m 100) (kRt (aTw aa) l1 (qNo (m 100) l2)) [] (qNo (m 100) l2) (-1) := p8_m1
      have p9_m1 : qXr (kRt (aTw aa) l1 (qNo (m 100) l2)) (qNo (m 100) l2) := p9_m1
      have p10_m1 : (m1 112) l1.toNatClampNeg = l2 := p10_m1
      refine sp_241r4 (aa := (kRt (aTw aa) l1 (qNo (m 100) l2))) (x := (-1 : Int32)) (l2) hV_m1 (by omega) (by omega) (by omega) (by omega) (show (m 94 10).toInt = 4 ∧ (m 94 58).toInt = 0 from by omega) r_W p0_m1 p1_m1 p2_m1 p4_m1 p5_m1 p6_m1 p3_m1 p7_m1 (show qCt (m1 105) (m1 99) (m 100) (kRt (aTw aa) l1 (qNo (m 100) l2)) [] (-1 : Int32) (qNo (m 100) l2) from by first | (exact Ct_sw p8_m1) | (exfalso; omega; done) | (exfalso; contradiction; done)) (show qU (m1 99) l2 from by first | (have q := (p4_m1.2.2.1 l1.toNatClampNeg (by have h0 := tn_cast (x := l1) (by omega); omega)).1; rw [p10_m1] at q; exact q; done) | (assumption; done) | (exact ow5.1) | (exact ow3.1) | (exfalso; omega; done) | (exfalso; contradiction; done)) (show qXr (kRt (aTw aa) l1 (qNo (m 100) l2)) (-1 : Int32) from by first | (exact Xr_m1) | (exfalso; omega; done) | (exfalso; contradiction; done)) (fun m3 hV_m3 p0_m3 p1_m3 p2_m3 p3_m3 p4_m3 p5_m3 p6_m3 p7_m3 p8_m3 p9_m3 => zmv_n ?_)
      have p0_m3 : zGW T (m3 94 55) (m3 109) := p0_m3
      have p1_m3 : zGU T (m 94 46) (m3 99) := p1_m3
      have p2_m3 : zOw (m3 99) (m 103) (m3 111) := p2_m3
      have p3_m3 : (m3 94 45).toInt = sm (zbU (m3 99)) (m 102) 3100 := p3_m3
      have p4_m3 : qRB (m3 99) (m 100) (m 98) (m 101) (m 102) (m 103) (m 107) (m 108) (m3 109) (m3 111) (m1 112) (m3 113) (m3 114) (m3 94 55) (m 94 46) (m 94 11) (m 94 12) (m 94 62) (m 94 17) (m 94 9) (cLe (kRt (aTw aa) l1 (qNo (m 100) l2)) (qNo (m 100) l2)) := p4_m3
      have p5_m3 : qI (cLe (kRt (aTw aa) l1 (qNo (m 100) l2)) (qNo (m 100) l2)) := p5_m3
      have p6_m3 : (cLe (kRt (aTw aa) l1 (qNo (m 100) l2)) (qNo (m 100) l2)) 87 8 = (m 94 58) := p6_m3
      have p7_m3 : cV (cLe (kRt (aTw aa) l1 (qNo (m 100) l2)) (qNo (m 100) l2)) [] B := p7_m3
      have p8_m3 : qCt (m3 105) (m3 99) (m 100) (cLe (kRt (aTw aa) l1 (qNo (m 100) l2)) (qNo (m 100) l2)) [] (-1 : Int32) (-1) := p8_m3
      have p9_m3 : qXr (cLe (kRt (aTw aa) l1 (qNo (m 100) l2)) (qNo (m 100) l2)) (-1 : Int32) := p9_m3
      first | have f12 : 0 ≤ (m 100 l2.toNatClampNeg).toInt ∧ (m 100 l2.toNatClampNeg).toInt ≤ 100000 := ra_100 (m := m) hV (k := l2.toNatClampNeg) (i_ix (n := 3100) (by omega) (by omega)).2 | have b13 := i_bd (m 100 l2.toNatClampNeg)
      exact K ((m 100 l2.toNatClampNeg)) _ (zF_zov (zF_zov hF ws_238_255) ws_241_255) hV_m3 r_W p0_m3 p1_m3 p2_m3 (show zGG (m 94 58) (m1 94 56) (m 94 57) (m1 106) from by first | (exact r_GG) | (exact fun z => absurd z (by omega)) | (exact fun z => absurd z (by decide)) | (exact fun z => absurd z (by omega)) | (exfalso; omega; done) | (exfalso; contradiction; done)) p3_m3 (show qRB (m3 99) (m 100) (m 98) (m 101) (m 102) (m 103) (m 107) (m 108) (m3 109) (m3 111) (m1 112) (m3 113) (m3 114) (m3 94 55) (m 94 46) (m 94 11) (m 94 12) (m 94 62) (m 94 17) (m 94 9) (kGr aa r1) from by first | (rw [kGr_y r_RB0 (by omega) (by omega) (by omega), ← r_L2s, ← r_R1e]; have q := p4_m3; rw [Le_rt2 p7_m1 p4_m1.1 (by have q := (p4_m1.2.2.1 l1.toNatClampNeg (by have h0 := tn_cast (x := l1) (by omega); omega)).1; rw [p10_m1] at q; exact q) (by omega) p9_m1] at q; exact q; done) | (exfalso; omega; done) | (exfalso; contradiction; done)) (show qI (kGr aa r1) from by first | (rw [kGr_y r_RB0 (by omega) (by omega) (by omega), ← r_L2s, ← r_R1e]; have q := p5_m3; rw [Le_rt2 p7_m1 p4_m1.1 (by have q := (p4_m1.2.2.1 l1.toNatClampNeg (by have h0 := tn_cast (x := l1) (by omega); omega)).1; rw [p10_m1] at q; exact q) (by omega) p9_m1] at q; exact q; done) | (exfalso; omega; done) | (exfalso; contradiction; done)) (show (kGr aa r1) 87 8 = (m 94 58) from by first | (rw [kGr_y r_RB0 (by omega) (by omega) (by omega), ← r_L2s, ← r_R1e]; have q := p6_m3; rw [Le_rt2 p7_m1 p4_m1.1 (by have q := (p4_m1.2.2.1 l1.toNatClampNeg (by have h0 := tn_cast (x := l1) (by omega); omega)).1; rw [p10_m1] at q; exact q) (by omega) p9_m1] at q; exact q; done) | (exfalso; omega; done) | (exfalso; contradiction; done)) (show cV (kGr aa r1) [] B from by first | (rw [kGr_y r_RB0 (by omega) (by omega) (by omega), ← r_L2s, ← r_R1e]; have q := p7_m3; rw [Le_rt2 p7_m1 p4_m1.1 (by have q := (p4_m1.2.2.1 l1.toNatClampNeg (by have h0 := tn_cast (x := l1) (by omega); omega)).1; rw [p10_m1] at q; exact q) (by omega) p9_m1] at q; exact q; done) | (exfalso; omega; done) | (exfalso; contradiction; done)) (show qCt (m3 105) (m3 99) (m 100) (kGr aa r1) [] (-1) (-1) from by first | (rw [kGr_y r_RB0 (by omega) (by omega) (by omega), ← r_L2s, ← r_R1e]; have q := p8_m3; rw [Le_rt2 p7_m1 p4_m1.1 (by have q := (p4_m1.2.2.1 l1.toNatClampNeg (by have h0 := tn_cast (x := l1) (by omega); omega)).1; rw [p10_m1] at q; exact q) (by omega) p9_m1] at q; exact q; done) | (exfalso; omega; done) | (exfalso; contradiction; done))
    · skip
      have g14 := i_nle h7
      first | have e15 : (l3 + (1 : Int32)).toInt = l3.toInt + (1) := i_addk rfl (by omega) (by omega) | have b16 := i_bd (l3 + (1 : Int32))
      have hg17 : (0 ≤ (l3 + (1 : Int32)) ∧ (l3 + (1 : Int32)).toNatClampNeg < 3100) := i_ix (by omega) (by omega)
      refine ⟨hg17, ?_⟩
      have hg18 : (0 ≤ l3 ∧ l3.toNatClampNeg < 3100) := i_ix (by omega) (by omega)
      refine ⟨hg18, ?_⟩
      first | have f20 : 0 ≤ (m 114 (l3 + (1 : Int32)).toNatClampNeg).toInt ∧ (m 114 (l3 + (1 : Int32)).toNatClampNeg).toInt ≤ 3099 := ra_114 (m := m) hV (k := (l3 + (1 : Int32)).toNatClampNeg) (i_ix (n := 3100) (by omega) (by omega)).2 | have b21 := i_bd (m 114 (l3 + (1 : Int32)).toNatClampNeg)
      have hV19 : zV (ma_u m 114 l3.toNatClampNeg (m 114 (l3 + (1 : Int32)).toNatClampNeg)) := ua_114 hV (by omega) (by omega)
      have b22 := i_bd l1
      have b23 := i_bd l2
      exact IH (3100 - (l3 + (1 : Int32)).toInt).toNat (by omega) _ (l1) (l2) ((l3 + (1 : Int32))) rfl (zF_u hF rfl) hV19 (by omega) (by omega) (by omega) (by omega) r_R1e (by omega) (by omega) (by omega) (by omega) (show 1 ≤ (m0 94 55).toInt from by omega) (show (m 94 55).toInt = (m0 94 55).toInt - 1 from by omega) (show (l3 + (1 : Int32)).toInt ≤ (m 94 55).toInt from by omega) r_W r_GW r_GU r_OW r_GG (show (m 94 10).toInt = 4 ∧ (m 94 58).toInt = 0 from by omega) (show (m 94 8).toInt = 1 from by omega) r_RB0 r_QI r_MK r_WTS r_VV r_CT (show qSh (m0 114) ((ma_u m 114 l3.toNatClampNeg (m 114 (l3 + (1 : Int32)).toNatClampNeg)) 114) (l3 + (1 : Int32)).toInt from by first | (exact Sh_s r_SHl (by omega) (by omega) (by omega)) | (exfalso; omega; done) | (exfalso; contradiction; done)) r_WMe r_L2s
set_option maxHeartbeats 8000000 in
theorem sp_255r4 {X : Nat × (Nat → Int32)} {P : Option ma_V → (Nat → Nat → Int32) → Prop} {T : Nat} {aa : Nat→Nat→Int32} {B : Int} {m : Nat → Nat → Int32} (r1 : Int32) (hV : zV m) (hpre0 : T ≤ 512) (hpre1 : B ≤ 1000000) (r_W : zW (m 94 7) (m 98) (m 101) (m 102) (m 108)) (r_GW : zGW T (m 94 55) (m 109)) (r_GU : zGU T (m 94 46) (m 99)) (r_OW : zOw (m 99) (m 103) (m 111)) (r_GG : zGG (m 94 58) (m 94 56) (m 94 57) (m 106)) (hpre7 : (m 94 10).toInt = 4 ∧ (m 94 58).toInt = 0) (hpre8 : (m 94 8).toInt = 1) (r_RB : qRB (m 99) (m 100) (m 98) (m 101) (m 102) (m 103) (m 107) (m 108) (m 109) (m 111) (m 112) (m 113) (m 114) (m 94 55) (m 94 46) (m 94 11) (m 94 12) (m 94 62) (m 94 17) (m 94 9) aa) (r_QI : qI aa) (r_MK : aa 87 8 = (m 94 58)) (r_WTS : (m 94 45).toInt = sm (zbU (m 99)) (m 102) 3100) (r_VV : cV aa [] B) (r_CT : qCt (m 105) (m 99) (m 100) aa [] (-1) (-1)) (KZ : ∀ v m₉, zV (zov wr_255 m m₉) → (zW (m 94 7) (m 98) (m 101) (m 102) (m 108)) → (zGW T (m₉ 94 55) (m₉ 109)) → (zGU T (m 94 46) (m₉ 99)) → (zOw (m₉ 99) (m 103) (m₉ 111)) → (zGG (m 94 58) (m₉ 94 56) (m 94 57) (m₉ 106)) → ((m₉ 94 45).toInt = sm (zbU (m₉ 99)) (m 102) 3100) → (qRB (m₉ 99) (m 100) (m 98) (m 101) (m 102) (m 103) (m 107) (m 108) (m₉ 109) (m₉ 111) (m₉ 112) (m₉ 113) (m₉ 114) (m₉ 94 55) (m 94 46) (m 94 11) (m 94 12) (m 94 62) (m 94 17) (m 94 9) (kGr aa r1)) → (qI (kGr aa r1)) → ((kGr aa r1) 87 8 = (m 94 58)) → (cV (kGr aa r1) [] B) → (qCt (m₉ 105) (m₉ 99) (m 100) (kGr aa r1) [] (-1) (-1)) → P (some (.inl v)) (zov wr_255 m m₉)) : zm X 5 111 255 0 [(0, .inr (.inr (some 94))), (1, .inl r1)] m P := by
  have K : ∀ v m₉, zF wr_255 m m₉ → zV m₉ → (zW (m₉ 94 7) (m₉ 98) (m₉ 101) (m₉ 102) (m₉ 108)) → (zGW T (m₉ 94 55) (m₉ 109)) → (zGU T (m₉ 94 46) (m₉ 99)) → (zOw (m₉ 99) (m₉ 103) (m₉ 111)) → (zGG (m₉ 94 58) (m₉ 94 56) (m₉ 94 57) (m₉ 106)) → ((m₉ 94 45).toInt = sm (zbU (m₉ 99)) (m₉ 102) 3100) → (qRB (m₉ 99) (m₉ 100) (m₉ 98) (m₉ 101) (m₉ 102) (m₉ 103) (m₉ 107) (m₉ 108) (m₉ 109) (m₉ 111) (m₉ 112) (m₉ 113) (m₉ 114) (m₉ 94 55) (m₉ 94 46) (m₉ 94 11) (m₉ 94 12) (m₉ 94 62) (m₉ 94 17) (m₉ 94 9) (kGr aa r1)) → (qI (kGr aa r1)) → ((kGr aa r1) 87 8 = (m₉ 94 58)) → (cV (kGr aa r1) [] B) → (qCt (m₉ 105) (m₉ 99) (m₉ 100) (kGr aa r1) [] (-1) (-1)) → P (some (.inl v)) m₉ := by
    intro v m₉ hf z q0 q1 q2 q3 q4 q5 q6 q7 q8 q9 q10
    have e := zov_eq hf
    rw [e] at z ⊢
    try rw [e] at q0
    try rw [e] at q1
    try rw [e] at q2
    try rw [e] at q3
    try rw [e] at q4
    try rw [e] at q5
    try rw [e] at q6
    try rw [e] at q7
    try rw [e] at q8
    try rw [e] at q9
    try rw [e] at q10
    exact KZ v m₉ z q0 q1 q2 q3 q4 q5 q6 q7 q8 q9 q10
  refine g_255_0 r1 ?_
  have f1 : 0 ≤ (m 94 10).toInt ∧ (m 94 10).toInt ≤ 6 := rs_94_10 (m := m) hV
  have f2 : 0 ≤ (m 94 58).toInt ∧ (m 94 58).toInt ≤ 1 := rs_94_58 (m := m) hV
  have f3 : 0 ≤ (m 94 8).toInt ∧ (m 94 8).toInt ≤ 1 := rs_94_8 (m := m) hV
  have b4 := i_bd r1
  have li5 : (0 : Int32).toInt = 0 := rfl
  refine zd (fun (h6 : r1 < (0 : Int32)) => ?_) (fun (h6 : ¬ r1 < (0 : Int32)) => ?_)
  · skip
    have g7 := i_lt h6
    have hV8 : zV (ma_u m 94 0 (1 : Int32)) := uf_94_0 hV
    exact K ((0 : Int32)) _ (zF_u zF_rfl rfl) hV8 r_W r_GW r_GU r_OW r_GG r_WTS (show qRB (m 99) (m 100) (m 98) (m 101) (m 102) (m 103) (m 107) (m 108) (m 109) (m 111) (m 112) (m 113) (m 114) (m 94 55) (m 94 46) (m 94 11) (m 94 12) (m 94 62) (m 94 17) (m 94 9) (kGr aa r1) from by first | (unfold kGr; rw [qIf_n (fun w => by have w1 := w.1; have w2 := w.2; omega)]; exact r_RB; done) | (rw [kGr_0 r_RB (i_zer (by omega))]; exact r_RB; done) | (exfalso; omega; done) | (exfalso; contradiction; done)) (show qI (kGr aa r1) from by first | (unfold kGr; rw [qIf_n (fun w => by have w1 := w.1; have w2 := w.2; omega)]; exact r_QI; done) | (rw [kGr_0 r_RB (i_zer (by omega))]; exact r_QI; done) | (exfalso; omega; done) | (exfalso; contradiction; done)) (show (kGr aa r1) 87 8 = (m 94 58) from by first | (unfold kGr; rw [qIf_n (fun w => by have w1 := w.1; have w2 := w.2; omega)]; exact r_MK; done) | (rw [kGr_0 r_RB (i_zer (by omega))]; exact r_MK; done) | (exfalso; omega; done) | (exfalso; contradiction; done)) (show cV (kGr aa r1) [] B from by first | (unfold kGr; rw [qIf_n (fun w => by have w1 := w.1; have w2 := w.2; omega)]; exact r_VV; done) | (rw [kGr_0 r_RB (i_zer (by omega))]; exact r_VV; done) | (exfalso; omega; done) | (exfalso; contradiction; done)) (show qCt (m 105) (m 99) (m 100) (kGr aa r1) [] (-1) (-1) from by first | (unfold kGr; rw [qIf_n (fun w => by have w1 := w.1; have w2 := w.2; omega)]; exact r_CT; done) | (rw [kGr_0 r_RB (i_zer (by omega))]; exact r_CT; done) | (exfalso; omega; done) | (exfalso; contradiction; done))
  · skip
    have g9 := i_nlt h6
    have li10 : (16 : Int32).toInt = 16 := rfl
    refine zd (fun (h11 : (16 : Int32) ≤ r1) => ?_) (fun (h11 : ¬ (16 : Int32) ≤ r1) => ?_)
    · skip
      have g12 := i_le h11
      have hV13 : zV (ma_u m 94 0 (1 : Int32)) := uf_94_0 hV
      exact K ((0 : Int32)) _ (zF_u zF_rfl rfl) hV13 r_W r_GW r_GU r_OW r_GG r_WTS (show qRB (m 99) (m 100) (m 98) (m 101) (m 102) (m 103) (m 107) (m 108) (m 109) (m 111) (m 112) (m 113) (m 114) (m 94 55) (m 94 46) (m 94 11) (m 94 12) (m 94 62) (m 94 17) (m 94 9) (kGr aa r1) from by first | (unfold kGr; rw [qIf_n (fun w => by have w1 := w.1; have w2 := w.2; omega)]; exact r_RB; done) | (rw [kGr_0 r_RB (i_zer (by omega))]; exact r_RB; done) | (exfalso; omega; done) | (exfalso; contradiction; done)) (show qI (kGr aa r1) from by first | (unfold kGr; rw [qIf_n (fun w => by have w1 := w.1; have w2 := w.2; omega)]; exact r_QI; done) | (rw [kGr_0 r_RB (i_zer (by omega))]; exact r_QI; done) | (exfalso; omega; done) | (exfalso; contradiction; done)) (show (kGr aa r1) 87 8 = (m 94 58) from by first | (unfold kGr; rw [qIf_n (fun w => by have w1 := w.1; have w2 := w.2; omega)]; exact r_MK; done) | (rw [kGr_0 r_RB (i_zer (by omega))]; exact r_MK; done) | (exfalso; omega; done) | (exfalso; contradiction; done)) (show cV (kGr aa r1) [] B from by first | (unfold kGr; rw [qIf_n (fun w => by have w1 := w.1; have w2 := w.2; omega)]; exact r_VV; done) | (rw [kGr_0 r_RB (i_zer (by omega))]; exact r_VV; done) | (exfalso; omega; done) | (exfalso; contradiction; done)) (show qCt (m 105) (m 99) (m 100) (kGr aa r1) [] (-1) (-1) from by first | (unfold kGr; rw [qIf_n (fun w => by have w1 := w.1; have w2 := w.2; omega)]; exact r_CT; done) | (rw [kGr_0 r_RB (i_zer (by omega))]; exact r_CT; done) | (exfalso; omega; done) | (exfalso; contradiction; done))
    · skip
      have g14 := i_nle h11
      refine zd (fun (h15 : (m 94 8) = (0 : Int32)) => ?_) (fun (h15 : ¬ (m 94 8) = (0 : Int32)) => ?_)
      · skip
        have g16 := i_eq h15
        exfalso; omega
      · skip
        have g17 := i_ne h15
        have f18 : 0 ≤ (m 94 55).toInt ∧ (m 94 55).toInt ≤ 3100 := rs_94_55 (m := m) hV
        refine zd (fun (h19 : (m 94 55) = (0 : Int32)) => ?_) (fun (h19 : ¬ (m 94 55) = (0 : Int32)) => ?_)
        · skip
          have g20 := i_eq h19
          have hV21 : zV (ma_u m 94 0 (0 : Int32)) := uf_94_0 hV
          have li22 : (-1 : Int32).toInt = -1 := rfl
          exact K ((-1 : Int32)) _ (zF_u zF_rfl rfl) hV21 r_W r_GW r_GU r_OW r_GG r_WTS (show qRB (m 99) (m 100) (m 98) (m 101) (m 102) (m 103) (m 107) (m 108) (m 109) (m 111) (m 112) (m 113) (m 114) (m 94 55) (m 94 46) (m 94 11) (m 94 12) (m 94 62) (m 94 17) (m 94 9) (kGr aa r1) from by first | (unfold kGr; rw [qIf_n (fun w => by have w1 := w.1; have w2 := w.2; omega)]; exact r_RB; done) | (rw [kGr_0 r_RB (i_zer (by omega))]; exact r_RB; done) | (exfalso; omega; done) | (exfalso; contradiction; done)) (show qI (kGr aa r1) from by first | (unfold kGr; rw [qIf_n (fun w => by have w1 := w.1; have w2 := w.2; omega)]; exact r_QI; done) | (rw [kGr_0 r_RB (i_zer (by omega))]; exact r_QI; done) | (exfalso; omega; done) | (exfalso; contradiction; done)) (show (kGr aa r1) 87 8 = (m 94 58) from by first | (unfold kGr; rw [qIf_n (fun w => by have w1 := w.1; have w2 := w.2; omega)]; exact r_MK; done) | (rw [kGr_0 r_RB (i_zer (by omega))]; exact r_MK; done) | (exfalso; omega; done) | (exfalso; contradiction; done)) (show cV (kGr aa r1) [] B from by first | (unfold kGr; rw [qIf_n (fun w => by have w1 := w.1; have w2 := w.2; omega)]; exact r_VV; done) | (rw [kGr_0 r_RB (i_zer (by omega))]; exact r_VV; done) | (exfalso; omega; done) | (exfalso; contradiction; done)) (show qCt (m 105) (m 99) (m 100) (kGr aa r1) [] (-1) (-1) from by first | (unfold kGr; rw [qIf_n (fun w => by have w1 := w.1; have w2 := w.2; omega)]; exact r_CT; done) | (rw [kGr_0 r_RB (i_zer (by omega))]; exact r_CT; done) | (exfalso; omega; done) | (exfalso; contradiction; done))
        · skip
          have g23 := i_ne h19
          have hV24 : zV (ma_u m 94 0 (0 : Int32)) := uf_94_0 hV
          first | have e26 : ((m 94 55) - (1 : Int32)).toInt = (m 94 55).toInt - (1) := i_subk rfl (by omega) (by omega) | have b27 := i_bd ((m 94 55) - (1 : Int32))
          have hV25 : zV (ma_u (ma_u m 94 0 (0 : Int32)) 94 55 ((m 94 55) - (1 : Int32))) := us_94_55 hV24 (by omega) (by omega)
          have f28 : 0 ≤ (m 114 0).toInt ∧ (m 114 0).toInt ≤ 3099 := ra_114 (m := m) hV (k := 0) (by decide)
          exact lp_255r4_61 (r1 := r1) hV K _ _ (r1) ((m 114 0)) ((0 : Int32)) rfl (zF_u (zF_u zF_rfl rfl) rfl) hV25 (by omega) (by omega) (by omega) (by omega) (show r1 = r1 from by first | (exact rfl) | (exfalso; omega; done) | (exfalso; contradiction; done)) (by omega) (by omega) (by omega) (by omega) (show 1 ≤ (m 94 55).toInt from by omega) (show ((m 94 55) - (1 : Int32)).toInt = (m 94 55).toInt - 1 from by omega) (show (0 : Int32).toInt ≤ ((m 94 55) - (1 : Int32)).toInt from by omega) r_W (show zGW T ((m 94 55) - (1 : Int32)) (m 109) from by first | (exact GW_le r_GW (by omega)) | (exfalso; omega; done) | (exfalso; contradiction; done)) r_GU r_OW r_GG (show (m 94 10).toInt = 4 ∧ (m 94 58).toInt = 0 from by omega) (show (m 94 8).toInt = 1 from by omega) (show qRB (m 99) (m 100) (m 98) (m 101) (m 102) (m 103) (m 107) (m 108) (m 109) (m 111) (m 112) (m 113) (m 114) (m 94 55) (m 94 46) (m 94 11) (m 94 12) (m 94 62) (m 94 17) (m 94 9) aa from by first | (exact r_RB) | (exfalso; omega; done) | (exfalso; contradiction; done)) r_QI r_MK r_WTS r_VV r_CT (show qSh (m 114) (m 114) (0 : Int32).toInt from by first | (exact Sh_0 (by decide)) | (exfalso; omega; done) | (exfalso; contradiction; done)) (show ((m 94 55) - (1 : Int32)) = (m 94 55) - 1 from by first | (exact rfl) | (exfalso; omega; done) | (exfalso; contradiction; done)) (show (m 114 0) = (m 114) 0 from by first | (exact rfl) | (exfalso; omega; done) | (exfalso; contradiction; done))

/-! from 95.o10 -/
/-! the reference under COUNTS (written by wip/tools/gen20s.py) -/
theorem Ct_l2 {a : Nat → Nat → Int32} {us nr ct : Nat → Int32} {s z i : Int32} {n : Nat} (hI : qI a) (q : qCt ct us nr a [] (-1) (qNo nr s)) (W : qWp a n i) (hb : a (1000 + n) i.toNatClampNeg ≠ 0) (ew : aRef a n i = z) : qCt ct us nr (aCi a n i (qNo nr s)) [] (-1) z := fun t ht hv => by
  have r := Rf_w (x := qNo nr s) (n := (nr t).toNatClampNeg) (cQ_I hI) W W.1.1 hb
  rw [Ci_eq hI W, q t ht hv, ← ew]
  exact congrArg Int32.ofInt (by omega)

