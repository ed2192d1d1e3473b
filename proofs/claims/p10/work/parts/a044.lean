/-! from 95.r22 -/
/-! the reference where it moves (written by wip/tools/gen15r.py) -/
set_option maxHeartbeats 8000000 in
theorem lp_183rv_142 {X : Nat × (Nat → Int32)} {P : Option ma_V → (Nat → Nat → Int32) → Prop} {T : Nat} {aa : Nat→Nat→Int32} {ro : Int32} {LL : Int64} {kk : Int32} {nn : Int32} {r1 : Int32} {m0 : Nat → Nat → Int32} (h0 : zV m0) (K : ∀ v m₉, zF wr_183 m0 m₉ → zV m₉ → (zW (m₉ 94 7) (m₉ 98) (m₉ 101) (m₉ 102) (m₉ 108)) → (zGW (T + 1) (m₉ 94 55) (m₉ 109)) → (zGU (T + 1) (m₉ 94 46) (m₉ 99)) → (zOw (m₉ 99) (m₉ 103) (m₉ 111)) → (zGG (m₉ 94 58) (m₉ 94 56) (m₉ 94 57) (m₉ 106)) → (qRB (m₉ 99) (m₉ 100) (m₉ 98) (m₉ 101) (m₉ 102) (m₉ 103) (m₉ 107) (m₉ 108) (m₉ 109) (m₉ 111) (m₉ 112) (m₉ 113) (m₉ 114) (m₉ 94 55) (m₉ 94 46) ro 0 0 0 1 (hMk aa kk nn LL r1)) → (qMG (m₉ 94 58) (m₉ 106) (m₉ 115) (m₉ 94 57) (m₉ 94 56) (m₉ 99) (m₉ 100) (hMk aa kk nn LL r1)) → ((hMk aa kk nn LL r1) 87 8 = (m₉ 94 58)) → ((m₉ 94 45).toInt = sm (zbU (m₉ 99)) (m₉ 102) 3100) → ((m₉ 94 58).toInt = 0) → (v = hMn aa nn) → (qHv (hMk aa kk nn LL r1)) → (qHL (hMk aa kk nn LL r1) (m₉ 94 11) (m₉ 94 61) (m₉ 94 59)) → P (some (.inl v)) m₉) : ∀ (n : Nat) (m : Nat → Nat → Int32) (l2 : Int32) (l3 : Int32) (l4 : Int32) (l5 : Int32) (l6 : Int32), (61 - l6.toInt).toNat = n → zF wr_183 m0 m → zV m → (l2.toInt = nn.toInt) → (0 ≤ l2.toInt) → (l2.toInt ≤ 60) → (0 ≤ l3.toInt) → (l3.toInt ≤ 15) → (0 ≤ l4.toInt) → (l4.toInt ≤ 3000) → (0 ≤ l5.toInt) → (l5.toInt ≤ 3099) → (T + 1 ≤ 512) → (0 ≤ l6.toInt) → ((m 94 10).toInt = 2 ∧ (m 94 58).toInt = 0) → ((m 94 8).toInt = 1) → ((m 94 46).toInt ≤ 511) → (l2 = nn) → (l3 = r1) → (qEq l4.toInt (hRp aa (nn + (1 : Int32)).toInt)) → ((m 102 l5.toNatClampNeg).toInt = l2.toInt) → ((m 99) l5.toNatClampNeg ≠ 0) → (zGUp T (m 94 46) (m 99)) → (zOw (m 99) (m 103) (m 111)) → (zGG (m 94 58) (m 94 56) (m 94 57) (m 106)) → (qI (hFt aa (nn + (1 : Int32)) l4)) → (qNs (m 99) (m 100) (m 98) (m 101) (m 102) (m 103) (m 107) (m 108) (m 109) (m 111) (m 112) (m 113) (m 114) (m 94 55) (m 94 46) ro 0 0 0 1 (hFt aa (nn + (1 : Int32)) l4) l5.toNatClampNeg (m 94 46) kk nn l4) → (qMG (m 94 58) (m 106) (m 115) (m 94 57) (m 94 56) (zmk (m 99) l5.toNatClampNeg) (m 100) (hFt aa (nn + (1 : Int32)) l4)) → ((hFt aa (nn + (1 : Int32)) l4) 87 8 = (m 94 58)) → ((m 94 45).toInt = sm (zbU (zmk (m 99) l5.toNatClampNeg)) (m 102) 3100) → (∀ j : Nat, (j : Int) < nn.toInt → (zbit LL (Int32.ofNat j) ≠ 0 ↔ (kk = 16 ∨ (kk < 16 ∧ (((m 98) kk.toNatClampNeg >>> (Int32.ofNat j &&& 31)) &&& 1) = 1)))) → ((aa 69 6).toInt < 512) → (aa 87 2 = 0) → (zWn (m 94 7) (m 98) (m 101) (m 102) (m 108) l5.toNatClampNeg l6.toNatClampNeg) → (zGW (T + 1) (m 94 55) (m 109)) → (qCo (m 94 58) (m 106) l5.toNatClampNeg) → ((m 107) l5.toNatClampNeg = 0) → ((m 109) l5.toNatClampNeg = 0) → (qHv (hRs aa (nn + (1 : Int32)).toInt)) → (qHL (hFt aa (nn + (1 : Int32)) l4) (m 94 11) (m 94 61) (m 94 59)) → zm X 9 198 183 142 [(0, .inr (.inr (some 94))), (2, .inl l2), (3, .inl l3), (4, .inl l4), (5, .inl l5), (6, .inl l6)] m P := by
  intro n
  induction n using Nat.strongRecOn with
  | _ n IH =>
    intro m l2 l3 l4 l5 l6 hmu hF hV hi0 hi1 hi2 hi3 hi4 hi5 hi6 hi7 hi8 hi9 hi10 hi11 hi12 hi13 r_L2n r_L3r r_PLq hi17 r_USn r_GUp r_OW r_GG r_QIb r_NS r_MGz r_MKb r_WTz r_BTS r_N6 r_Q0 r_WN r_GW r_COs r_HOs r_WIs r_HVs r_HLb
    refine g_183_142 l2 l3 l4 l5 l6 ?_
    have f1 : 0 ≤ (m 94 10).toInt ∧ (m 94 10).toInt ≤ 6 := rs_94_10 (m := m) hV
    have f2 : 0 ≤ (m 94 58).toInt ∧ (m 94 58).toInt ≤ 1 := rs_94_58 (m := m) hV
    have f3 : 0 ≤ (m 94 8).toInt ∧ (m 94 8).toInt ≤ 1 := rs_94_8 (m := m) hV
    have f4 : 0 ≤ (m 94 46).toInt ∧ (m 94 46).toInt ≤ 100000 := rs_94_46 (m := m) hV
    have b5 := i_bd l5
    first | have f6 : 0 ≤ (m 102 l5.toNatClampNeg).toInt ∧ (m 102 l5.toNatClampNeg).toInt ≤ 60 := ra_102 (m := m) hV (k := l5.toNatClampNeg) (i_ix (n := 3100) (by omega) (by omega)).2 | have b7 := i_bd (m 102 l5.toNatClampNeg)
    have b8 := i_bd l2
    have b9 := i_bd l6
    refine zd (fun (h10 : l2 ≤ l6) => ?_) (fun (h10 : ¬ l2 ≤ l6) => ?_)
    · skip
      have g11 := i_le h10
      have b12 := i_bd l3
      first | have e14 : ((m 94 46) + (1 : Int32)).toInt = (m 94 46).toInt + (1) := i_addk rfl (by omega) (by omega) | have b15 := i_bd ((m 94 46) + (1 : Int32))
      have hV13 : zV (ma_u m 94 46 ((m 94 46) + (1 : Int32))) := us_94_46 hV (by omega) (by omega)
      have hV16 : zV (ma_u (ma_u m 94 46 ((m 94 46) + (1 : Int32))) 94 44 ((m 94 44) + (1 : Int32))) := uf_94_44 hV13
      have hV17 : zV (ma_u (ma_u (ma_u m 94 46 ((m 94 46) + (1 : Int32))) 94 44 ((m 94 44) + (1 : Int32))) 94 45 ((m 94 45) + (l2 + (1 : Int32)))) := uf_94_45 hV16
      have b19 := i_bd l4
      first | have e20 : (l4 + l2).toInt = l4.toInt + l2.toInt := i_add (by omega) (by omega) | have b21 := i_bd (l4 + l2)
      first | have e22 : ((l4 + l2) + (1 : Int32)).toInt = (l4 + l2).toInt + (1) := i_addk rfl (by omega) (by omega) | have b23 := i_bd ((l4 + l2) + (1 : Int32))
      have hV18 : zV (ma_u (ma_u (ma_u (ma_u m 94 46 ((m 94 46) + (1 : Int32))) 94 44 ((m 94 44) + (1 : Int32))) 94 45 ((m 94 45) + (l2 + (1 : Int32)))) 94 62 ((l4 + l2) + (1 : Int32))) := us_94_62 hV17 (by omega) (by omega)
      refine sp_238rm (T := (T + 1)) (aa := (aAd (hFt aa (nn + (1 : Int32)) l4) (m 94 46) (zFn (m 94 46) kk (nn + (1 : Int32)) l4) LL)) (l3) (l5) hV18 (by omega) (by omega) (by omega) (by omega) (show ((m 94 10).toInt = 1 ∨ (m 94 10).toInt = 2 ∨ (m 94 10).toInt = 3 ∨ (m 94 10).toInt = 6) ∧ (m 94 58).toInt = 0 from by omega) (show zW (m 94 7) (m 98) (m 101) (m 102) (m 108) from by first | (exact Wn_end r_WN (by rw [tn_cast (x := l6) (by omega)]; omega)) | (exfalso; omega; done) | (exfalso; contradiction; done)) r_GW (show zGU (T + 1) ((m 94 46) + (1 : Int32)) (m 99) from by first | (exact GUp_end r_GUp (by omega)) | (exfalso; omega; done) | (exfalso; contradiction; done)) r_OW r_GG (show qRB (m 99) (m 100) (m 98) (m 101) (m 102) (m 103) (m 107) (m 108) (m 109) (m 111) (m 112) (m 113) (m 114) (m 94 55) ((m 94 46) + (1 : Int32)) ro 0 0 0 1 (aAd (hFt aa (nn + (1 : Int32)) l4) (m 94 46) (zFn (m 94 46) kk (nn + (1 : Int32)) l4) LL) from by first | (rw [← (hd_0 ((Hf_7 (by decide) (by decide)).trans r_Q0) (r_MKb.trans (i_zer (by omega))))]; exact RB_872 (RB_nz r_NS (Ne_h r_HVs r_PLq (by omega) (by omega) (by omega) r_NS.1.2.2.2.2.2.2.2.1 (by omega)) (Ad_of (b := (hFt aa (nn + (1 : Int32)) l4)) (y := (m 94 46)) (kk := kk) (w := nn) (pl := l4) (L := LL) (by omega) (by omega) (by omega) (by omega) (by omega)) (tn_lt (by omega) (by omega)) r_HOs r_WIs (fun j hj => r_WN.2.1 j (by have := tn_cast (x := l6) (by omega); omega)) (fun j hj => (r_BTS j hj).trans (by unfold qIr; rw [r_NS.2.2.2.1])) rfl); done) | (exfalso; omega; done) | (exfalso; contradiction; done)) (show qI (aAd (hFt aa (nn + (1 : Int32)) l4) (m 94 46) (zFn (m 94 46) kk (nn + (1 : Int32)) l4) LL) from by first | (rw [← (hd_0 ((Hf_7 (by decide) (by decide)).trans r_Q0) (r_MKb.trans (i_zer (by omega))))]; exact I_872 (I_ad (Ne_h r_HVs r_PLq (by omega) (by omega) (by omega) r_NS.1.2.2.2.2.2.2.2.1 (by omega)) (Ad_of (b := (hFt aa (nn + (1 : Int32)) l4)) (y := (m 94 46)) (kk := kk) (w := nn) (pl := l4) (L := LL) (by omega) (by omega) (by omega) (by omega) (by omega))) (by decide) (I_ad (Ne_h r_HVs r_PLq (by omega) (by omega) (by omega) r_NS.1.2.2.2.2.2.2.2.1 (by omega)) (Ad_of (b := (hFt aa (nn + (1 : Int32)) l4)) (y := (m 94 46)) (kk := kk) (w := nn) (pl := l4) (L := LL) (by omega) (by omega) (by omega) (by omega) (by omega))).2.2.2.1.2.2.1.1 (Gd_0 (I_ad (Ne_h r_HVs r_PLq (by omega) (by omega) (by omega) r_NS.1.2.2.2.2.2.2.2.1 (by omega)) (Ad_of (b := (hFt aa (nn + (1 : Int32)) l4)) (y := (m 94 46)) (kk := kk) (w := nn) (pl := l4) (L := LL) (by omega) (by omega) (by omega) (by omega) (by omega)))); done) | (exfalso; omega; done) | (exfalso; contradiction; done)) (show qMG (m 94 58) (m 106) (m 115) (m 94 57) (m 94 56) (m 99) (m 100) (aAd (hFt aa (nn + (1 : Int32)) l4) (m 94 46) (zFn (m 94 46) kk (nn + (1 : Int32)) l4) LL) from by first | (exact fun z => absurd (by omega) z) | (exfalso; omega; done) | (exfalso; contradiction; done)) (show (aAd (hFt aa (nn + (1 : Int32)) l4) (m 94 46) (zFn (m 94 46) kk (nn + (1 : Int32)) l4) LL) 87 8 = (m 94 58) from by first | (exact ad_87.trans r_MKb) | (exfalso; omega; done) | (exfalso; contradiction; done)) (show ((m 94 45) + (l2 + (1 : Int32))).toInt = sm (zbU (m 99)) (m 102) 3100 from by first | (have q := WT_ad r_WTz (tn_lt (by omega) (by omega)) r_USn (fun t ht => ra_102 hV ht); rw [r_NS.2.2.2.2.1, ← r_L2n] at q; exact q; done) | (exfalso; omega; done) | (exfalso; contradiction; done)) (show qU (m 99) l5 from by first | (exact Or.inr ⟨by omega, r_USn⟩) | (assumption; done) | (exact ow5.1) | (exact ow3.1) | (exfalso; omega; done) | (exfalso; contradiction; done)) (show qMS (m 94 58) (aAd (hFt aa (nn + (1 : Int32)) l4) (m 94 46) (zFn (m 94 46) kk (nn + (1 : Int32)) l4) LL) (qNo (m 100) l5) from by first | (exact fun z => absurd (by omega) z) | (exfalso; omega; done) | (exfalso; contradiction; done)) (fun m1 hV_m1 p0_m1 p1_m1 p2_m1 p3_m1 p4_m1 p5_m1 p6_m1 p7_m1 p8_m1 => zmv_n ?_)
      have p0_m1 : zGW (T + 1) (m1 94 55) (m1 109) := p0_m1
      have p1_m1 : zGU (T + 1) ((m 94 46) + (1 : Int32)) (m1 99) := p1_m1
      have p2_m1 : zOw (m1 99) (m 103) (m1 111) := p2_m1
      have p3_m1 : zGG (m 94 58) (m1 94 56) (m 94 57) (m1 106) := p3_m1
      have p4_m1 : qRB (m1 99) (m 100) (m 98) (m 101) (m 102) (m 103) (m 107) (m 108) (m1 109) (m1 111) (m1 112) (m1 113) (m1 114) (m1 94 55) ((m 94 46) + (1 : Int32)) ro 0 0 0 1 (aRt (aAd (hFt aa (nn + (1 : Int32)) l4) (m 94 46) (zFn (m 94 46) kk (nn + (1 : Int32)) l4) LL) l3 (qNo (m 100) l5)) := p4_m1
      have p5_m1 : qI (aRt (aAd (hFt aa (nn + (1 : Int32)) l4) (m 94 46) (zFn (m 94 46) kk (nn + (1 : Int32)) l4) LL) l3 (qNo (m 100) l5)) := p5_m1
      have p6_m1 : qMG (m 94 58) (m1 106) (m1 115) (m 94 57) (m1 94 56) (m1 99) (m 100) (aRt (aAd (hFt aa (nn + (1 : Int32)) l4) (m 94 46) (zFn (m 94 46) kk (nn + (1 : Int32)) l4) LL) l3 (qNo (m 100) l5)) := p6_m1
      have p7_m1 : (aRt (aAd (hFt aa (nn + (1 : Int32)) l4) (m 94 46) (zFn (m 94 46) kk (nn + (1 : Int32)) l4) LL) l3 (qNo (m 100) l5)) 87 8 = (m 94 58) := p7_m1
      have p8_m1 : (m1 94 45).toInt = sm (zbU (m1 99)) (m 102) 3100 := p8_m1
      have hg24 : (0 ≤ l5 ∧ l5.toNatClampNeg < 3100) := i_ix (by omega) (by omega)
      refine ⟨hg24, ?_⟩
      try have e21 : (l2 + (1 : Int32)).toInt = l2.toInt + 1 := i_addk rfl (by omega) (by omega)
      try have gun := GU_nu p1_m1
      first | have f25 : 0 ≤ (m 100 l5.toNatClampNeg).toInt ∧ (m 100 l5.toNatClampNeg).toInt ≤ 100000 := ra_100 (m := m) hV (k := l5.toNatClampNeg) (i_ix (n := 3100) (by omega) (by omega)).2 | have b26 := i_bd (m 100 l5.toNatClampNeg)
      exact K ((m 100 l5.toNatClampNeg)) _ (zF_zov (zF_u (zF_u (zF_u (zF_u hF rfl) rfl) rfl) rfl) ws_238_183) hV_m1 (show zW (m 94 7) (m 98) (m 101) (m 102) (m 108) from by first | (exact Wn_end r_WN (by rw [tn_cast (x := l6) (by omega)]; omega)) | (exfalso; omega; done) | (exfalso; contradiction; done)) p0_m1 p1_m1 p2_m1 p3_m1 (show qRB (m1 99) (m 100) (m 98) (m 101) (m 102) (m 103) (m 107) (m 108) (m1 109) (m1 111) (m1 112) (m1 113) (m1 114) (m1 94 55) ((m 94 46) + (1 : Int32)) ro 0 0 0 1 (hMk aa kk nn LL r1) from by first | (have e := p4_m1; rw [No_y (by omega), r_NS.2.2.1, r_L3r] at e; rw [(hMk_2b (a := aa) (kd := kk) (wd := nn) (rt := r1) (L := LL) (pl := l4) (y := (m 94 46)) r_N6 (qE r_PLq) (by omega) (by omega) (by omega) (by omega) (by omega) r_NS.1.2.2.2.2.2.2.2.1.symm (r_MKb.trans (i_zer (by omega)))).1]; exact e; done) | (exfalso; omega; done) | (exfalso; contradiction; done)) (show qMG (m 94 58) (m1 106) (m1 115) (m 94 57) (m1 94 56) (m1 99) (m 100) (hMk aa kk nn LL r1) from by first | (have e := p6_m1; rw [No_y (by omega), r_NS.2.2.1, r_L3r] at e; rw [(hMk_2b (a := aa) (kd := kk) (wd := nn) (rt := r1) (L := LL) (pl := l4) (y := (m 94 46)) r_N6 (qE r_PLq) (by omega) (by omega) (by omega) (by omega) (by omega) r_NS.1.2.2.2.2.2.2.2.1.symm (r_MKb.trans (i_zer (by omega)))).1]; exact e; done) | (exfalso; omega; done) | (exfalso; contradiction; done)) (show (hMk aa kk nn LL r1) 87 8 = (m 94 58) from by first | (have e := p7_m1; rw [No_y (by omega), r_NS.2.2.1, r_L3r] at e; rw [(hMk_2b (a := aa) (kd := kk) (wd := nn) (rt := r1) (L := LL) (pl := l4) (y := (m 94 46)) r_N6 (qE r_PLq) (by omega) (by omega) (by omega) (by omega) (by omega) r_NS.1.2.2.2.2.2.2.2.1.symm (r_MKb.trans (i_zer (by omega)))).1]; exact e; done) | (exfalso; omega; done) | (exfalso; contradiction; done)) p8_m1 (show (m 94 58).toInt = 0 from by omega) (show (m 100 l5.toNatClampNeg) = hMn aa nn from by first | (rw [r_NS.2.2.1]; exact (hMk_2b (a := aa) (kd := kk) (wd := nn) (rt := r1) (L := LL) (pl := l4) (y := (m 94 46)) r_N6 (qE r_PLq) (by omega) (by omega) (by omega) (by omega) (by omega) r_NS.1.2.2.2.2.2.2.2.1.symm (r_MKb.trans (i_zer (by omega)))).2.symm; done) | (exfalso; omega; done) | (exfalso; contradiction; done)) (show qHv (hMk aa kk nn LL r1) from by first | (rw [(hMk_2b (a := aa) (kd := kk) (wd := nn) (rt := r1) (L := LL) (pl := l4) (y := (m 94 46)) r_N6 (qE r_PLq) (by omega) (by omega) (by omega) (by omega) (by omega) r_NS.1.2.2.2.2.2.2.2.1.symm (r_MKb.trans (i_zer (by omega)))).1]; exact Hv_new r_HVs (Ne_h r_HVs r_PLq (by omega) (by omega) (by omega) r_NS.1.2.2.2.2.2.2.2.1 (by omega)) r_PLq (by omega) (r_MKb.trans (i_zer (by omega))); done) | (exfalso; omega; done) | (exfalso; contradiction; done)) (show qHL (hMk aa kk nn LL r1) (m 94 11) (m 94 61) (m 94 59) from by first | (rw [(hMk_2b (a := aa) (kd := kk) (wd := nn) (rt := r1) (L := LL) (pl := l4) (y := (m 94 46)) r_N6 (qE r_PLq) (by omega) (by omega) (by omega) (by omega) (by omega) r_NS.1.2.2.2.2.2.2.2.1.symm (r_MKb.trans (i_zer (by omega)))).1]; exact HL_cg r_HLb ((congrFun (rt_r (by decide) (by decide) (by decide) (by decide)) _).trans ad_87) ((congrFun (rt_r (by decide) (by decide) (by decide) (by decide)) _).trans ad_87) ((congrFun (rt_r (by decide) (by decide) (by decide) (by decide)) _).trans ad_87); done) | (exfalso; omega; done) | (exfalso; contradiction; done))
    · skip
      have g27 := i_nle h10
      have hg28 : (0 ≤ l5 ∧ l5.toNatClampNeg < 3100) := i_ix (by omega) (by omega)
      refine ⟨hg28, ?_⟩
      first | have f29 : 0 ≤ (m 101 l5.toNatClampNeg).toInt ∧ (m 101 l5.toNatClampNeg).toInt ≤ 17 := ra_101 (m := m) hV (k := l5.toNatClampNeg) (i_ix (n := 3100) (by omega) (by omega)).2 | have b30 := i_bd (m 101 l5.toNatClampNeg)
      have li31 : (16 : Int32).toInt = 16 := rfl
      refine zd (fun (h32 : (m 101 l5.toNatClampNeg) = (16 : Int32)) => ?_) (fun (h32 : ¬ (m 101 l5.toNatClampNeg) = (16 : Int32)) => ?_)
      · skip
        have g33 := i_eq h32
        have li34 : (60 : Int32).toInt = 60 := rfl
        first | have e35 : (l5 * (60 : Int32)).toInt = l5.toInt * 60 := i_mulk rfl (by omega) (by omega) | have b36 := i_bd (l5 * (60 : Int32))
        first | have e37 : ((l5 * (60 : Int32)) + l6).toInt = (l5 * (60 : Int32)).toInt + l6.toInt := i_add (by omega) (by omega) | have b38 := i_bd ((l5 * (60 : Int32)) + l6)
        have hg39 : (0 ≤ ((l5 * (60 : Int32)) + l6) ∧ ((l5 * (60 : Int32)) + l6).toNatClampNeg < 186000) := i_ix (by omega) (by omega)
        refine ⟨hg39, ?_⟩
        try have e21 : (l2 + (1 : Int32)).toInt = l2.toInt + 1 := i_addk rfl (by omega) (by omega)
        have hV40 : zV (ma_u m 108 ((l5 * (60 : Int32)) + l6).toNatClampNeg (-1 : Int32)) := ua_108 hV
        have b41 := i_bd l3
        have b42 := i_bd l4
        first | have e43 : (l6 + (1 : Int32)).toInt = l6.toInt + (1) := i_addk rfl (by omega) (by omega) | have b44 := i_bd (l6 + (1 : Int32))
        exact IH (61 - (l6 + (1 : Int32)).toInt).toNat (by omega) _ (l2) (l3) (l4) (l5) ((l6 + (1 : Int32))) rfl (zF_u hF rfl) hV40 (by omega) (by omega) (by omega) (by omega) (by omega) (by omega) (by omega) (by omega) (by omega) (by omega) (by omega) (show (m 94 10).toInt = 2 ∧ (m 94 58).toInt = 0 from by omega) (show (m 94 8).toInt = 1 from by omega) (show (m 94 46).toInt ≤ 511 from by omega) r_L2n r_L3r r_PLq (show (m 102 l5.toNatClampNeg).toInt = l2.toInt from by omega) r_USn r_GUp r_OW r_GG r_QIb (show qNs (m 99) (m 100) (m 98) (m 101) (m 102) (m 103) (m 107) ((ma_u m 108 ((l5 * (60 : Int32)) + l6).toNatClampNeg (-1 : Int32)) 108) (m 109) (m 111) (m 112) (m 113) (m 114) (m 94 55) (m 94 46) ro 0 0 0 1 (hFt aa (nn + (1 : Int32)) l4) l5.toNatClampNeg (m 94 46) kk nn l4 from by first | (exact NS_h r_NS (fun _ _ => rfl) (fun _ _ => rfl) (fun t ht hne i hi => (zrf_oth (ix_word (by omega) (by omega) (by omega) (by omega)) (by rw [tn_eq]; omega) (fun t ht => (ra_102 hV ht).2)) t i hne ht hi)) | (exfalso; omega; done) | (exfalso; contradiction; done)) r_MGz r_MKb r_WTz r_BTS r_N6 r_Q0 (show zWn (m 94 7) (m 98) (m 101) (m 102) ((ma_u m 108 ((l5 * (60 : Int32)) + l6).toNatClampNeg (-1 : Int32)) 108) l5.toNatClampNeg (l6 + (1 : Int32)).toNatClampNeg from by first | (exact Wn_put r_WN (zrf_oth (ix_word (by omega) (by omega) (by omega) (by omega)) (by rw [tn_eq]; omega) (fun t ht => (ra_102 hV ht).2)) (zrf_bef (ix_word (by omega) (by omega) (by omega) (by omega))) (zrf_m1 (ix_word (by omega) (by omega) (by omega) (by omega)) rfl) (tn_succ (by omega) (by omega))) | (exact Wn_put r_WN (zrf_oth (ix_word (by omega) (by omega) (by omega) (by omega)) (by rw [tn_eq]; omega) (fun t ht => (ra_102 hV ht).2)) (zrf_bef (ix_word (by omega) (by omega) (by omega) (by omega))) (zrf_nr rfl (by omega) (by assumption) (fun z => by first | exact absurd (Int32.lt_iff_toInt_lt.mp z.1) (by omega) | exact absurd z.2 (by assumption))) (tn_succ (by omega) (by omega))) | (exfalso; omega; done) | (exfalso; contradiction; done)) r_GW r_COs r_HOs r_WIs r_HVs r_HLb
      · skip
        have g45 := i_ne h32
        have hg46 : (0 ≤ l5 ∧ l5.toNatClampNeg < 3100) := i_ix (by omega) (by omega)
        refine ⟨hg46, ?_⟩
        refine zd (fun (h47 : (16 : Int32) ≤ (m 101 l5.toNatClampNeg)) => ?_) (fun (h47 : ¬ (16 : Int32) ≤ (m 101 l5.toNatClampNeg)) => ?_)
        · skip
          have g48 := i_le h47
          have li49 : (60 : Int32).toInt = 60 := rfl
          first | have e50 : (l5 * (60 : Int32)).toInt = l5.toInt * 60 := i_mulk rfl (by omega) (by omega) | have b51 := i_bd (l5 * (60 : Int32))
          first | have e52 : ((l5 * (60 : Int32)) + l6).toInt = (l5 * (60 : Int32)).toInt + l6.toInt := i_add (by omega) (by omega) | have b53 := i_bd ((l5 * (60 : Int32)) + l6)
          have hg54 : (0 ≤ ((l5 * (60 : Int32)) + l6) ∧ ((l5 * (60 : Int32)) + l6).toNatClampNeg < 186000) := i_ix (by omega) (by omega)
          refine ⟨hg54, ?_⟩
          try have e21 : (l2 + (1 : Int32)).toInt = l2.toInt + 1 := i_addk rfl (by omega) (by omega)
          have hV55 : zV (ma_u m 108 ((l5 * (60 : Int32)) + l6).toNatClampNeg (0 : Int32)) := ua_108 hV
          have b56 := i_bd l3
          have b57 := i_bd l4
          first | have e58 : (l6 + (1 : Int32)).toInt = l6.toInt + (1) := i_addk rfl (by omega) (by omega) | have b59 := i_bd (l6 + (1 : Int32))
          exact IH (61 - (l6 + (1 : Int32)).toInt).toNat (by omega) _ (l2) (l3) (l4) (l5) ((l6 + (1 : Int32))) rfl (zF_u hF rfl) hV55 (by omega) (by omega) (by omega) (by omega) (by omega) (by omega) (by omega) (by omega) (by omega) (by omega) (by omega) (show (m 94 10).toInt = 2 ∧ (m 94 58).toInt = 0 from by omega) (show (m 94 8).toInt = 1 from by omega) (show (m 94 46).toInt ≤ 511 from by omega) r_L2n r_L3r r_PLq (show (m 102 l5.toNatClampNeg).toInt = l2.toInt from by omega) r_USn r_GUp r_OW r_GG r_QIb (show qNs (m 99) (m 100) (m 98) (m 101) (m 102) (m 103) (m 107) ((ma_u m 108 ((l5 * (60 : Int32)) + l6).toNatClampNeg (0 : Int32)) 108) (m 109) (m 111) (m 112) (m 113) (m 114) (m 94 55) (m 94 46) ro 0 0 0 1 (hFt aa (nn + (1 : Int32)) l4) l5.toNatClampNeg (m 94 46) kk nn l4 from by first | (exact NS_h r_NS (fun _ _ => rfl) (fun _ _ => rfl) (fun t ht hne i hi => (zrf_oth (ix_word (by omega) (by omega) (by omega) (by omega)) (by rw [tn_eq]; omega) (fun t ht => (ra_102 hV ht).2)) t i hne ht hi)) | (exfalso; omega; done) | (exfalso; contradiction; done)) r_MGz r_MKb r_WTz r_BTS r_N6 r_Q0 (show zWn (m 94 7) (m 98) (m 101) (m 102) ((ma_u m 108 ((l5 * (60 : Int32)) + l6).toNatClampNeg (0 : Int32)) 108) l5.toNatClampNeg (l6 + (1 : Int32)).toNatClampNeg from by first | (exact Wn_put r_WN (zrf_oth (ix_word (by omega) (by omega) (by omega) (by omega)) (by rw [tn_eq]; omega) (fun t ht => (ra_102 hV ht).2)) (zrf_bef (ix_word (by omega) (by omega) (by omega) (by omega))) (zrf_m1 (ix_word (by omega) (by omega) (by omega) (by omega)) rfl) (tn_succ (by omega) (by omega))) | (exact Wn_put r_WN (zrf_oth (ix_word (by omega) (by omega) (by omega) (by omega)) (by rw [tn_eq]; omega) (fun t ht => (ra_102 hV ht).2)) (zrf_bef (ix_word (by omega) (by omega) (by omega) (by omega))) (zrf_nr rfl (by omega) (by assumption) (fun z => by first | exact absurd (Int32.lt_iff_toInt_lt.mp z.1) (by omega) | exact absurd z.2 (by assumption))) (tn_succ (by omega) (by omega))) | (exfalso; omega; done) | (exfalso; contradiction; done)) r_GW r_COs r_HOs r_WIs r_HVs r_HLb
        · skip
          have g60 := i_nle h47
          have hg61 : (0 ≤ l5 ∧ l5.toNatClampNeg < 3100) := i_ix (by omega) (by omega)
          refine ⟨hg61, ?_⟩
          have hg62 : (0 ≤ (m 101 l5.toNatClampNeg) ∧ (m 101 l5.toNatClampNeg).toNatClampNeg < 16) := i_ix (by omega) (by omega)
          refine ⟨hg62, ?_⟩
          have b63 := i_bd (((m 98 (m 101 l5.toNatClampNeg).toNatClampNeg) >>> (l6 &&& 31)) &&& (1 : Int32))
          have li64 : (1 : Int32).toInt = 1 := rfl
          refine zd (fun (h65 : (((m 98 (m 101 l5.toNatClampNeg).toNatClampNeg) >>> (l6 &&& 31)) &&& (1 : Int32)) = (1 : Int32)) => ?_) (fun (h65 : ¬ (((m 98 (m 101 l5.toNatClampNeg).toNatClampNeg) >>> (l6 &&& 31)) &&& (1 : Int32)) = (1 : Int32)) => ?_)
          · skip
            have g66 := i_eq h65
            have li67 : (60 : Int32).toInt = 60 := rfl
            first | have e68 : (l5 * (60 : Int32)).toInt = l5.toInt * 60 := i_mulk rfl (by omega) (by omega) | have b69 := i_bd (l5 * (60 : Int32))
            first | have e70 : ((l5 * (60 : Int32)) + l6).toInt = (l5 * (60 : Int32)).toInt + l6.toInt := i_add (by omega) (by omega) | have b71 := i_bd ((l5 * (60 : Int32)) + l6)
            have hg72 : (0 ≤ ((l5 * (60 : Int32)) + l6) ∧ ((l5 * (60 : Int32)) + l6).toNatClampNeg < 186000) := i_ix (by omega) (by omega)
            refine ⟨hg72, ?_⟩
            try have e21 : (l2 + (1 : Int32)).toInt = l2.toInt + 1 := i_addk rfl (by omega) (by omega)
            have hV73 : zV (ma_u m 108 ((l5 * (60 : Int32)) + l6).toNatClampNeg (-1 : Int32)) := ua_108 hV
            have b74 := i_bd l3
            have b75 := i_bd l4
            first | have e76 : (l6 + (1 : Int32)).toInt = l6.toInt + (1) := i_addk rfl (by omega) (by omega) | have b77 := i_bd (l6 + (1 : Int32))
            exact IH (61 - (l6 + (1 : Int32)).toInt).toNat (by omega) _ (l2) (l3) (l4) (l5) ((l6 + (1 : Int32))) rfl (zF_u hF rfl) hV73 (by omega) (by omega) (by omega) (by omega) (by omega) (by omega) (by omega) (by omega) (by omega) (by omega) (by omega) (show (m 94 10).toInt = 2 ∧ (m 94 58).toInt = 0 from by omega) (show (m 94 8).toInt = 1 from by omega) (show (m 94 46).toInt ≤ 511 from by omega) r_L2n r_L3r r_PLq (show (m 102 l5.toNatClampNeg).toInt = l2.toInt from by omega) r_USn r_GUp r_OW r_GG r_QIb (show qNs (m 99) (m 100) (m 98) (m 101) (m 102) (m 103) (m 107) ((ma_u m 108 ((l5 * (60 : Int32)) + l6).toNatClampNeg (-1 : Int32)) 108) (m 109) (m 111) (m 112) (m 113) (m 114) (m 94 55) (m 94 46) ro 0 0 0 1 (hFt aa (nn + (1 : Int32)) l4) l5.toNatClampNeg (m 94 46) kk nn l4 from by first | (exact NS_h r_NS (fun _ _ => rfl) (fun _ _ => rfl) (fun t ht hne i hi => (zrf_oth (ix_word (by omega) (by omega) (by omega) (by omega)) (by rw [tn_eq]; omega) (fun t ht => (ra_102 hV ht).2)) t i hne ht hi)) | (exfalso; omega; done) | (exfalso; contradiction; done)) r_MGz r_MKb r_WTz r_BTS r_N6 r_Q0 (show zWn (m 94 7) (m 98) (m 101) (m 102) ((ma_u m 108 ((l5 * (60 : Int32)) + l6).toNatClampNeg (-1 : Int32)) 108) l5.toNatClampNeg (l6 + (1 : Int32)).toNatClampNeg from by first | (exact Wn_put r_WN (zrf_oth (ix_word (by omega) (by omega) (by omega) (by omega)) (by rw [tn_eq]; omega) (fun t ht => (ra_102 hV ht).2)) (zrf_bef (ix_word (by omega) (by omega) (by omega) (by omega))) (zrf_m1 (ix_word (by omega) (by omega) (by omega) (by omega)) rfl) (tn_succ (by omega) (by omega))) | (exact Wn_put r_WN (zrf_oth (ix_word (by omega) (by omega) (by omega) (by omega)) (by rw [tn_eq]; omega) (fun t ht => (ra_102 hV ht).2)) (zrf_bef (ix_word (by omega) (by omega) (by omega) (by omega))) (zrf_nr rfl (by omega) (by assumption) (fun z => by first | exact absurd (Int32.lt_iff_toInt_lt.mp z.1) (by omega) | exact absurd z.2 (by assumption))) (tn_succ (by omega) (by omega))) | (exfalso; omega; done) | (exfalso; contradiction; done)) r_GW r_COs r_HOs r_WIs r_HVs r_HLb
          · skip
            have g78 := i_ne h65
            have li79 : (60 : Int32).toInt = 60 := rfl
            first | have e80 : (l5 * (60 : Int32)).toInt = l5.toInt * 60 := i_mulk rfl (by omega) (by omega) | have b81 := i_bd (l5 * (60 : Int32))
            first | have e82 : ((l5 * (60 : Int32)) + l6).toInt = (l5 * (60 : Int32)).toInt + l6.toInt := i_add (by omega) (by omega) | have b83 := i_bd ((l5 * (60 : Int32)) + l6)
            have hg84 : (0 ≤ ((l5 * (60 : Int32)) + l6) ∧ ((l5 * (60 : Int32)) + l6).toNatClampNeg < 186000) := i_ix (by omega) (by omega)
            refine ⟨hg84, ?_⟩
            try have e21 : (l2 + (1 : Int32)).toInt = l2.toInt + 1 := i_addk rfl (by omega) (by omega)
            have hV85 : zV (ma_u m 108 ((l5 * (60 : Int32)) + l6).toNatClampNeg (0 : Int32)) := ua_108 hV
            have b86 := i_bd l3
            have b87 := i_bd l4
            first | have e88 : (l6 + (1 : Int32)).toInt = l6.toInt + (1) := i_addk rfl (by omega) (by omega) | have b89 := i_bd (l6 + (1 : Int32))
            exact IH (61 - (l6 + (1 : Int32)).toInt).toNat (by omega) _ (l2) (l3) (l4) (l5) ((l6 + (1 : Int32))) rfl (zF_u hF rfl) hV85 (by omega) (by omega) (by omega) (by omega) (by omega) (by omega) (by omega) (by omega) (by omega) (by omega) (by omega) (show (m 94 10).toInt = 2 ∧ (m 94 58).toInt = 0 from by omega) (show (m 94 8).toInt = 1 from by omega) (show (m 94 46).toInt ≤ 511 from by omega) r_L2n r_L3r r_PLq (show (m 102 l5.toNatClampNeg).toInt = l2.toInt from by omega) r_USn r_GUp r_OW r_GG r_QIb (show qNs (m 99) (m 100) (m 98) (m 101) (m 102) (m 103) (m 107) ((ma_u m 108 ((l5 * (60 : Int32)) + l6).toNatClampNeg (0 : Int32)) 108) (m 109) (m 111) (m 112) (m 113) (m 114) (m 94 55) (m 94 46) ro 0 0 0 1 (hFt aa (nn + (1 : Int32)) l4) l5.toNatClampNeg (m 94 46) kk nn l4 from by first | (exact NS_h r_NS (fun _ _ => rfl) (fun _ _ => rfl) (fun t ht hne i hi => (zrf_oth (ix_word (by omega) (by omega) (by omega) (by omega)) (by rw [tn_eq]; omega) (fun t ht => (ra_102 hV ht).2)) t i hne ht hi)) | (exfalso; omega; done) | (exfalso; contradiction; done)) r_MGz r_MKb r_WTz r_BTS r_N6 r_Q0 (show zWn (m 94 7) (m 98) (m 101) (m 102) ((ma_u m 108 ((l5 * (60 : Int32)) + l6).toNatClampNeg (0 : Int32)) 108) l5.toNatClampNeg (l6 + (1 : Int32)).toNatClampNeg from by first | (exact Wn_put r_WN (zrf_oth (ix_word (by omega) (by omega) (by omega) (by omega)) (by rw [tn_eq]; omega) (fun t ht => (ra_102 hV ht).2)) (zrf_bef (ix_word (by omega) (by omega) (by omega) (by omega))) (zrf_m1 (ix_word (by omega) (by omega) (by omega) (by omega)) rfl) (tn_succ (by omega) (by omega))) | (exact Wn_put r_WN (zrf_oth (ix_word (by omega) (by omega) (by omega) (by omega)) (by rw [tn_eq]; omega) (fun t ht => (ra_102 hV ht).2)) (zrf_bef (ix_word (by omega) (by omega) (by omega) (by omega))) (zrf_nr rfl (by omega) (by assumption) (fun z => by first | exact absurd (Int32.lt_iff_toInt_lt.mp z.1) (by omega) | exact absurd z.2 (by assumption))) (tn_succ (by omega) (by omega))) | (exfalso; omega; done) | (exfalso; contradiction; done)) r_GW r_COs r_HOs r_WIs r_HVs r_HLb
set_option maxHeartbeats 8000000 in
theorem lp_183rv_123 {X : Nat × (Nat → Int32)} {P : Option ma_V → (Nat → Nat → Int32) → Prop} {T : Nat} {aa : Nat→Nat→Int32} {ro : Int32} {LL : Int64} {kk : Int32} {nn : Int32} {r1 : Int32} {m0 : Nat → Nat → Int32} (h0 : zV m0) (K : ∀ v m₉, zF wr_183 m0 m₉ → zV m₉ → (zW (m₉ 94 7) (m₉ 98) (m₉ 101) (m₉ 102) (m₉ 108)) → (zGW (T + 1) (m₉ 94 55) (m₉ 109)) → (zGU (T + 1) (m₉ 94 46) (m₉ 99)) → (zOw (m₉ 99) (m₉ 103) (m₉ 111)) → (zGG (m₉ 94 58) (m₉ 94 56) (m₉ 94 57) (m₉ 106)) → (qRB (m₉ 99) (m₉ 100) (m₉ 98) (m₉ 101) (m₉ 102) (m₉ 103) (m₉ 107) (m₉ 108) (m₉ 109) (m₉ 111) (m₉ 112) (m₉ 113) (m₉ 114) (m₉ 94 55) (m₉ 94 46) ro 0 0 0 1 (hMk aa kk nn LL r1)) → (qMG (m₉ 94 58) (m₉ 106) (m₉ 115) (m₉ 94 57) (m₉ 94 56) (m₉ 99) (m₉ 100) (hMk aa kk nn LL r1)) → ((hMk aa kk nn LL r1) 87 8 = (m₉ 94 58)) → ((m₉ 94 45).toInt = sm (zbU (m₉ 99)) (m₉ 102) 3100) → ((m₉ 94 58).toInt = 0) → (v = hMn aa nn) → (qHv (hMk aa kk nn LL r1)) → (qHL (hMk aa kk nn LL r1) (m₉ 94 11) (m₉ 94 61) (m₉ 94 59)) → P (some (.inl v)) m₉) : ∀ (n : Nat) (m : Nat → Nat → Int32) (l2 : Int32) (l3 : Int32) (l4 : Int32) (l5 : Int32), ((0 : Int)).toNat = n → zF wr_183 m0 m → zV m → (l2.toInt = nn.toInt) → (0 ≤ l2.toInt) → (l2.toInt ≤ 60) → (0 ≤ l3.toInt) → (l3.toInt ≤ 15) → (0 ≤ l4.toInt) → (l4.toInt ≤ 3000) → (0 ≤ l5.toInt) → (l5.toInt ≤ 3099) → (T + 1 ≤ 512) → ((m 94 10).toInt = 2 ∧ (m 94 58).toInt = 0) → ((m 94 8).toInt = 1) → ((m 94 46).toInt ≤ 511) → (l2 = nn) → (l3 = r1) → (qEq l4.toInt (hRp aa (nn + (1 : Int32)).toInt)) → ((m 102 l5.toNatClampNeg).toInt = l2.toInt) → ((m 99) l5.toNatClampNeg ≠ 0) → (zGUp T (m 94 46) (m 99)) → (zOw (m 99) (m 103) (m 111)) → (zGG (m 94 58) (m 94 56) (m 94 57) (m 106)) → (qI (hFt aa (nn + (1 : Int32)) l4)) → (qNs (m 99) (m 100) (m 98) (m 101) (m 102) (m 103) (m 107) (m 108) (m 109) (m 111) (m 112) (m 113) (m 114) (m 94 55) (m 94 46) ro 0 0 0 1 (hFt aa (nn + (1 : Int32)) l4) l5.toNatClampNeg (m 94 46) kk nn l4) → (qMG (m 94 58) (m 106) (m 115) (m 94 57) (m 94 56) (zmk (m 99) l5.toNatClampNeg) (m 100) (hFt aa (nn + (1 : Int32)) l4)) → ((hFt aa (nn + (1 : Int32)) l4) 87 8 = (m 94 58)) → ((m 94 45).toInt = sm (zbU (zmk (m 99) l5.toNatClampNeg)) (m 102) 3100) → (∀ j : Nat, (j : Int) < nn.toInt → (zbit LL (Int32.ofNat j) ≠ 0 ↔ (kk = 16 ∨ (kk < 16 ∧ (((m 98) kk.toNatClampNeg >>> (Int32.ofNat j &&& 31)) &&& 1) = 1)))) → ((aa 69 6).toInt < 512) → (aa 87 2 = 0) → (zWn (m 94 7) (m 98) (m 101) (m 102) (m 108) l5.toNatClampNeg (0 : Int32).toNatClampNeg) → (zGW T (m 94 55) (m 109)) → (qCo (m 94 58) (m 106) l5.toNatClampNeg) → (qHv (hRs aa (nn + (1 : Int32)).toInt)) → (qHL (hFt aa (nn + (1 : Int32)) l4) (m 94 11) (m 94 61) (m 94 59)) → zm X 9 198 183 123 [(0, .inr (.inr (some 94))), (2, .inl l2), (3, .inl l3), (4, .inl l4), (5, .inl l5)] m P := by
  intro n
  induction n using Nat.strongRecOn with
  | _ n IH =>
    intro m l2 l3 l4 l5 hmu hF hV hi0 hi1 hi2 hi3 hi4 hi5 hi6 hi7 hi8 hi9 hi10 hi11 hi12 r_L2n r_L3r r_PLq hi16 r_USn r_GUp r_OW r_GG r_QIb r_NS r_MGz r_MKb r_WTz r_BTS r_N6 r_Q0 r_WN r_GW r_COs r_HVs r_HLb
    refine g_183_123 l2 l3 l4 l5 ?_
    have f1 : 0 ≤ (m 94 10).toInt ∧ (m 94 10).toInt ≤ 6 := rs_94_10 (m := m) hV
    have f2 : 0 ≤ (m 94 58).toInt ∧ (m 94 58).toInt ≤ 1 := rs_94_58 (m := m) hV
    have f3 : 0 ≤ (m 94 8).toInt ∧ (m 94 8).toInt ≤ 1 := rs_94_8 (m := m) hV
    have f4 : 0 ≤ (m 94 46).toInt ∧ (m 94 46).toInt ≤ 100000 := rs_94_46 (m := m) hV
    have b5 := i_bd l5
    first | have f6 : 0 ≤ (m 102 l5.toNatClampNeg).toInt ∧ (m 102 l5.toNatClampNeg).toInt ≤ 60 := ra_102 (m := m) hV (k := l5.toNatClampNeg) (i_ix (n := 3100) (by omega) (by omega)).2 | have b7 := i_bd (m 102 l5.toNatClampNeg)
    have hg8 : (0 ≤ l5 ∧ l5.toNatClampNeg < 3100) := i_ix (by omega) (by omega)
    refine ⟨hg8, ?_⟩
    have hg9 : (0 ≤ l5 ∧ l5.toNatClampNeg < 3100) := i_ix (by omega) (by omega)
    refine ⟨hg9, ?_⟩
    try have e21 : (l2 + (1 : Int32)).toInt = l2.toInt + 1 := i_addk rfl (by omega) (by omega)
    have hV10 : zV (ma_u m 107 l5.toNatClampNeg (0 : Int32)) := ua_107 hV
    have li12 : (0 : Int32).toInt = 0 := rfl
    have hV11 : zV (ma_u (ma_u m 107 l5.toNatClampNeg (0 : Int32)) 109 l5.toNatClampNeg (0 : Int32)) := ua_109 hV10 (by omega) (by omega)
    have b13 := i_bd l2
    have b14 := i_bd l3
    have b15 := i_bd l4
    exact lp_183rv_142 (kk := kk) (nn := nn) (r1 := r1) h0 K _ _ (l2) (l3) (l4) (l5) ((0 : Int32)) rfl (zF_u (zF_u hF rfl) rfl) hV11 (by omega) (by omega) (by omega) (by omega) (by omega) (by omega) (by omega) (by omega) (by omega) (by omega) (by omega) (show (m 94 10).toInt = 2 ∧ (m 94 58).toInt = 0 from by omega) (show (m 94 8).toInt = 1 from by omega) (show (m 94 46).toInt ≤ 511 from by omega) r_L2n r_L3r r_PLq (show (m 102 l5.toNatClampNeg).toInt = l2.toInt from by omega) r_USn r_GUp r_OW r_GG r_QIb (show qNs (m 99) (m 100) (m 98) (m 101) (m 102) (m 103) ((ma_u m 107 l5.toNatClampNeg (0 : Int32)) 107) (m 108) ((ma_u m 109 l5.toNatClampNeg (0 : Int32)) 109) (m 111) (m 112) (m 113) (m 114) (m 94 55) (m 94 46) ro 0 0 0 1 (hFt aa (nn + (1 : Int32)) l4) l5.toNatClampNeg (m 94 46) kk nn l4 from by first | (exact NS_h r_NS (fun t ht => mu_ne ht) (fun t ht => mu_ne ht) (fun _ _ _ _ _ => rfl)) | (exfalso; omega; done) | (exfalso; contradiction; done)) r_MGz r_MKb r_WTz r_BTS r_N6 r_Q0 r_WN (show zGW (T + 1) (m 94 55) ((ma_u m 109 l5.toNatClampNeg (0 : Int32)) 109) from by first | (exact GW_up (GW_0 r_GW) (by omega)) | (exfalso; omega; done) | (exfalso; contradiction; done)) r_COs (show ((ma_u m 107 l5.toNatClampNeg (0 : Int32)) 107) l5.toNatClampNeg = 0 from by first | (exact mu_self) | (exfalso; omega; done) | (exfalso; contradiction; done)) (show ((ma_u m 109 l5.toNatClampNeg (0 : Int32)) 109) l5.toNatClampNeg = 0 from by first | (exact mu_self) | (exfalso; omega; done) | (exfalso; contradiction; done)) r_HVs r_HLb
set_option maxHeartbeats 8000000 in
theorem lp_183rv_88 {X : Nat × (Nat → Int32)} {P : Option ma_V → (Nat → Nat → Int32) → Prop} {T : Nat} {aa : Nat→Nat→Int32} {ro : Int32} {LL : Int64} {kk : Int32} {nn : Int32} {r1 : Int32} {m0 : Nat → Nat → Int32} (h0 : zV m0) (K : ∀ v m₉, zF wr_183 m0 m₉ → zV m₉ → (zW (m₉ 94 7) (m₉ 98) (m₉ 101) (m₉ 102) (m₉ 108)) → (zGW (T + 1) (m₉ 94 55) (m₉ 109)) → (zGU (T + 1) (m₉ 94 46) (m₉ 99)) → (zOw (m₉ 99) (m₉ 103) (m₉ 111)) → (zGG (m₉ 94 58) (m₉ 94 56) (m₉ 94 57) (m₉ 106)) → (qRB (m₉ 99) (m₉ 100) (m₉ 98) (m₉ 101) (m₉ 102) (m₉ 103) (m₉ 107) (m₉ 108) (m₉ 109) (m₉ 111) (m₉ 112) (m₉ 113) (m₉ 114) (m₉ 94 55) (m₉ 94 46) ro 0 0 0 1 (hMk aa kk nn LL r1)) → (qMG (m₉ 94 58) (m₉ 106) (m₉ 115) (m₉ 94 57) (m₉ 94 56) (m₉ 99) (m₉ 100) (hMk aa kk nn LL r1)) → ((hMk aa kk nn LL r1) 87 8 = (m₉ 94 58)) → ((m₉ 94 45).toInt = sm (zbU (m₉ 99)) (m₉ 102) 3100) → ((m₉ 94 58).toInt = 0) → (v = hMn aa nn) → (qHv (hMk aa kk nn LL r1)) → (qHL (hMk aa kk nn LL r1) (m₉ 94 11) (m₉ 94 61) (m₉ 94 59)) → P (some (.inl v)) m₉) : ∀ (n : Nat) (m : Nat → Nat → Int32) (l2 : Int32) (l3 : Int32) (l4 : Int32) (l5 : Int32), ((0 : Int)).toNat = n → zF wr_183 m0 m → zV m → (l2.toInt = nn.toInt) → (0 ≤ l2.toInt) → (l2.toInt ≤ 60) → (0 ≤ l3.toInt) → (l3.toInt ≤ 15) → (0 ≤ l4.toInt) → (l4.toInt ≤ 3000) → (0 ≤ l5.toInt) → (l5.toInt ≤ 3099) → (T + 1 ≤ 512) → ((m 94 10).toInt = 2 ∧ (m 94 58).toInt = 0) → ((m 94 8).toInt = 1) → ((m 94 46).toInt ≤ 511) → (l2 = nn) → (l3 = r1) → (qEq l4.toInt (hRp aa (nn + (1 : Int32)).toInt)) → ((m 102 l5.toNatClampNeg).toInt = l2.toInt) → ((m 99) l5.toNatClampNeg ≠ 0) → (zGUp T (m 94 46) (m 99)) → (zOw (m 99) (m 103) (m 111)) → (zGG (m 94 58) (m 94 56) (m 94 57) (m 106)) → (qI (hFt aa (nn + (1 : Int32)) l4)) → (qNs (m 99) (m 100) (m 98) (m 101) (m 102) (m 103) (m 107) (m 108) (m 109) (m 111) (m 112) (m 113) (m 114) (m 94 55) (m 94 46) ro 0 0 0 1 (hFt aa (nn + (1 : Int32)) l4) l5.toNatClampNeg (m 94 46) kk nn l4) → (qMG (m 94 58) (m 106) (m 115) (m 94 57) (m 94 56) (zmk (m 99) l5.toNatClampNeg) (m 100) (hFt aa (nn + (1 : Int32)) l4)) → ((hFt aa (nn + (1 : Int32)) l4) 87 8 = (m 94 58)) → ((m 94 45).toInt = sm (zbU (zmk (m 99) l5.toNatClampNeg)) (m 102) 3100) → (∀ j : Nat, (j : Int) < nn.toInt → (zbit LL (Int32.ofNat j) ≠ 0 ↔ (kk = 16 ∨ (kk < 16 ∧ (((m 98) kk.toNatClampNeg >>> (Int32.ofNat j &&& 31)) &&& 1) = 1)))) → ((aa 69 6).toInt < 512) → (aa 87 2 = 0) → (zWn (m 94 7) (m 98) (m 101) (m 102) (m 108) l5.toNatClampNeg (0 : Int32).toNatClampNeg) → (zGW T (m 94 55) (m 109)) → (qHv (hRs aa (nn + (1 : Int32)).toInt)) → (qHL (hFt aa (nn + (1 : Int32)) l4) (m 94 11) (m 94 61) (m 94 59)) → zm X 9 198 183 88 [(0, .inr (.inr (some 94))), (2, .inl l2), (3, .inl l3), (4, .inl l4), (5, .inl l5)] m P := by
  intro n
  induction n using Nat.strongRecOn with
  | _ n IH =>
    intro m l2 l3 l4 l5 hmu hF hV hi0 hi1 hi2 hi3 hi4 hi5 hi6 hi7 hi8 hi9 hi10 hi11 hi12 r_L2n r_L3r r_PLq hi16 r_USn r_GUp r_OW r_GG r_QIb r_NS r_MGz r_MKb r_WTz r_BTS r_N6 r_Q0 r_WN r_GW r_HVs r_HLb
    refine g_183_88 l2 l3 l4 l5 ?_
    have f1 : 0 ≤ (m 94 10).toInt ∧ (m 94 10).toInt ≤ 6 := rs_94_10 (m := m) hV
    have f2 : 0 ≤ (m 94 58).toInt ∧ (m 94 58).toInt ≤ 1 := rs_94_58 (m := m) hV
    have f3 : 0 ≤ (m 94 8).toInt ∧ (m 94 8).toInt ≤ 1 := rs_94_8 (m := m) hV
    have f4 : 0 ≤ (m 94 46).toInt ∧ (m 94 46).toInt ≤ 100000 := rs_94_46 (m := m) hV
    have b5 := i_bd l5
    first | have f6 : 0 ≤ (m 102 l5.toNatClampNeg).toInt ∧ (m 102 l5.toNatClampNeg).toInt ≤ 60 := ra_102 (m := m) hV (k := l5.toNatClampNeg) (i_ix (n := 3100) (by omega) (by omega)).2 | have b7 := i_bd (m 102 l5.toNatClampNeg)
    have hg8 : (0 ≤ l5 ∧ l5.toNatClampNeg < 3100) := i_ix (by omega) (by omega)
    refine ⟨hg8, ?_⟩
    have hg9 : (0 ≤ l5 ∧ l5.toNatClampNeg < 3100) := i_ix (by omega) (by omega)
    refine ⟨hg9, ?_⟩
    have li10 : (0 : Int32).toInt = 0 := rfl
    refine zd (fun (h11 : (m 94 58) = (0 : Int32)) => ?_) (fun (h11 : ¬ (m 94 58) = (0 : Int32)) => ?_)
    · skip
      have g12 := i_eq h11
      have hg13 : (0 ≤ l5 ∧ l5.toNatClampNeg < 3100) := i_ix (by omega) (by omega)
      refine ⟨hg13, ?_⟩
      try have e21 : (l2 + (1 : Int32)).toInt = l2.toInt + 1 := i_addk rfl (by omega) (by omega)
      have hV14 : zV (ma_u m 104 l5.toNatClampNeg (0 : Int32)) := ua_104 hV
      have hV15 : zV (ma_u (ma_u m 104 l5.toNatClampNeg (0 : Int32)) 105 l5.toNatClampNeg (0 : Int32)) := ua_105 hV14
      have hV16 : zV (ma_u (ma_u (ma_u m 104 l5.toNatClampNeg (0 : Int32)) 105 l5.toNatClampNeg (0 : Int32)) 106 l5.toNatClampNeg (0 : Int32)) := ua_106 hV15
      have b17 := i_bd l2
      have b18 := i_bd l3
      have b19 := i_bd l4
      exact lp_183rv_123 (kk := kk) (nn := nn) (r1 := r1) h0 K _ _ (l2) (l3) (l4) (l5) rfl (zF_u (zF_u (zF_u hF rfl) rfl) rfl) hV16 (by omega) (by omega) (by omega) (by omega) (by omega) (by omega) (by omega) (by omega) (by omega) (by omega) (show (m 94 10).toInt = 2 ∧ (m 94 58).toInt = 0 from by omega) (show (m 94 8).toInt = 1 from by omega) (show (m 94 46).toInt ≤ 511 from by omega) r_L2n r_L3r r_PLq (show (m 102 l5.toNatClampNeg).toInt = l2.toInt from by omega) r_USn r_GUp r_OW (show zGG (m 94 58) (m 94 56) (m 94 57) ((ma_u m 106 l5.toNatClampNeg (0 : Int32)) 106) from by first | (exact fun z => G1_dark0 (r_GG z) (by decide)) | (exact fun z => absurd z (by omega)) | (exact fun z => absurd z (by decide)) | (exact fun z => absurd z (by omega)) | (exfalso; omega; done) | (exfalso; contradiction; done)) r_QIb r_NS (show qMG (m 94 58) ((ma_u m 106 l5.toNatClampNeg (0 : Int32)) 106) (m 115) (m 94 57) (m 94 56) (zmk (m 99) l5.toNatClampNeg) (m 100) (hFt aa (nn + (1 : Int32)) l4) from by first | (exact MG_1 r_MGz (fun t ht => mu_ne ht)) | (exfalso; omega; done) | (exfalso; contradiction; done)) r_MKb r_WTz r_BTS r_N6 r_Q0 r_WN r_GW (show qCo (m 94 58) ((ma_u m 106 l5.toNatClampNeg (0 : Int32)) 106) l5.toNatClampNeg from by first | (exact fun z => absurd (by omega) z) | (exact fun _ => mu_self) | (exfalso; omega; done) | (exfalso; contradiction; done)) r_HVs r_HLb
    · skip
      have g20 := i_ne h11
      have hg21 : (0 ≤ l5 ∧ l5.toNatClampNeg < 3100) := i_ix (by omega) (by omega)
      refine ⟨hg21, ?_⟩
      try have e21 : (l2 + (1 : Int32)).toInt = l2.toInt + 1 := i_addk rfl (by omega) (by omega)
      have hV22 : zV (ma_u m 104 l5.toNatClampNeg (0 : Int32)) := ua_104 hV
      have hV23 : zV (ma_u (ma_u m 104 l5.toNatClampNeg (0 : Int32)) 105 l5.toNatClampNeg (0 : Int32)) := ua_105 hV22
      have hV24 : zV (ma_u (ma_u (ma_u m 104 l5.toNatClampNeg (0 : Int32)) 105 l5.toNatClampNeg (0 : Int32)) 106 l5.toNatClampNeg (2 : Int32)) := ua_106 hV23
      have b25 := i_bd l2
      have b26 := i_bd l3
      have b27 := i_bd l4
      exact lp_183rv_123 (kk := kk) (nn := nn) (r1 := r1) h0 K _ _ (l2) (l3) (l4) (l5) rfl (zF_u (zF_u (zF_u hF rfl) rfl) rfl) hV24 (by omega) (by omega) (by omega) (by omega) (by omega) (by omega) (by omega) (by omega) (by omega) (by omega) (show (m 94 10).toInt = 2 ∧ (m 94 58).toInt = 0 from by omega) (show (m 94 8).toInt = 1 from by omega) (show (m 94 46).toInt ≤ 511 from by omega) r_L2n r_L3r r_PLq (show (m 102 l5.toNatClampNeg).toInt = l2.toInt from by omega) r_USn r_GUp r_OW (show zGG (m 94 58) (m 94 56) (m 94 57) ((ma_u m 106 l5.toNatClampNeg (2 : Int32)) 106) from by first | (exact fun z => G1_dark0 (r_GG z) (by decide)) | (exact fun z => absurd z (by omega)) | (exact fun z => absurd z (by decide)) | (exact fun z => absurd z (by omega)) | (exfalso; omega; done) | (exfalso; contradiction; done)) r_QIb r_NS (show qMG (m 94 58) ((ma_u m 106 l5.toNatClampNeg (2 : Int32)) 106) (m 115) (m 94 57) (m 94 56) (zmk (m 99) l5.toNatClampNeg) (m 100) (hFt aa (nn + (1 : Int32)) l4) from by first | (exact MG_1 r_MGz (fun t ht => mu_ne ht)) | (exfalso; omega; done) | (exfalso; contradiction; done)) r_MKb r_WTz r_BTS r_N6 r_Q0 r_WN r_GW (show qCo (m 94 58) ((ma_u m 106 l5.toNatClampNeg (2 : Int32)) 106) l5.toNatClampNeg from by first | (exact fun z => absurd (by omega) z) | (exact fun _ => mu_self) | (exfalso; omega; done) | (exfalso; contradiction; done)) r_HVs r_HLb
set_option maxHeartbeats 8000000 in
theorem lp_183rv_19 {X : Nat × (Nat → Int32)} {P : Option ma_V → (Nat → Nat → Int32) → Prop} {T : Nat} {aa : Nat→Nat→Int32} {ro : Int32} {LL : Int64} {kk : Int32} {nn : Int32} {r1 : Int32} {m0 : Nat → Nat → Int32} (h0 : zV m0) (K : ∀ v m₉, zF wr_183 m0 m₉ → zV m₉ → (zW (m₉ 94 7) (m₉ 98) (m₉ 101) (m₉ 102) (m₉ 108)) → (zGW (T + 1) (m₉ 94 55) (m₉ 109)) → (zGU (T + 1) (m₉ 94 46) (m₉ 99)) → (zOw (m₉ 99) (m₉ 103) (m₉ 111)) → (zGG (m₉ 94 58) (m₉ 94 56) (m₉ 94 57) (m₉ 106)) → (qRB (m₉ 99) (m₉ 100) (m₉ 98) (m₉ 101) (m₉ 102) (m₉ 103) (m₉ 107) (m₉ 108) (m₉ 109) (m₉ 111) (m₉ 112) (m₉ 113) (m₉ 114) (m₉ 94 55) (m₉ 94 46) ro 0 0 0 1 (hMk aa kk nn LL r1)) → (qMG (m₉ 94 58) (m₉ 106) (m₉ 115) (m₉ 94 57) (m₉ 94 56) (m₉ 99) (m₉ 100) (hMk aa kk nn LL r1)) → ((hMk aa kk nn LL r1) 87 8 = (m₉ 94 58)) → ((m₉ 94 45).toInt = sm (zbU (m₉ 99)) (m₉ 102) 3100) → ((m₉ 94 58).toInt = 0) → (v = hMn aa nn) → (qHv (hMk aa kk nn LL r1)) → (qHL (hMk aa kk nn LL r1) (m₉ 94 11) (m₉ 94 61) (m₉ 94 59)) → P (some (.inl v)) m₉) : ∀ (n : Nat) (m : Nat → Nat → Int32) (l1 : Int32) (l2 : Int32) (l3 : Int32) (l4 : Int32) (l5 : Int32), (3100 - l5.toInt).toNat = n → zF wr_183 m0 m → zV m → (l2.toInt = nn.toInt) → (0 ≤ l5.toInt) → (l5.toInt ≤ 3100) → (0 ≤ l4.toInt) → (l4.toInt ≤ 3000) → (0 ≤ l2.toInt) → (l2.toInt ≤ 60) → (0 ≤ l3.toInt) → (l3.toInt ≤ 15) → (0 ≤ l1.toInt) → (l1.toInt ≤ 17) → (T + 1 ≤ 512) → (16 ≤ l1.toInt ∨ l1.toInt < (m 94 7).toInt) → (zW (m 94 7) (m 98) (m 101) (m 102) (m 108)) → (zGW T (m 94 55) (m 109)) → (zGU T (m 94 46) (m 99)) → (zOw (m 99) (m 103) (m 111)) → (zGG (m 94 58) (m 94 56) (m 94 57) (m 106)) → ((m 94 10).toInt = 2 ∧ (m 94 58).toInt = 0) → ((m 94 8).toInt = 1) → (qRB (m 99) (m 100) (m 98) (m 101) (m 102) (m 103) (m 107) (m 108) (m 109) (m 111) (m 112) (m 113) (m 114) (m 94 55) (m 94 46) ro 0 0 0 1 (hFt aa (nn + (1 : Int32)) l4)) → (qI (hFt aa (nn + (1 : Int32)) l4)) → (qMG (m 94 58) (m 106) (m 115) (m 94 57) (m 94 56) (m 99) (m 100) (hFt aa (nn + (1 : Int32)) l4)) → ((hFt aa (nn + (1 : Int32)) l4) 87 8 = (m 94 58)) → ((m 94 45).toInt = sm (zbU (m 99)) (m 102) 3100) → (∀ j : Nat, (j : Int) < l5.toInt → (m 99) j ≠ 0) → (l1 = kk) → (l2 = nn) → (l3 = r1) → (qEq l4.toInt (hRp aa (nn + (1 : Int32)).toInt)) → (∀ j : Nat, (j : Int) < nn.toInt → (zbit LL (Int32.ofNat j) ≠ 0 ↔ (kk = 16 ∨ (kk < 16 ∧ (((m 98) kk.toNatClampNeg >>> (Int32.ofNat j &&& 31)) &&& 1) = 1)))) → ((aa 69 6).toInt < 512) → (aa 87 2 = 0) → (qHv (hRs aa (nn + (1 : Int32)).toInt)) → (qHL (hFt aa (nn + (1 : Int32)) l4) (m 94 11) (m 94 61) (m 94 59)) → zm X 9 198 183 19 [(0, .inr (.inr (some 94))), (1, .inl l1), (2, .inl l2), (3, .inl l3), (4, .inl l4), (5, .inl l5)] m P := by
  intro n
  induction n using Nat.strongRecOn with
  | _ n IH =>
    intro m l1 l2 l3 l4 l5 hmu hF hV hi0 hi1 hi2 hi3 hi4 hi5 hi6 hi7 hi8 hi9 hi10 hi11 hi12 r_W r_GW r_GU r_OW r_GG hi18 hi19 r_RB r_QI r_MG r_MK r_WTS r_AU r_L1k r_L2n r_L3r r_PLq r_BTS r_N6 r_Q0 r_HVs r_HLb
    refine g_183_19 l1 l2 l3 l4 l5 ?_
    have f1 : 0 ≤ (m 94 7).toInt ∧ (m 94 7).toInt ≤ 16 := rs_94_7 (m := m) hV
    have f2 : 0 ≤ (m 94 10).toInt ∧ (m 94 10).toInt ≤ 6 := rs_94_10 (m := m) hV
    have f3 : 0 ≤ (m 94 58).toInt ∧ (m 94 58).toInt ≤ 1 := rs_94_58 (m := m) hV
    have f4 : 0 ≤ (m 94 8).toInt ∧ (m 94 8).toInt ≤ 1 := rs_94_8 (m := m) hV
    have b5 := i_bd l5
    try have gk := AU_room r_AU r_GU (by omega)
    have hg6 : (0 ≤ l5 ∧ l5.toNatClampNeg < 3100) := i_ix (by omega) (by omega)
    refine ⟨hg6, ?_⟩
    first | have f7 : 0 ≤ (m 99 l5.toNatClampNeg).toInt ∧ (m 99 l5.toNatClampNeg).toInt ≤ 1 := ra_99 (m := m) hV (k := l5.toNatClampNeg) (i_ix (n := 3100) (by omega) (by omega)).2 | have b8 := i_bd (m 99 l5.toNatClampNeg)
    have li9 : (0 : Int32).toInt = 0 := rfl
    refine zd (fun (h10 : (m 99 l5.toNatClampNeg) = (0 : Int32)) => ?_) (fun (h10 : ¬ (m 99 l5.toNatClampNeg) = (0 : Int32)) => ?_)
    · skip
      have g11 := i_eq h10
      try have gk := AU_room r_AU r_GU (by omega)
      have hg12 : (0 ≤ l5 ∧ l5.toNatClampNeg < 3100) := i_ix (by omega) (by omega)
      refine ⟨hg12, ?_⟩
      have hg13 : (0 ≤ l5 ∧ l5.toNatClampNeg < 3100) := i_ix (by omega) (by omega)
      refine ⟨hg13, ?_⟩
      have hg14 : (0 ≤ l5 ∧ l5.toNatClampNeg < 3100) := i_ix (by omega) (by omega)
      refine ⟨hg14, ?_⟩
      have hg15 : (0 ≤ l5 ∧ l5.toNatClampNeg < 3100) := i_ix (by omega) (by omega)
      refine ⟨hg15, ?_⟩
      have hg16 : (0 ≤ l5 ∧ l5.toNatClampNeg < 3100) := i_ix (by omega) (by omega)
      refine ⟨hg16, ?_⟩
      have b17 := i_bd l4
      have hg18 : (0 ≤ l4 ∧ l4.toNatClampNeg < 4600) := i_ix (by omega) (by omega)
      refine ⟨hg18, ?_⟩
      try have gk := AU_room r_AU r_GU (by omega)
      try have e21 : (l2 + (1 : Int32)).toInt = l2.toInt + 1 := i_addk rfl (by omega) (by omega)
      try have gun := GU_nu r_GU
      have li20 : (1 : Int32).toInt = 1 := rfl
      have hV19 : zV (ma_u m 99 l5.toNatClampNeg (1 : Int32)) := ua_99 hV (by omega) (by omega)
      have f22 : 0 ≤ (m 94 46).toInt ∧ (m 94 46).toInt ≤ 100000 := rs_94_46 (m := m) hV
      have hV21 : zV (ma_u (ma_u m 99 l5.toNatClampNeg (1 : Int32)) 100 l5.toNatClampNeg (m 94 46)) := ua_100 hV19 (by omega) (by omega)
      have b24 := i_bd l1
      have hV23 : zV (ma_u (ma_u (ma_u m 99 l5.toNatClampNeg (1 : Int32)) 100 l5.toNatClampNeg (m 94 46)) 101 l5.toNatClampNeg l1) := ua_101 hV21 (by omega) (by omega)
      have b26 := i_bd l2
      have hV25 : zV (ma_u (ma_u (ma_u (ma_u m 99 l5.toNatClampNeg (1 : Int32)) 100 l5.toNatClampNeg (m 94 46)) 101 l5.toNatClampNeg l1) 102 l5.toNatClampNeg l2) := ua_102 hV23 (by omega) (by omega)
      have hV27 : zV (ma_u (ma_u (ma_u (ma_u (ma_u m 99 l5.toNatClampNeg (1 : Int32)) 100 l5.toNatClampNeg (m 94 46)) 101 l5.toNatClampNeg l1) 102 l5.toNatClampNeg l2) 103 l5.toNatClampNeg l4) := ua_103 hV25 (by omega) (by omega)
      have hV28 : zV (ma_u (ma_u (ma_u (ma_u (ma_u (ma_u m 99 l5.toNatClampNeg (1 : Int32)) 100 l5.toNatClampNeg (m 94 46)) 101 l5.toNatClampNeg l1) 102 l5.toNatClampNeg l2) 103 l5.toNatClampNeg l4) 111 l4.toNatClampNeg l5) := ua_111 hV27 (by omega) (by omega)
      have b29 := i_bd l3
      have q30 : ((ma_u m 102 l5.toNatClampNeg l2) 102 l5.toNatClampNeg).toInt = l2.toInt := congrArg Int32.toInt mu_self
      first | have f31 : 0 ≤ ((ma_u m 102 l5.toNatClampNeg l2) 102 l5.toNatClampNeg).toInt ∧ ((ma_u m 102 l5.toNatClampNeg l2) 102 l5.toNatClampNeg).toInt ≤ 60 := ra_102 (m := (ma_u (ma_u (ma_u (ma_u m 99 l5.toNatClampNeg (1 : Int32)) 100 l5.toNatClampNeg (m 94 46)) 101 l5.toNatClampNeg l1) 102 l5.toNatClampNeg l2)) hV25 (k := l5.toNatClampNeg) (i_ix (n := 3100) (by omega) (by omega)).2 | have b32 := i_bd ((ma_u m 102 l5.toNatClampNeg l2) 102 l5.toNatClampNeg)
      exact lp_183rv_88 (kk := kk) (nn := nn) (r1 := r1) h0 K _ _ (l2) (l3) (l4) (l5) rfl (zF_u (zF_u (zF_u (zF_u (zF_u (zF_u hF rfl) rfl) rfl) rfl) rfl) rfl) hV28 (by omega) (by omega) (by omega) (by omega) (by omega) (by omega) (by omega) (by omega) (by omega) (by omega) (show (m 94 10).toInt = 2 ∧ (m 94 58).toInt = 0 from by omega) (show (m 94 8).toInt = 1 from by omega) (show (m 94 46).toInt ≤ 511 from by omega) r_L2n r_L3r r_PLq (show ((ma_u m 102 l5.toNatClampNeg l2) 102 l5.toNatClampNeg).toInt = l2.toInt from by omega) (show ((ma_u m 99 l5.toNatClampNeg (1 : Int32)) 99) l5.toNatClampNeg ≠ 0 from by first | (rw [mu_self]; decide; done) | (exfalso; omega; done) | (exfalso; contradiction; done)) (show zGUp T (m 94 46) ((ma_u m 99 l5.toNatClampNeg (1 : Int32)) 99) from by first | (exact GUp_0 r_GU (by omega)) | (exfalso; omega; done) | (exfalso; contradiction; done)) (show zOw ((ma_u m 99 l5.toNatClampNeg (1 : Int32)) 99) ((ma_u m 103 l5.toNatClampNeg l4) 103) ((ma_u m 111 l4.toNatClampNeg l5) 111) from by first | (exact Ow_new r_OW (by assumption) (fun t ht => mu_ne ht) (by rw [mu_self]; decide) (fun t ht => mu_ne ht) mu_self (by omega) (fun t ht => mu_ne ht) (by rw [mu_self])) | (exact Ow_rm r_OW (by decide) (tn_cast (by omega)).symm) | (exfalso; omega; done) | (exfalso; contradiction; done)) r_GG (show qI (hFt aa (nn + (1 : Int32)) l4) from by first | (exact r_QI) | (exfalso; omega; done) | (exfalso; contradiction; done)) (show qNs ((ma_u m 99 l5.toNatClampNeg (1 : Int32)) 99) ((ma_u m 100 l5.toNatClampNeg (m 94 46)) 100) (m 98) ((ma_u m 101 l5.toNatClampNeg l1) 101) ((ma_u m 102 l5.toNatClampNeg l2) 102) ((ma_u m 103 l5.toNatClampNeg l4) 103) (m 107) (m 108) (m 109) ((ma_u m 111 l4.toNatClampNeg l5) 111) (m 112) (m 113) (m 114) (m 94 55) (m 94 46) ro 0 0 0 1 (hFt aa (nn + (1 : Int32)) l4) l5.toNatClampNeg (m 94 46) kk nn l4 from by first | (exact NS_0 r_RB r_QI (z := nn.toInt + 1) (by omega) (Ne_h r_HVs r_PLq (by omega) (by omega) (by omega) r_RB.2.2.2.2.2.2.2.1 (by have gun := GU_nu r_GU; omega)).2.2.2.2 (by assumption) (by rw [mu_self]; decide) (fun t ht => mu_ne ht) mu_self (fun t ht => mu_ne ht) (mu_self.trans r_L1k) (fun t ht => mu_ne ht) (mu_self.trans r_L2n) (fun t ht => mu_ne ht) mu_self (fun t ht => mu_ne ht) (mu_self.trans (ofN_tn (by omega)).symm) (fun t ht => mu_ne ht)) | (exfalso; omega; done) | (exfalso; contradiction; done)) (show qMG (m 94 58) (m 106) (m 115) (m 94 57) (m 94 56) (zmk ((ma_u m 99 l5.toNatClampNeg (1 : Int32)) 99) l5.toNatClampNeg) ((ma_u m 100 l5.toNatClampNeg (m 94 46)) 100) (hFt aa (nn + (1 : Int32)) l4) from by first | (exact MG_0 r_MG (by assumption) (fun t ht => mu_ne ht) (fun t ht => mu_ne ht) (fun _ _ => rfl)) | (exfalso; omega; done) | (exfalso; contradiction; done)) (show (hFt aa (nn + (1 : Int32)) l4) 87 8 = (m 94 58) from by first | (exact r_MK) | (exfalso; omega; done) | (exfalso; contradiction; done)) (show (m 94 45).toInt = sm (zbU (zmk ((ma_u m 99 l5.toNatClampNeg (1 : Int32)) 99) l5.toNatClampNeg)) ((ma_u m 102 l5.toNatClampNeg l2) 102) 3100 from by first | (exact WT_0 r_WTS (by assumption) (fun t ht => mu_ne ht) (fun t ht => mu_ne ht)) | (exfalso; omega; done) | (exfalso; contradiction; done)) r_BTS r_N6 r_Q0 (show zWn (m 94 7) (m 98) ((ma_u m 101 l5.toNatClampNeg l1) 101) ((ma_u m 102 l5.toNatClampNeg l2) 102) (m 108) l5.toNatClampNeg (0 : Int32).toNatClampNeg from by first | (exact Wn_0 r_W (fun t ht => mu_ne ht) (fun t ht => mu_ne ht) (by rw [mu_self]; assumption) rfl) | (exfalso; omega; done) | (exfalso; contradiction; done)) r_GW r_HVs r_HLb
    · skip
      have g33 := i_ne h10
      try have gk := AU_room r_AU r_GU (by omega)
      try have e21 : (l2 + (1 : Int32)).toInt = l2.toInt + 1 := i_addk rfl (by omega) (by omega)
      try have gun := GU_nu r_GU
      have b34 := i_bd l1
      have b35 := i_bd l2
      have b36 := i_bd l3
      have b37 := i_bd l4
      first | have e38 : (l5 + (1 : Int32)).toInt = l5.toInt + (1) := i_addk rfl (by omega) (by omega) | have b39 := i_bd (l5 + (1 : Int32))
      exact IH (3100 - (l5 + (1 : Int32)).toInt).toNat (by omega) _ (l1) (l2) (l3) (l4) ((l5 + (1 : Int32))) rfl hF hV (by omega) (by omega) (by omega) (by omega) (by omega) (by omega) (by omega) (by omega) (by omega) (by omega) (by omega) (by omega) (show 16 ≤ l1.toInt ∨ l1.toInt < (m 94 7).toInt from by omega) r_W r_GW r_GU r_OW r_GG (show (m 94 10).toInt = 2 ∧ (m 94 58).toInt = 0 from by omega) (show (m 94 8).toInt = 1 from by omega) r_RB r_QI r_MG r_MK r_WTS (show ∀ j : Nat, (j : Int) < (l5 + (1 : Int32)).toInt → (m 99) j ≠ 0 from by first | (exact AU_step r_AU (by omega) (by assumption) (by omega)) | (exfalso; omega; done) | (exfalso; contradiction; done)) r_L1k r_L2n r_L3r r_PLq r_BTS r_N6 r_Q0 r_HVs r_HLb
set_option maxHeartbeats 8000000 in
theorem sp_183rv {X : Nat × (Nat → Int32)} {P : Option ma_V → (Nat → Nat → Int32) → Prop} {T : Nat} {aa : Nat→Nat→Int32} {ro : Int32} {LL : Int64} {m : Nat → Nat → Int32} (kk : Int32) (nn : Int32) (r1 : Int32) (hV : zV m) (hpre0 : 0 ≤ nn.toInt) (hpre1 : nn.toInt ≤ 60) (hpre2 : 0 ≤ r1.toInt) (hpre3 : r1.toInt ≤ 15) (hpre4 : 0 ≤ kk.toInt) (hpre5 : kk.toInt ≤ 17) (hpre6 : T + 1 ≤ 512) (hpre7 : 16 ≤ kk.toInt ∨ kk.toInt < (m 94 7).toInt) (hpre8 : T ≤ 512) (r_W : zW (m 94 7) (m 98) (m 101) (m 102) (m 108)) (r_GW : zGW T (m 94 55) (m 109)) (r_GU : zGU T (m 94 46) (m 99)) (r_OW : zOw (m 99) (m 103) (m 111)) (r_GG : zGG (m 94 58) (m 94 56) (m 94 57) (m 106)) (hpre14 : (m 94 10).toInt = 2 ∧ (m 94 58).toInt = 0) (hpre15 : (m 94 8).toInt = 1) (r_RB : qRB (m 99) (m 100) (m 98) (m 101) (m 102) (m 103) (m 107) (m 108) (m 109) (m 111) (m 112) (m 113) (m 114) (m 94 55) (m 94 46) ro 0 0 0 1 aa) (r_HV : qHv aa) (r_HL : qHL aa (m 94 11) (m 94 61) (m 94 59)) (r_MG : qMG (m 94 58) (m 106) (m 115) (m 94 57) (m 94 56) (m 99) (m 100) aa) (r_MK : aa 87 8 = (m 94 58)) (r_WTS : (m 94 45).toInt = sm (zbU (m 99)) (m 102) 3100) (r_BTS : ∀ j : Nat, (j : Int) < nn.toInt → (zbit LL (Int32.ofNat j) ≠ 0 ↔ (kk = 16 ∨ (kk < 16 ∧ (((m 98) kk.toNatClampNeg >>> (Int32.ofNat j &&& 31)) &&& 1) = 1)))) (KZ : ∀ v m₉, zV (zov wr_183 m m₉) → (zW (m 94 7) (m 98) (m₉ 101) (m₉ 102) (m₉ 108)) → (zGW (T + 1) (m₉ 94 55) (m₉ 109)) → (zGU (T + 1) (m₉ 94 46) (m₉ 99)) → (zOw (m₉ 99) (m₉ 103) (m₉ 111)) → (zGG (m₉ 94 58) (m₉ 94 56) (m₉ 94 57) (m₉ 106)) → (qRB (m₉ 99) (m₉ 100) (m 98) (m₉ 101) (m₉ 102) (m₉ 103) (m₉ 107) (m₉ 108) (m₉ 109) (m₉ 111) (m₉ 112) (m₉ 113) (m₉ 114) (m₉ 94 55) (m₉ 94 46) ro 0 0 0 1 (hMk aa kk nn LL r1)) → (qMG (m₉ 94 58) (m₉ 106) (m₉ 115) (m₉ 94 57) (m₉ 94 56) (m₉ 99) (m₉ 100) (hMk aa kk nn LL r1)) → ((hMk aa kk nn LL r1) 87 8 = (m₉ 94 58)) → ((m₉ 94 45).toInt = sm (zbU (m₉ 99)) (m₉ 102) 3100) → ((m₉ 94 58).toInt = 0) → (v = hMn aa nn) → (qHv (hMk aa kk nn LL r1)) → (qHL (hMk aa kk nn LL r1) (m 94 11) (m₉ 94 61) (m₉ 94 59)) → P (some (.inl v)) (zov wr_183 m m₉)) : zm X 9 198 183 0 [(0, .inr (.inr (some 94))), (1, .inl kk), (2, .inl nn), (3, .inl r1)] m P := by
  have K : ∀ v m₉, zF wr_183 m m₉ → zV m₉ → (zW (m₉ 94 7) (m₉ 98) (m₉ 101) (m₉ 102) (m₉ 108)) → (zGW (T + 1) (m₉ 94 55) (m₉ 109)) → (zGU (T + 1) (m₉ 94 46) (m₉ 99)) → (zOw (m₉ 99) (m₉ 103) (m₉ 111)) → (zGG (m₉ 94 58) (m₉ 94 56) (m₉ 94 57) (m₉ 106)) → (qRB (m₉ 99) (m₉ 100) (m₉ 98) (m₉ 101) (m₉ 102) (m₉ 103) (m₉ 107) (m₉ 108) (m₉ 109) (m₉ 111) (m₉ 112) (m₉ 113) (m₉ 114) (m₉ 94 55) (m₉ 94 46) ro 0 0 0 1 (hMk aa kk nn LL r1)) → (qMG (m₉ 94 58) (m₉ 106) (m₉ 115) (m₉ 94 57) (m₉ 94 56) (m₉ 99) (m₉ 100) (hMk aa kk nn LL r1)) → ((hMk aa kk nn LL r1) 87 8 = (m₉ 94 58)) → ((m₉ 94 45).toInt = sm (zbU (m₉ 99)) (m₉ 102) 3100) → ((m₉ 94 58).toInt = 0) → (v = hMn aa nn) → (qHv (hMk aa kk nn LL r1)) → (qHL (hMk aa kk nn LL r1) (m₉ 94 11) (m₉ 94 61) (m₉ 94 59)) → P (some (.inl v)) m₉ := by
    intro v m₉ hf z q0 q1 q2 q3 q4 q5 q6 q7 q8 q9 q10 q11 q12
    have e := zov_eq hf
    rw [e] at z ⊢
    try rw [e] at q0
    try rw [e] at q1
    try rw [e] at q2
    try rw [e] at q3
    try rw [e] at q4
    try rw [e] at q5
    try rw [e] at q6
    try rw [e] at q7
    try rw [e] at q8
    try rw [e] at q9
    try rw [e] at q10
    try rw [e] at q11
    try rw [e] at q12
    exact KZ v m₉ z q0 q1 q2 q3 q4 q5 q6 q7 q8 q9 q10 q11 q12
  refine g_183_0 kk nn r1 ?_
  have f1 : 0 ≤ (m 94 7).toInt ∧ (m 94 7).toInt ≤ 16 := rs_94_7 (m := m) hV
  have f2 : 0 ≤ (m 94 10).toInt ∧ (m 94 10).toInt ≤ 6 := rs_94_10 (m := m) hV
  have f3 : 0 ≤ (m 94 58).toInt ∧ (m 94 58).toInt ≤ 1 := rs_94_58 (m := m) hV
  have f4 : 0 ≤ (m 94 8).toInt ∧ (m 94 8).toInt ≤ 1 := rs_94_8 (m := m) hV
  have b5 := i_bd nn
  first | have e6 : (nn + (1 : Int32)).toInt = nn.toInt + (1) := i_addk rfl (by omega) (by omega) | have b7 := i_bd (nn + (1 : Int32))
  refine sp_184rv (aa := aa) ((nn + (1 : Int32))) hV (by omega) (by omega) (by omega) r_W r_GW r_GU r_OW r_GG (show (m 94 10).toInt = 2 ∧ (m 94 58).toInt = 0 from by omega) r_RB r_HV r_HL r_MG r_MK r_WTS (fun v2 m1 hV_m1 p0_m1 p1_m1 p2_m1 p3_m1 p4_m1 p5_m1 p6_m1 p7_m1 p8_m1 p9_m1 p10_m1 p11_m1 p12_m1 p13_m1 => zmi_n ?_)
  have p0_m1 : zGW T (m1 94 55) (m1 109) := p0_m1
  have p1_m1 : zGU T (m 94 46) (m1 99) := p1_m1
  have p2_m1 : zOw (m1 99) (m1 103) (m1 111) := p2_m1
  have p3_m1 : zGG (m1 94 58) (m1 94 56) (m1 94 57) (m1 106) := p3_m1
  have p4_m1 : -1 ≤ v2.toInt ∧ v2.toInt ≤ 3000 := p4_m1
  have p5_m1 : qRB (m1 99) (m 100) (m 98) (m 101) (m 102) (m1 103) (m 107) (m 108) (m1 109) (m1 111) (m 112) (m1 113) (m1 114) (m1 94 55) (m 94 46) ro 0 0 0 1 (hFt aa (nn + (1 : Int32)) v2) := p5_m1
  have p6_m1 : qI (hFt aa (nn + (1 : Int32)) v2) := p6_m1
  have p7_m1 : qHL (hFt aa (nn + (1 : Int32)) v2) (m 94 11) (m1 94 61) (m1 94 59) := p7_m1
  have p8_m1 : qMG (m1 94 58) (m1 106) (m1 115) (m1 94 57) (m1 94 56) (m1 99) (m 100) (hFt aa (nn + (1 : Int32)) v2) := p8_m1
  have p9_m1 : (hFt aa (nn + (1 : Int32)) v2) 87 8 = (m1 94 58) := p9_m1
  have p10_m1 : (m1 94 45).toInt = sm (zbU (m1 99)) (m 102) 3100 := p10_m1
  have p11_m1 : qEq v2.toInt (hRp aa (nn + (1 : Int32)).toInt) := p11_m1
  have p12_m1 : qHv (hRs aa (nn + (1 : Int32)).toInt) := p12_m1
  have p13_m1 : (m1 94 58).toInt = 0 := p13_m1
  have f8 : 0 ≤ (m1 94 58).toInt ∧ (m1 94 58).toInt ≤ 1 := rs_94_58 (m := (zov wr_184 m m1)) hV_m1
  have li9 : (0 : Int32).toInt = 0 := rfl
  have b10 := i_bd v2
  refine zd (fun (h11 : (0 : Int32) ≤ v2) => ?_) (fun (h11 : ¬ (0 : Int32) ≤ v2) => ?_)
  · skip
    have g12 := i_le h11
    try have e21 : (l2 + (1 : Int32)).toInt = l2.toInt + 1 := i_addk rfl (by omega) (by omega)
    try have gun := GU_nu p1_m1
    have b13 := i_bd kk
    have b14 := i_bd r1
    exact lp_183rv_19 (kk := kk) (nn := nn) (r1 := r1) hV K _ _ (kk) (nn) (r1) (v2) ((0 : Int32)) rfl (zF_zov zF_rfl ws_184_183) hV_m1 (by omega) (by omega) (by omega) (by omega) (by omega) (by omega) (by omega) (by omega) (by omega) (by omega) (by omega) (by omega) (show 16 ≤ kk.toInt ∨ kk.toInt < (m 94 7).toInt from by omega) r_W p0_m1 p1_m1 p2_m1 p3_m1 (show (m 94 10).toInt = 2 ∧ (m1 94 58).toInt = 0 from by omega) (show (m 94 8).toInt = 1 from by omega) p5_m1 p6_m1 p8_m1 p9_m1 p10_m1 (show ∀ j : Nat, (j : Int) < (0 : Int32).toInt → (m1 99) j ≠ 0 from by first | (intro j hj; omega; done) | (exfalso; omega; done) | (exfalso; contradiction; done)) (show kk = kk from by first | (exact rfl) | (exfalso; omega; done) | (exfalso; contradiction; done)) (show nn = nn from by first | (exact rfl) | (exfalso; omega; done) | (exfalso; contradiction; done)) (show r1 = r1 from by first | (exact rfl) | (exfalso; omega; done) | (exfalso; contradiction; done)) (show qEq v2.toInt (hRp aa (nn + (1 : Int32)).toInt) from by first | (exact p11_m1) | (exfalso; omega; done) | (exfalso; contradiction; done)) r_BTS (show (aa 69 6).toInt < 512 from by first | (exact (show (aa 69 6).toInt < 512 from by rw [r_RB.2.2.2.2.2.2.2.1]; have gun := GU_nu r_GU; omega)) | (exfalso; omega; done) | (exfalso; contradiction; done)) (show aa 87 2 = 0 from by first | (exact r_HV.2.1) | (exfalso; omega; done) | (exfalso; contradiction; done)) p12_m1 (show qHL (hFt aa (nn + (1 : Int32)) v2) (m 94 11) (m1 94 61) (m1 94 59) from by first | (exact p7_m1) | (exfalso; omega; done) | (exfalso; contradiction; done))
  · skip
    have g15 := i_nle h11
    try have e21 : (l2 + (1 : Int32)).toInt = l2.toInt + 1 := i_addk rfl (by omega) (by omega)
    try have gun := GU_nu p1_m1
    have li16 : (-1 : Int32).toInt = -1 := rfl
    exact K ((-1 : Int32)) _ (zF_zov zF_rfl ws_184_183) hV_m1 r_W (show zGW (T + 1) (m1 94 55) (m1 109) from by first | (exact GW_up p0_m1 (by omega)) | (exfalso; omega; done) | (exfalso; contradiction; done)) (show zGU (T + 1) (m 94 46) (m1 99) from by first | (exact GU_up p1_m1 (by omega)) | (exact GU_0 p1_m1) | (exfalso; omega; done) | (exfalso; contradiction; done)) p2_m1 p3_m1 (show qRB (m1 99) (m 100) (m 98) (m 101) (m 102) (m1 103) (m 107) (m 108) (m1 109) (m1 111) (m 112) (m1 113) (m1 114) (m1 94 55) (m 94 46) ro 0 0 0 1 (hMk aa kk nn LL r1) from by first | (have q := p5_m1; rw [hFt_n (by omega)] at q; rw [(hMk_1 (a := aa) (kd := kk) (wd := nn) (rt := r1) (L := LL) (show (aa 69 6).toInt < 512 from by rw [r_RB.2.2.2.2.2.2.2.1]; have gun := GU_nu r_GU; omega) ((qE p11_m1).symm.trans (by omega))).1]; exact q; done) | (exfalso; omega; done) | (exfalso; contradiction; done)) (show qMG (m1 94 58) (m1 106) (m1 115) (m1 94 57) (m1 94 56) (m1 99) (m 100) (hMk aa kk nn LL r1) from by first | (have q := p8_m1; rw [hFt_n (by omega)] at q; rw [(hMk_1 (a := aa) (kd := kk) (wd := nn) (rt := r1) (L := LL) (show (aa 69 6).toInt < 512 from by rw [r_RB.2.2.2.2.2.2.2.1]; have gun := GU_nu r_GU; omega) ((qE p11_m1).symm.trans (by omega))).1]; exact q; done) | (exfalso; omega; done) | (exfalso; contradiction; done)) (show (hMk aa kk nn LL r1) 87 8 = (m1 94 58) from by first | (have q := p9_m1; rw [hFt_n (by omega)] at q; rw [(hMk_1 (a := aa) (kd := kk) (wd := nn) (rt := r1) (L := LL) (show (aa 69 6).toInt < 512 from by rw [r_RB.2.2.2.2.2.2.2.1]; have gun := GU_nu r_GU; omega) ((qE p11_m1).symm.trans (by omega))).1]; exact q; done) | (exfalso; omega; done) | (exfalso; contradiction; done)) p10_m1 (show (m1 94 58).toInt = 0 from by omega) (show (-1 : Int32) = hMn aa nn from by first | (exact (hMk_1 (a := aa) (kd := kk) (wd := nn) (rt := r1) (L := LL) (show (aa 69 6).toInt < 512 from by rw [r_RB.2.2.2.2.2.2.2.1]; have gun := GU_nu r_GU; omega) ((qE p11_m1).symm.trans (by omega))).2.symm) | (exfalso; omega; done) | (exfalso; contradiction; done)) (show qHv (hMk aa kk nn LL r1) from by first | (rw [(hMk_1 (a := aa) (kd := kk) (wd := nn) (rt := r1) (L := LL) (show (aa 69 6).toInt < 512 from by rw [r_RB.2.2.2.2.2.2.2.1]; have gun := GU_nu r_GU; omega) ((qE p11_m1).symm.trans (by omega))).1]; exact p12_m1; done) | (exact r_HV) | (exfalso; omega; done) | (exfalso; contradiction; done)) (show qHL (hMk aa kk nn LL r1) (m 94 11) (m1 94 61) (m1 94 59) from by first | (have q := p7_m1; rw [hFt_n (by omega)] at q; rw [(hMk_1 (a := aa) (kd := kk) (wd := nn) (rt := r1) (L := LL) (show (aa 69 6).toInt < 512 from by rw [r_RB.2.2.2.2.2.2.2.1]; have gun := GU_nu r_GU; omega) ((qE p11_m1).symm.trans (by omega))).1]; exact q; done) | (exact p7_m1) | (exfalso; omega; done) | (exfalso; contradiction; done))

/-! from 95.r23 -/
/-! the reference where it moves (written by wip/tools/gen15r.py) -/
set_option maxHeartbeats 8000000 in
theorem sp_181rv {X : Nat × (Nat → Int32)} {P : Option ma_V → (Nat → Nat → Int32) → Prop} {T : Nat} {aa : Nat→Nat→Int32} {ro : Int32} {LL : Int64} {m : Nat → Nat → Int32} (kk : Int32) (r1 : Int32) (hV : zV m) (hpre0 : T + 1 ≤ 512) (hpre1 : T ≤ 512) (r_W : zW (m 94 7) (m 98) (m 101) (m 102) (m 108)) (r_GW : zGW T (m 94 55) (m 109)) (r_GU : zGU T (m 94 46) (m 99)) (r_OW : zOw (m 99) (m 103) (m 111)) (r_GG : zGG (m 94 58) (m 94 56) (m 94 57) (m 106)) (hpre7 : (m 94 10).toInt = 2 ∧ (m 94 58).toInt = 0) (hpre8 : (m 94 8).toInt = 1) (r_RB : qRB (m 99) (m 100) (m 98) (m 101) (m 102) (m 103) (m 107) (m 108) (m 109) (m 111) (m 112) (m 113) (m 114) (m 94 55) (m 94 46) ro 0 0 0 1 aa) (r_HV : qHv aa) (r_HL : qHL aa (m 94 11) (m 94 61) (m 94 59)) (r_MG : qMG (m 94 58) (m 106) (m 115) (m 94 57) (m 94 56) (m 99) (m 100) aa) (r_MK : aa 87 8 = (m 94 58)) (r_WTS : (m 94 45).toInt = sm (zbU (m 99)) (m 102) 3100) (r_BT1 : (0 ≤ kk.toInt ∧ kk.toInt < (m 94 7).toInt) → ∀ j : Nat, (j : Int) < ((m 97) kk.toNatClampNeg).toInt → (zbit LL (Int32.ofNat j) ≠ 0 ↔ (kk = 16 ∨ (kk < 16 ∧ (((m 98) kk.toNatClampNeg >>> (Int32.ofNat j &&& 31)) &&& 1) = 1)))) (KZ : ∀ v m₉, zV (zov wr_181 m m₉) → (zW (m 94 7) (m 98) (m₉ 101) (m₉ 102) (m₉ 108)) → (zGW (T + 1) (m₉ 94 55) (m₉ 109)) → (zGU (T + 1) (m₉ 94 46) (m₉ 99)) → (zOw (m₉ 99) (m₉ 103) (m₉ 111)) → (zGG (m₉ 94 58) (m₉ 94 56) (m₉ 94 57) (m₉ 106)) → (qRB (m₉ 99) (m₉ 100) (m 98) (m₉ 101) (m₉ 102) (m₉ 103) (m₉ 107) (m₉ 108) (m₉ 109) (m₉ 111) (m₉ 112) (m₉ 113) (m₉ 114) (m₉ 94 55) (m₉ 94 46) ro 0 0 0 1 (qIf (0 ≤ kk.toInt ∧ kk.toInt < (m 94 7).toInt ∧ zSl r1) (hMk aa kk ((m 97) kk.toNatClampNeg) LL r1) aa)) → (qMG (m₉ 94 58) (m₉ 106) (m₉ 115) (m₉ 94 57) (m₉ 94 56) (m₉ 99) (m₉ 100) (qIf (0 ≤ kk.toInt ∧ kk.toInt < (m 94 7).toInt ∧ zSl r1) (hMk aa kk ((m 97) kk.toNatClampNeg) LL r1) aa)) → ((qIf (0 ≤ kk.toInt ∧ kk.toInt < (m 94 7).toInt ∧ zSl r1) (hMk aa kk ((m 97) kk.toNatClampNeg) LL r1) aa) 87 8 = (m₉ 94 58)) → ((m₉ 94 45).toInt = sm (zbU (m₉ 99)) (m₉ 102) 3100) → ((m₉ 94 58).toInt = 0) → (qHv (qIf (0 ≤ kk.toInt ∧ kk.toInt < (m 94 7).toInt ∧ zSl r1) (hMk aa kk ((m 97) kk.toNatClampNeg) LL r1) aa)) → (qHL (qIf (0 ≤ kk.toInt ∧ kk.toInt < (m 94 7).toInt ∧ zSl r1) (hMk aa kk ((m 97) kk.toNatClampNeg) LL r1) aa) (m 94 11) (m₉ 94 61) (m₉ 94 59)) → P (some (.inl v)) (zov wr_181 m m₉)) : zm X 10 224 181 0 [(0, .inr (.inr (some 94))), (1, .inl kk), (2, .inl r1)] m P := by
  have K : ∀ v m₉, zF wr_181 m m₉ → zV m₉ → (zW (m₉ 94 7) (m₉ 98) (m₉ 101) (m₉ 102) (m₉ 108)) → (zGW (T + 1) (m₉ 94 55) (m₉ 109)) → (zGU (T + 1) (m₉ 94 46) (m₉ 99)) → (zOw (m₉ 99) (m₉ 103) (m₉ 111)) → (zGG (m₉ 94 58) (m₉ 94 56) (m₉ 94 57) (m₉ 106)) → (qRB (m₉ 99) (m₉ 100) (m₉ 98) (m₉ 101) (m₉ 102) (m₉ 103) (m₉ 107) (m₉ 108) (m₉ 109) (m₉ 111) (m₉ 112) (m₉ 113) (m₉ 114) (m₉ 94 55) (m₉ 94 46) ro 0 0 0 1 (qIf (0 ≤ kk.toInt ∧ kk.toInt < (m₉ 94 7).toInt ∧ zSl r1) (hMk aa kk ((m₉ 97) kk.toNatClampNeg) LL r1) aa)) → (qMG (m₉ 94 58) (m₉ 106) (m₉ 115) (m₉ 94 57) (m₉ 94 56) (m₉ 99) (m₉ 100) (qIf (0 ≤ kk.toInt ∧ kk.toInt < (m₉ 94 7).toInt ∧ zSl r1) (hMk aa kk ((m₉ 97) kk.toNatClampNeg) LL r1) aa)) → ((qIf (0 ≤ kk.toInt ∧ kk.toInt < (m₉ 94 7).toInt ∧ zSl r1) (hMk aa kk ((m₉ 97) kk.toNatClampNeg) LL r1) aa) 87 8 = (m₉ 94 58)) → ((m₉ 94 45).toInt = sm (zbU (m₉ 99)) (m₉ 102) 3100) → ((m₉ 94 58).toInt = 0) → (qHv (qIf (0 ≤ kk.toInt ∧ kk.toInt < (m₉ 94 7).toInt ∧ zSl r1) (hMk aa kk ((m₉ 97) kk.toNatClampNeg) LL r1) aa)) → (qHL (qIf (0 ≤ kk.toInt ∧ kk.toInt < (m₉ 94 7).toInt ∧ zSl r1) (hMk aa kk ((m₉ 97) kk.toNatClampNeg) LL r1) aa) (m₉ 94 11) (m₉ 94 61) (m₉ 94 59)) → P (some (.inl v)) m₉ := by
    intro v m₉ hf z q0 q1 q2 q3 q4 q5 q6 q7 q8 q9 q10 q11
    have e := zov_eq hf
    rw [e] at z ⊢
    try rw [e] at q0
    try rw [e] at q1
    try rw [e] at q2
    try rw [e] at q3
    try rw [e] at q4
    try rw [e] at q5
    try rw [e] at q6
    try rw [e] at q7
    try rw [e] at q8
    try rw [e] at q9
    try rw [e] at q10
    try rw [e] at q11
    exact KZ v m₉ z q0 q1 q2 q3 q4 q5 q6 q7 q8 q9 q10 q11
  refine g_181_0 kk r1 ?_
  have f1 : 0 ≤ (m 94 10).toInt ∧ (m 94 10).toInt ≤ 6 := rs_94_10 (m := m) hV
  have f2 : 0 ≤ (m 94 58).toInt ∧ (m 94 58).toInt ≤ 1 := rs_94_58 (m := m) hV
  have f3 : 0 ≤ (m 94 8).toInt ∧ (m 94 8).toInt ≤ 1 := rs_94_8 (m := m) hV
  have b4 := i_bd kk
  have li5 : (0 : Int32).toInt = 0 := rfl
  refine zd (fun (h6 : kk < (0 : Int32)) => ?_) (fun (h6 : ¬ kk < (0 : Int32)) => ?_)
  · skip
    have g7 := i_lt h6
    have hV8 : zV (ma_u m 94 0 (1 : Int32)) := uf_94_0 hV
    exact K ((0 : Int32)) _ (zF_u zF_rfl rfl) hV8 r_W (show zGW (T + 1) (m 94 55) (m 109) from by first | (exact GW_up r_GW (by omega)) | (exfalso; omega; done) | (exfalso; contradiction; done)) (show zGU (T + 1) (m 94 46) (m 99) from by first | (exact GU_up r_GU (by omega)) | (exact GU_0 r_GU) | (exfalso; omega; done) | (exfalso; contradiction; done)) r_OW r_GG (show qRB (m 99) (m 100) (m 98) (m 101) (m 102) (m 103) (m 107) (m 108) (m 109) (m 111) (m 112) (m 113) (m 114) (m 94 55) (m 94 46) ro 0 0 0 1 (qIf (0 ≤ kk.toInt ∧ kk.toInt < (m 94 7).toInt ∧ zSl r1) (hMk aa kk ((m 97) kk.toNatClampNeg) LL r1) aa) from by first | (rw [qIf_n (fun w => by have w1 := w.1; have w2 := w.2.1; have w3 := w.2.2.1; have w4 := w.2.2.2; omega)]; exact r_RB; done) | (exfalso; omega; done) | (exfalso; contradiction; done)) (show qMG (m 94 58) (m 106) (m 115) (m 94 57) (m 94 56) (m 99) (m 100) (qIf (0 ≤ kk.toInt ∧ kk.toInt < (m 94 7).toInt ∧ zSl r1) (hMk aa kk ((m 97) kk.toNatClampNeg) LL r1) aa) from by first | (rw [qIf_n (fun w => by have w1 := w.1; have w2 := w.2.1; have w3 := w.2.2.1; have w4 := w.2.2.2; omega)]; exact r_MG; done) | (exfalso; omega; done) | (exfalso; contradiction; done)) (show (qIf (0 ≤ kk.toInt ∧ kk.toInt < (m 94 7).toInt ∧ zSl r1) (hMk aa kk ((m 97) kk.toNatClampNeg) LL r1) aa) 87 8 = (m 94 58) from by first | (rw [qIf_n (fun w => by have w1 := w.1; have w2 := w.2.1; have w3 := w.2.2.1; have w4 := w.2.2.2; omega)]; exact r_MK; done) | (exfalso; omega; done) | (exfalso; contradiction; done)) r_WTS (show (m 94 58).toInt = 0 from by omega) (show qHv (qIf (0 ≤ kk.toInt ∧ kk.toInt < (m 94 7).toInt ∧ zSl r1) (hMk aa kk ((m 97) kk.toNatClampNeg) LL r1) aa) from by first | (rw [qIf_n (fun w => by have w1 := w.1; have w2 := w.2.1; have w3 := w.2.2.1; have w4 := w.2.2.2; omega)]; exact r_HV; done) | (exact r_HV) | (exfalso; omega; done) | (exfalso; contradiction; done)) (show qHL (qIf (0 ≤ kk.toInt ∧ kk.toInt < (m 94 7).toInt ∧ zSl r1) (hMk aa kk ((m 97) kk.toNatClampNeg) LL r1) aa) (m 94 11) (m 94 61) (m 94 59) from by first | (rw [qIf_n (fun w => by have w1 := w.1; have w2 := w.2.1; have w3 := w.2.2.1; have w4 := w.2.2.2; omega)]; exact r_HL; done) | (exact r_HL) | (exfalso; omega; done) | (exfalso; contradiction; done))
  · skip
    have g9 := i_nlt h6
    have f10 : 0 ≤ (m 94 7).toInt ∧ (m 94 7).toInt ≤ 16 := rs_94_7 (m := m) hV
    refine zd (fun (h11 : (m 94 7) ≤ kk) => ?_) (fun (h11 : ¬ (m 94 7) ≤ kk) => ?_)
    · skip
      have g12 := i_le h11
      have hV13 : zV (ma_u m 94 0 (1 : Int32)) := uf_94_0 hV
      exact K ((0 : Int32)) _ (zF_u zF_rfl rfl) hV13 r_W (show zGW (T + 1) (m 94 55) (m 109) from by first | (exact GW_up r_GW (by omega)) | (exfalso; omega; done) | (exfalso; contradiction; done)) (show zGU (T + 1) (m 94 46) (m 99) from by first | (exact GU_up r_GU (by omega)) | (exact GU_0 r_GU) | (exfalso; omega; done) | (exfalso; contradiction; done)) r_OW r_GG (show qRB (m 99) (m 100) (m 98) (m 101) (m 102) (m 103) (m 107) (m 108) (m 109) (m 111) (m 112) (m 113) (m 114) (m 94 55) (m 94 46) ro 0 0 0 1 (qIf (0 ≤ kk.toInt ∧ kk.toInt < (m 94 7).toInt ∧ zSl r1) (hMk aa kk ((m 97) kk.toNatClampNeg) LL r1) aa) from by first | (rw [qIf_n (fun w => by have w1 := w.1; have w2 := w.2.1; have w3 := w.2.2.1; have w4 := w.2.2.2; omega)]; exact r_RB; done) | (exfalso; omega; done) | (exfalso; contradiction; done)) (show qMG (m 94 58) (m 106) (m 115) (m 94 57) (m 94 56) (m 99) (m 100) (qIf (0 ≤ kk.toInt ∧ kk.toInt < (m 94 7).toInt ∧ zSl r1) (hMk aa kk ((m 97) kk.toNatClampNeg) LL r1) aa) from by first | (rw [qIf_n (fun w => by have w1 := w.1; have w2 := w.2.1; have w3 := w.2.2.1; have w4 := w.2.2.2; omega)]; exact r_MG; done) | (exfalso; omega; done) | (exfalso; contradiction; done)) (show (qIf (0 ≤ kk.toInt ∧ kk.toInt < (m 94 7).toInt ∧ zSl r1) (hMk aa kk ((m 97) kk.toNatClampNeg) LL r1) aa) 87 8 = (m 94 58) from by first | (rw [qIf_n (fun w => by have w1 := w.1; have w2 := w.2.1; have w3 := w.2.2.1; have w4 := w.2.2.2; omega)]; exact r_MK; done) | (exfalso; omega; done) | (exfalso; contradiction; done)) r_WTS (show (m 94 58).toInt = 0 from by omega) (show qHv (qIf (0 ≤ kk.toInt ∧ kk.toInt < (m 94 7).toInt ∧ zSl r1) (hMk aa kk ((m 97) kk.toNatClampNeg) LL r1) aa) from by first | (rw [qIf_n (fun w => by have w1 := w.1; have w2 := w.2.1; have w3 := w.2.2.1; have w4 := w.2.2.2; omega)]; exact r_HV; done) | (exact r_HV) | (exfalso; omega; done) | (exfalso; contradiction; done)) (show qHL (qIf (0 ≤ kk.toInt ∧ kk.toInt < (m 94 7).toInt ∧ zSl r1) (hMk aa kk ((m 97) kk.toNatClampNeg) LL r1) aa) (m 94 11) (m 94 61) (m 94 59) from by first | (rw [qIf_n (fun w => by have w1 := w.1; have w2 := w.2.1; have w3 := w.2.2.1; have w4 := w.2.2.2; omega)]; exact r_HL; done) | (exact r_HL) | (exfalso; omega; done) | (exfalso; contradiction; done))
    · skip
      have g14 := i_nle h11
      have b15 := i_bd r1
      refine zd (fun (h16 : r1 < (0 : Int32)) => ?_) (fun (h16 : ¬ r1 < (0 : Int32)) => ?_)
      · skip
        have g17 := i_lt h16
        have hV18 : zV (ma_u m 94 0 (1 : Int32)) := uf_94_0 hV
        exact K ((0 : Int32)) _ (zF_u zF_rfl rfl) hV18 r_W (show zGW (T + 1) (m 94 55) (m 109) from by first | (exact GW_up r_GW (by omega)) | (exfalso; omega; done) | (exfalso; contradiction; done)) (show zGU (T + 1) (m 94 46) (m 99) from by first | (exact GU_up r_GU (by omega)) | (exact GU_0 r_GU) | (exfalso; omega; done) | (exfalso; contradiction; done)) r_OW r_GG (show qRB (m 99) (m 100) (m 98) (m 101) (m 102) (m 103) (m 107) (m 108) (m 109) (m 111) (m 112) (m 113) (m 114) (m 94 55) (m 94 46) ro 0 0 0 1 (qIf (0 ≤ kk.toInt ∧ kk.toInt < (m 94 7).toInt ∧ zSl r1) (hMk aa kk ((m 97) kk.toNatClampNeg) LL r1) aa) from by first | (rw [qIf_n (fun w => by have w1 := w.1; have w2 := w.2.1; have w3 := w.2.2.1; have w4 := w.2.2.2; omega)]; exact r_RB; done) | (exfalso; omega; done) | (exfalso; contradiction; done)) (show qMG (m 94 58) (m 106) (m 115) (m 94 57) (m 94 56) (m 99) (m 100) (qIf (0 ≤ kk.toInt ∧ kk.toInt < (m 94 7).toInt ∧ zSl r1) (hMk aa kk ((m 97) kk.toNatClampNeg) LL r1) aa) from by first | (rw [qIf_n (fun w => by have w1 := w.1; have w2 := w.2.1; have w3 := w.2.2.1; have w4 := w.2.2.2; omega)]; exact r_MG; done) | (exfalso; omega; done) | (exfalso; contradiction; done)) (show (qIf (0 ≤ kk.toInt ∧ kk.toInt < (m 94 7).toInt ∧ zSl r1) (hMk aa kk ((m 97) kk.toNatClampNeg) LL r1) aa) 87 8 = (m 94 58) from by first | (rw [qIf_n (fun w => by have w1 := w.1; have w2 := w.2.1; have w3 := w.2.2.1; have w4 := w.2.2.2; omega)]; exact r_MK; done) | (exfalso; omega; done) | (exfalso; contradiction; done)) r_WTS (show (m 94 58).toInt = 0 from by omega) (show qHv (qIf (0 ≤ kk.toInt ∧ kk.toInt < (m 94 7).toInt ∧ zSl r1) (hMk aa kk ((m 97) kk.toNatClampNeg) LL r1) aa) from by first | (rw [qIf_n (fun w => by have w1 := w.1; have w2 := w.2.1; have w3 := w.2.2.1; have w4 := w.2.2.2; omega)]; exact r_HV; done) | (exact r_HV) | (exfalso; omega; done) | (exfalso; contradiction; done)) (show qHL (qIf (0 ≤ kk.toInt ∧ kk.toInt < (m 94 7).toInt ∧ zSl r1) (hMk aa kk ((m 97) kk.toNatClampNeg) LL r1) aa) (m 94 11) (m 94 61) (m 94 59) from by first | (rw [qIf_n (fun w => by have w1 := w.1; have w2 := w.2.1; have w3 := w.2.2.1; have w4 := w.2.2.2; omega)]; exact r_HL; done) | (exact r_HL) | (exfalso; omega; done) | (exfalso; contradiction; done))
      · skip
        have g19 := i_nlt h16
        have li20 : (16 : Int32).toInt = 16 := rfl
        refine zd (fun (h21 : (16 : Int32) ≤ r1) => ?_) (fun (h21 : ¬ (16 : Int32) ≤ r1) => ?_)
        · skip
          have g22 := i_le h21
          have hV23 : zV (ma_u m 94 0 (1 : Int32)) := uf_94_0 hV
          exact K ((0 : Int32)) _ (zF_u zF_rfl rfl) hV23 r_W (show zGW (T + 1) (m 94 55) (m 109) from by first | (exact GW_up r_GW (by omega)) | (exfalso; omega; done) | (exfalso; contradiction; done)) (show zGU (T + 1) (m 94 46) (m 99) from by first | (exact GU_up r_GU (by omega)) | (exact GU_0 r_GU) | (exfalso; omega; done) | (exfalso; contradiction; done)) r_OW r_GG (show qRB (m 99) (m 100) (m 98) (m 101) (m 102) (m 103) (m 107) (m 108) (m 109) (m 111) (m 112) (m 113) (m 114) (m 94 55) (m 94 46) ro 0 0 0 1 (qIf (0 ≤ kk.toInt ∧ kk.toInt < (m 94 7).toInt ∧ zSl r1) (hMk aa kk ((m 97) kk.toNatClampNeg) LL r1) aa) from by first | (rw [qIf_n (fun w => by have w1 := w.1; have w2 := w.2.1; have w3 := w.2.2.1; have w4 := w.2.2.2; omega)]; exact r_RB; done) | (exfalso; omega; done) | (exfalso; contradiction; done)) (show qMG (m 94 58) (m 106) (m 115) (m 94 57) (m 94 56) (m 99) (m 100) (qIf (0 ≤ kk.toInt ∧ kk.toInt < (m 94 7).toInt ∧ zSl r1) (hMk aa kk ((m 97) kk.toNatClampNeg) LL r1) aa) from by first | (rw [qIf_n (fun w => by have w1 := w.1; have w2 := w.2.1; have w3 := w.2.2.1; have w4 := w.2.2.2; omega)]; exact r_MG; done) | (exfalso; omega; done) | (exfalso; contradiction; done)) (show (qIf (0 ≤ kk.toInt ∧ kk.toInt < (m 94 7).toInt ∧ zSl r1) (hMk aa kk ((m 97) kk.toNatClampNeg) LL r1) aa) 87 8 = (m 94 58) from by first | (rw [qIf_n (fun w => by have w1 := w.1; have w2 := w.2.1; have w3 := w.2.2.1; have w4 := w.2.2.2; omega)]; exact r_MK; done) | (exfalso; omega; done) | (exfalso; contradiction; done)) r_WTS (show (m 94 58).toInt = 0 from by omega) (show qHv (qIf (0 ≤ kk.toInt ∧ kk.toInt < (m 94 7).toInt ∧ zSl r1) (hMk aa kk ((m 97) kk.toNatClampNeg) LL r1) aa) from by first | (rw [qIf_n (fun w => by have w1 := w.1; have w2 := w.2.1; have w3 := w.2.2.1; have w4 := w.2.2.2; omega)]; exact r_HV; done) | (exact r_HV) | (exfalso; omega; done) | (exfalso; contradiction; done)) (show qHL (qIf (0 ≤ kk.toInt ∧ kk.toInt < (m 94 7).toInt ∧ zSl r1) (hMk aa kk ((m 97) kk.toNatClampNeg) LL r1) aa) (m 94 11) (m 94 61) (m 94 59) from by first | (rw [qIf_n (fun w => by have w1 := w.1; have w2 := w.2.1; have w3 := w.2.2.1; have w4 := w.2.2.2; omega)]; exact r_HL; done) | (exact r_HL) | (exfalso; omega; done) | (exfalso; contradiction; done))
        · skip
          have g24 := i_nle h21
          refine zd (fun (h25 : (m 94 8) = (0 : Int32)) => ?_) (fun (h25 : ¬ (m 94 8) = (0 : Int32)) => ?_)
          · skip
            have g26 := i_eq h25
            exfalso; omega
          · skip
            have g27 := i_ne h25
            have hg28 : (0 ≤ kk ∧ kk.toNatClampNeg < 16) := i_ix (by omega) (by omega)
            refine ⟨hg28, ?_⟩
            first | have f29 : 0 ≤ (m 97 kk.toNatClampNeg).toInt ∧ (m 97 kk.toNatClampNeg).toInt ≤ 8 := ra_97 (m := m) hV (k := kk.toNatClampNeg) (i_ix (n := 16) (by omega) (by omega)).2 | have b30 := i_bd (m 97 kk.toNatClampNeg)
            have hV31 : zV (ma_u m 94 0 (0 : Int32)) := uf_94_0 hV
            refine sp_183rv (LL := LL) (kk) ((m 97 kk.toNatClampNeg)) (r1) hV31 (by omega) (by omega) (by omega) (by omega) (by omega) (by omega) (by omega) (show 16 ≤ kk.toInt ∨ kk.toInt < (m 94 7).toInt from by omega) (by omega) r_W r_GW r_GU r_OW r_GG (show (m 94 10).toInt = 2 ∧ (m 94 58).toInt = 0 from by omega) (show (m 94 8).toInt = 1 from by omega) r_RB r_HV r_HL r_MG r_MK r_WTS (show ∀ j : Nat, (j : Int) < (m 97 kk.toNatClampNeg).toInt → (zbit LL (Int32.ofNat j) ≠ 0 ↔ (kk = 16 ∨ (kk < 16 ∧ (((m 98) kk.toNatClampNeg >>> (Int32.ofNat j &&& 31)) &&& 1) = 1))) from by first | (exact r_BT1 ⟨by omega, by omega⟩) | (exfalso; omega; done) | (exfalso; contradiction; done)) (fun v2 m1 hV_m1 p0_m1 p1_m1 p2_m1 p3_m1 p4_m1 p5_m1 p6_m1 p7_m1 p8_m1 p9_m1 p10_m1 p11_m1 p12_m1 => zmi_n ?_)
            have p0_m1 : zW (m 94 7) (m 98) (m1 101) (m1 102) (m1 108) := p0_m1
            have p1_m1 : zGW (T + 1) (m1 94 55) (m1 109) := p1_m1
            have p2_m1 : zGU (T + 1) (m1 94 46) (m1 99) := p2_m1
            have p3_m1 : zOw (m1 99) (m1 103) (m1 111) := p3_m1
            have p4_m1 : zGG (m1 94 58) (m1 94 56) (m1 94 57) (m1 106) := p4_m1
            have p5_m1 : qRB (m1 99) (m1 100) (m 98) (m1 101) (m1 102) (m1 103) (m1 107) (m1 108) (m1 109) (m1 111) (m1 112) (m1 113) (m1 114) (m1 94 55) (m1 94 46) ro 0 0 0 1 (hMk aa kk (m 97 kk.toNatClampNeg) LL r1) := p5_m1
            have p6_m1 : qMG (m1 94 58) (m1 106) (m1 115) (m1 94 57) (m1 94 56) (m1 99) (m1 100) (hMk aa kk (m 97 kk.toNatClampNeg) LL r1) := p6_m1
            have p7_m1 : (hMk aa kk (m 97 kk.toNatClampNeg) LL r1) 87 8 = (m1 94 58) := p7_m1
            have p8_m1 : (m1 94 45).toInt = sm (zbU (m1 99)) (m1 102) 3100 := p8_m1
            have p9_m1 : (m1 94 58).toInt = 0 := p9_m1
            have p10_m1 : v2 = hMn aa (m 97 kk.toNatClampNeg) := p10_m1
            have p11_m1 : qHv (hMk aa kk (m 97 kk.toNatClampNeg) LL r1) := p11_m1
            have p12_m1 : qHL (hMk aa kk (m 97 kk.toNatClampNeg) LL r1) (m 94 11) (m1 94 61) (m1 94 59) := p12_m1
            have f32 : 0 ≤ (m1 94 58).toInt ∧ (m1 94 58).toInt ≤ 1 := rs_94_58 (m := (zov wr_183 (ma_u m 94 0 (0 : Int32)) m1)) hV_m1
            have b33 := i_bd v2
            exact K (v2) _ (zF_zov (zF_u zF_rfl rfl) ws_183_181) hV_m1 p0_m1 p1_m1 p2_m1 p3_m1 p4_m1 (show qRB (m1 99) (m1 100) (m 98) (m1 101) (m1 102) (m1 103) (m1 107) (m1 108) (m1 109) (m1 111) (m1 112) (m1 113) (m1 114) (m1 94 55) (m1 94 46) ro 0 0 0 1 (qIf (0 ≤ kk.toInt ∧ kk.toInt < (m 94 7).toInt ∧ zSl r1) (hMk aa kk ((m 97) kk.toNatClampNeg) LL r1) aa) from by first | (rw [qIf_y ⟨by omega, by omega, by omega, by omega⟩]; exact p5_m1; done) | (exfalso; omega; done) | (exfalso; contradiction; done)) (show qMG (m1 94 58) (m1 106) (m1 115) (m1 94 57) (m1 94 56) (m1 99) (m1 100) (qIf (0 ≤ kk.toInt ∧ kk.toInt < (m 94 7).toInt ∧ zSl r1) (hMk aa kk ((m 97) kk.toNatClampNeg) LL r1) aa) from by first | (rw [qIf_y ⟨by omega, by omega, by omega, by omega⟩]; exact p6_m1; done) | (exfalso; omega; done) | (exfalso; contradiction; done)) (show (qIf (0 ≤ kk.toInt ∧ kk.toInt < (m 94 7).toInt ∧ zSl r1) (hMk aa kk ((m 97) kk.toNatClampNeg) LL r1) aa) 87 8 = (m1 94 58) from by first | (rw [qIf_y ⟨by omega, by omega, by omega, by omega⟩]; exact p7_m1; done) | (exfalso; omega; done) | (exfalso; contradiction; done)) p8_m1 (show (m1 94 58).toInt = 0 from by omega) (show qHv (qIf (0 ≤ kk.toInt ∧ kk.toInt < (m 94 7).toInt ∧ zSl r1) (hMk aa kk ((m 97) kk.toNatClampNeg) LL r1) aa) from by first | (rw [qIf_y ⟨by omega, by omega, by omega, by omega⟩]; exact p11_m1; done) | (exact p11_m1) | (exfalso; omega; done) | (exfalso; contradiction; done)) (show qHL (qIf (0 ≤ kk.toInt ∧ kk.toInt < (m 94 7).toInt ∧ zSl r1) (hMk aa kk ((m 97) kk.toNatClampNeg) LL r1) aa) (m 94 11) (m1 94 61) (m1 94 59) from by first | (rw [qIf_y ⟨by omega, by omega, by omega, by omega⟩]; exact p12_m1; done) | (exact p12_m1) | (exfalso; omega; done) | (exfalso; contradiction; done))

/-! from 95.r24 -/
/-! the reference where it moves (written by wip/tools/gen15r.py) -/
set_option maxHeartbeats 8000000 in
theorem sp_243rv {X : Nat × (Nat → Int32)} {P : Option ma_V → (Nat → Nat → Int32) → Prop} {T : Nat} {aa : Nat→Nat→Int32} {ro : Int32} {m : Nat → Nat → Int32} (rf : Int32) (nn : Int32) (r1 : Int32) (hV : zV m) (hpre0 : T + 1 ≤ 512) (hpre1 : 0 ≤ rf.toInt) (hpre2 : rf.toInt ≤ 1) (hpre3 : T ≤ 512) (r_W : zW (m 94 7) (m 98) (m 101) (m 102) (m 108)) (r_GW : zGW T (m 94 55) (m 109)) (r_GU : zGU T (m 94 46) (m 99)) (r_OW : zOw (m 99) (m 103) (m 111)) (r_GG : zGG (m 94 58) (m 94 56) (m 94 57) (m 106)) (hpre9 : (m 94 10).toInt = 2 ∧ (m 94 58).toInt = 0) (hpre10 : (m 94 8).toInt = 1) (r_RB : qRB (m 99) (m 100) (m 98) (m 101) (m 102) (m 103) (m 107) (m 108) (m 109) (m 111) (m 112) (m 113) (m 114) (m 94 55) (m 94 46) ro 0 0 0 1 aa) (r_HV : qHv aa) (r_HL : qHL aa (m 94 11) (m 94 61) (m 94 59)) (r_MG : qMG (m 94 58) (m 106) (m 115) (m 94 57) (m 94 56) (m 99) (m 100) aa) (r_MK : aa 87 8 = (m 94 58)) (r_WTS : (m 94 45).toInt = sm (zbU (m 99)) (m 102) 3100) (KZ : ∀ v m₉, zV (zov wr_243 m m₉) → (zW (m 94 7) (m 98) (m₉ 101) (m₉ 102) (m₉ 108)) → (zGW (T + 1) (m₉ 94 55) (m₉ 109)) → (zGU (T + 1) (m₉ 94 46) (m₉ 99)) → (zOw (m₉ 99) (m₉ 103) (m₉ 111)) → (zGG (m₉ 94 58) (m₉ 94 56) (m₉ 94 57) (m₉ 106)) → (qRB (m₉ 99) (m₉ 100) (m 98) (m₉ 101) (m₉ 102) (m₉ 103) (m₉ 107) (m₉ 108) (m₉ 109) (m₉ 111) (m₉ 112) (m₉ 113) (m₉ 114) (m₉ 94 55) (m₉ 94 46) ro 0 0 0 1 (qIf (0 ≤ nn.toInt ∧ nn.toInt ≤ 60 ∧ zSl r1) (if rf = 0 then hMk aa 17 nn 0 r1 else hMk aa 16 nn (-1) r1) aa)) → (qMG (m₉ 94 58) (m₉ 106) (m₉ 115) (m₉ 94 57) (m₉ 94 56) (m₉ 99) (m₉ 100) (qIf (0 ≤ nn.toInt ∧ nn.toInt ≤ 60 ∧ zSl r1) (if rf = 0 then hMk aa 17 nn 0 r1 else hMk aa 16 nn (-1) r1) aa)) → ((qIf (0 ≤ nn.toInt ∧ nn.toInt ≤ 60 ∧ zSl r1) (if rf = 0 then hMk aa 17 nn 0 r1 else hMk aa 16 nn (-1) r1) aa) 87 8 = (m₉ 94 58)) → ((m₉ 94 45).toInt = sm (zbU (m₉ 99)) (m₉ 102) 3100) → ((m₉ 94 58).toInt = 0) → (qHv (qIf (0 ≤ nn.toInt ∧ nn.toInt ≤ 60 ∧ zSl r1) (if rf = 0 then hMk aa 17 nn 0 r1 else hMk aa 16 nn (-1) r1) aa)) → (qHL (qIf (0 ≤ nn.toInt ∧ nn.toInt ≤ 60 ∧ zSl r1) (if rf = 0 then hMk aa 17 nn 0 r1 else hMk aa 16 nn (-1) r1) aa) (m 94 11) (m₉ 94 61) (m₉ 94 59)) → P (some (.inl v)) (zov wr_243 m m₉)) : zm X 10 224 243 0 [(0, .inr (.inr (some 94))), (1, .inl rf), (2, .inl nn), (3, .inl r1)] m P := by
  have K : ∀ v m₉, zF wr_243 m m₉ → zV m₉ → (zW (m₉ 94 7) (m₉ 98) (m₉ 101) (m₉ 102) (m₉ 108)) → (zGW (T + 1) (m₉ 94 55) (m₉ 109)) → (zGU (T + 1) (m₉ 94 46) (m₉ 99)) → (zOw (m₉ 99) (m₉ 103) (m₉ 111)) → (zGG (m₉ 94 58) (m₉ 94 56) (m₉ 94 57) (m₉ 106)) → (qRB (m₉ 99) (m₉ 100) (m₉ 98) (m₉ 101) (m₉ 102) (m₉ 103) (m₉ 107) (m₉ 108) (m₉ 109) (m₉ 111) (m₉ 112) (m₉ 113) (m₉ 114) (m₉ 94 55) (m₉ 94 46) ro 0 0 0 1 (qIf (0 ≤ nn.toInt ∧ nn.toInt ≤ 60 ∧ zSl r1) (if rf = 0 then hMk aa 17 nn 0 r1 else hMk aa 16 nn (-1) r1) aa)) → (qMG (m₉ 94 58) (m₉ 106) (m₉ 115) (m₉ 94 57) (m₉ 94 56) (m₉ 99) (m₉ 100) (qIf (0 ≤ nn.toInt ∧ nn.toInt ≤ 60 ∧ zSl r1) (if rf = 0 then hMk aa 17 nn 0 r1 else hMk aa 16 nn (-1) r1) aa)) → ((qIf (0 ≤ nn.toInt ∧ nn.toInt ≤ 60 ∧ zSl r1) (if rf = 0 then hMk aa 17 nn 0 r1 else hMk aa 16 nn (-1) r1) aa) 87 8 = (m₉ 94 58)) → ((m₉ 94 45).toInt = sm (zbU (m₉ 99)) (m₉ 102) 3100) → ((m₉ 94 58).toInt = 0) → (qHv (qIf (0 ≤ nn.toInt ∧ nn.toInt ≤ 60 ∧ zSl r1) (if rf = 0 then hMk aa 17 nn 0 r1 else hMk aa 16 nn (-1) r1) aa)) → (qHL (qIf (0 ≤ nn.toInt ∧ nn.toInt ≤ 60 ∧ zSl r1) (if rf = 0 then hMk aa 17 nn 0 r1 else hMk aa 16 nn (-1) r1) aa) (m₉ 94 11) (m₉ 94 61) (m₉ 94 59)) → P (some (.inl v)) m₉ := by
    intro v m₉ hf z q0 q1 q2 q3 q4 q5 q6 q7 q8 q9 q10 q11
    have e := zov_eq hf
    rw [e] at z ⊢
    try rw [e] at q0
    try rw [e] at q1
    try rw [e] at q2
    try rw [e] at q3
    try rw [e] at q4
    try rw [e] at q5
    try rw [e] at q6
    try rw [e] at q7
    try rw [e] at q8
    try rw [e] at q9
    try rw [e] at q10
    try rw [e] at q11
    exact KZ v m₉ z q0 q1 q2 q3 q4 q5 q6 q7 q8 q9 q10 q11
  refine g_243_0 rf nn r1 ?_
  have f1 : 0 ≤ (m 94 10).toInt ∧ (m 94 10).toInt ≤ 6 := rs_94_10 (m := m) hV
  have f2 : 0 ≤ (m 94 58).toInt ∧ (m 94 58).toInt ≤ 1 := rs_94_58 (m := m) hV
  have f3 : 0 ≤ (m 94 8).toInt ∧ (m 94 8).toInt ≤ 1 := rs_94_8 (m := m) hV
  have b4 := i_bd nn
  have li5 : (0 : Int32).toInt = 0 := rfl
  refine zd (fun (h6 : nn < (0 : Int32)) => ?_) (fun (h6 : ¬ nn < (0 : Int32)) => ?_)
  · skip
    have g7 := i_lt h6
    have hV8 : zV (ma_u m 94 0 (1 : Int32)) := uf_94_0 hV
    exact K ((0 : Int32)) _ (zF_u zF_rfl rfl) hV8 r_W (show zGW (T + 1) (m 94 55) (m 109) from by first | (exact GW_up r_GW (by omega)) | (exfalso; omega; done) | (exfalso; contradiction; done)) (show zGU (T + 1) (m 94 46) (m 99) from by first | (exact GU_up r_GU (by omega)) | (exact GU_0 r_GU) | (exfalso; omega; done) | (exfalso; contradiction; done)) r_OW r_GG (show qRB (m 99) (m 100) (m 98) (m 101) (m 102) (m 103) (m 107) (m 108) (m 109) (m 111) (m 112) (m 113) (m 114) (m 94 55) (m 94 46) ro 0 0 0 1 (qIf (0 ≤ nn.toInt ∧ nn.toInt ≤ 60 ∧ zSl r1) (if rf = 0 then hMk aa 17 nn 0 r1 else hMk aa 16 nn (-1) r1) aa) from by first | (rw [qIf_n (fun w => by have w1 := w.1; have w2 := w.2.1; have w3 := w.2.2.1; have w4 := w.2.2.2; omega)]; exact r_RB; done) | (exfalso; omega; done) | (exfalso; contradiction; done)) (show qMG (m 94 58) (m 106) (m 115) (m 94 57) (m 94 56) (m 99) (m 100) (qIf (0 ≤ nn.toInt ∧ nn.toInt ≤ 60 ∧ zSl r1) (if rf = 0 then hMk aa 17 nn 0 r1 else hMk aa 16 nn (-1) r1) aa) from by first | (rw [qIf_n (fun w => by have w1 := w.1; have w2 := w.2.1; have w3 := w.2.2.1; have w4 := w.2.2.2; omega)]; exact r_MG; done) | (exfalso; omega; done) | (exfalso; contradiction; done)) (show (qIf (0 ≤ nn.toInt ∧ nn.toInt ≤ 60 ∧ zSl r1) (if rf = 0 then hMk aa 17 nn 0 r1 else hMk aa 16 nn (-1) r1) aa) 87 8 = (m 94 58) from by first | (rw [qIf_n (fun w => by have w1 := w.1; have w2 := w.2.1; have w3 := w.2.2.1; have w4 := w.2.2.2; omega)]; exact r_MK; done) | (exfalso; omega; done) | (exfalso; contradiction; done)) r_WTS (show (m 94 58).toInt = 0 from by omega) (show qHv (qIf (0 ≤ nn.toInt ∧ nn.toInt ≤ 60 ∧ zSl r1) (if rf = 0 then hMk aa 17 nn 0 r1 else hMk aa 16 nn (-1) r1) aa) from by first | (rw [qIf_n (fun w => by have w1 := w.1; have w2 := w.2.1; have w3 := w.2.2.1; have w4 := w.2.2.2; omega)]; exact r_HV; done) | (exact r_HV) | (exfalso; omega; done) | (exfalso; contradiction; done)) (show qHL (qIf (0 ≤ nn.toInt ∧ nn.toInt ≤ 60 ∧ zSl r1) (if rf = 0 then hMk aa 17 nn 0 r1 else hMk aa 16 nn (-1) r1) aa) (m 94 11) (m 94 61) (m 94 59) from by first | (rw [qIf_n (fun w => by have w1 := w.1; have w2 := w.2.1; have w3 := w.2.2.1; have w4 := w.2.2.2; omega)]; exact r_HL; done) | (exact r_HL) | (exfalso; omega; done) | (exfalso; contradiction; done))
  · skip
    have g9 := i_nlt h6
    have li10 : (60 : Int32).toInt = 60 := rfl
    refine zd (fun (h11 : (60 : Int32) < nn) => ?_) (fun (h11 : ¬ (60 : Int32) < nn) => ?_)
    · skip
      have g12 := i_lt h11
      have hV13 : zV (ma_u m 94 0 (1 : Int32)) := uf_94_0 hV
      exact K ((0 : Int32)) _ (zF_u zF_rfl rfl) hV13 r_W (show zGW (T + 1) (m 94 55) (m 109) from by first | (exact GW_up r_GW (by omega)) | (exfalso; omega; done) | (exfalso; contradiction; done)) (show zGU (T + 1) (m 94 46) (m 99) from by first | (exact GU_up r_GU (by omega)) | (exact GU_0 r_GU) | (exfalso; omega; done) | (exfalso; contradiction; done)) r_OW r_GG (show qRB (m 99) (m 100) (m 98) (m 101) (m 102) (m 103) (m 107) (m 108) (m 109) (m 111) (m 112) (m 113) (m 114) (m 94 55) (m 94 46) ro 0 0 0 1 (qIf (0 ≤ nn.toInt ∧ nn.toInt ≤ 60 ∧ zSl r1) (if rf = 0 then hMk aa 17 nn 0 r1 else hMk aa 16 nn (-1) r1) aa) from by first | (rw [qIf_n (fun w => by have w1 := w.1; have w2 := w.2.1; have w3 := w.2.2.1; have w4 := w.2.2.2; omega)]; exact r_RB; done) | (exfalso; omega; done) | (exfalso; contradiction; done)) (show qMG (m 94 58) (m 106) (m 115) (m 94 57) (m 94 56) (m 99) (m 100) (qIf (0 ≤ nn.toInt ∧ nn.toInt ≤ 60 ∧ zSl r1) (if rf = 0 then hMk aa 17 nn 0 r1 else hMk aa 16 nn (-1) r1) aa) from by first | (rw [qIf_n (fun w => by have w1 := w.1; have w2 := w.2.1; have w3 := w.2.2.1; have w4 := w.2.2.2; omega)]; exact r_MG; done) | (exfalso; omega; done) | (exfalso; contradiction; done)) (show (qIf (0 ≤ nn.toInt ∧ nn.toInt ≤ 60 ∧ zSl r1) (if rf = 0 then hMk aa 17 nn 0 r1 else hMk aa 16 nn (-1) r1) aa) 87 8 = (m 94 58) from by first | (rw [qIf_n (fun w => by have w1 := w.1; have w2 := w.2.1; have w3 := w.2.2.1; have w4 := w.2.2.2; omega)]; exact r_MK; done) | (exfalso; omega; done) | (exfalso; contradiction; done)) r_WTS (show (m 94 58).toInt = 0 from by omega) (show qHv (qIf (0 ≤ nn.toInt ∧ nn.toInt ≤ 60 ∧ zSl r1) (if rf = 0 then hMk aa 17 nn 0 r1 else hMk aa 16 nn (-1) r1) aa) from by first | (rw [qIf_n (fun w => by have w1 := w.1; have w2 := w.2.1; have w3 := w.2.2.1; have w4 := w.2.2.2; omega)]; exact r_HV; done) | (exact r_HV) | (exfalso; omega; done) | (exfalso; contradiction; done)) (show qHL (qIf (0 ≤ nn.toInt ∧ nn.toInt ≤ 60 ∧ zSl r1) (if rf = 0 then hMk aa 17 nn 0 r1 else hMk aa 16 nn (-1) r1) aa) (m 94 11) (m 94 61) (m 94 59) from by first | (rw [qIf_n (fun w => by have w1 := w.1; have w2 := w.2.1; have w3 := w.2.2.1; have w4 := w.2.2.2; omega)]; exact r_HL; done) | (exact r_HL) | (exfalso; omega; done) | (exfalso; contradiction; done))
    · skip
      have g14 := i_nlt h11
      have b15 := i_bd r1
      refine zd (fun (h16 : r1 < (0 : Int32)) => ?_) (fun (h16 : ¬ r1 < (0 : Int32)) => ?_)
      · skip
        have g17 := i_lt h16
        have hV18 : zV (ma_u m 94 0 (1 : Int32)) := uf_94_0 hV
        exact K ((0 : Int32)) _ (zF_u zF_rfl rfl) hV18 r_W (show zGW (T + 1) (m 94 55) (m 109) from by first | (exact GW_up r_GW (by omega)) | (exfalso; omega; done) | (exfalso; contradiction; done)) (show zGU (T + 1) (m 94 46) (m 99) from by first | (exact GU_up r_GU (by omega)) | (exact GU_0 r_GU) | (exfalso; omega; done) | (exfalso; contradiction; done)) r_OW r_GG (show qRB (m 99) (m 100) (m 98) (m 101) (m 102) (m 103) (m 107) (m 108) (m 109) (m 111) (m 112) (m 113) (m 114) (m 94 55) (m 94 46) ro 0 0 0 1 (qIf (0 ≤ nn.toInt ∧ nn.toInt ≤ 60 ∧ zSl r1) (if rf = 0 then hMk aa 17 nn 0 r1 else hMk aa 16 nn (-1) r1) aa) from by first | (rw [qIf_n (fun w => by have w1 := w.1; have w2 := w.2.1; have w3 := w.2.2.1; have w4 := w.2.2.2; omega)]; exact r_RB; done) | (exfalso; omega; done) | (exfalso; contradiction; done)) (show qMG (m 94 58) (m 106) (m 115) (m 94 57) (m 94 56) (m 99) (m 100) (qIf (0 ≤ nn.toInt ∧ nn.toInt ≤ 60 ∧ zSl r1) (if rf = 0 then hMk aa 17 nn 0 r1 else hMk aa 16 nn (-1) r1) aa) from by first | (rw [qIf_n (fun w => by have w1 := w.1; have w2 := w.2.1; have w3 := w.2.2.1; have w4 := w.2.2.2; omega)]; exact r_MG; done) | (exfalso; omega; done) | (exfalso; contradiction; done)) (show (qIf (0 ≤ nn.toInt ∧ nn.toInt ≤ 60 ∧ zSl r1) (if rf = 0 then hMk aa 17 nn 0 r1 else hMk aa 16 nn (-1) r1) aa) 87 8 = (m 94 58) from by first | (rw [qIf_n (fun w => by have w1 := w.1; have w2 := w.2.1; have w3 := w.2.2.1; have w4 := w.2.2.2; omega)]; exact r_MK; done) | (exfalso; omega; done) | (exfalso; contradiction; done)) r_WTS (show (m 94 58).toInt = 0 from by omega) (show qHv (qIf (0 ≤ nn.toInt ∧ nn.toInt ≤ 60 ∧ zSl r1) (if rf = 0 then hMk aa 17 nn 0 r1 else hMk aa 16 nn (-1) r1) aa) from by first | (rw [qIf_n (fun w => by have w1 := w.1; have w2 := w.2.1; have w3 := w.2.2.1; have w4 := w.2.2.2; omega)]; exact r_HV; done) | (exact r_HV) | (exfalso; omega; done) | (exfalso; contradiction; done)) (show qHL (qIf (0 ≤ nn.toInt ∧ nn.toInt ≤ 60 ∧ zSl r1) (if rf = 0 then hMk aa 17 nn 0 r1 else hMk aa 16 nn (-1) r1) aa) (m 94 11) (m 94 61) (m 94 59) from by first | (rw [qIf_n (fun w => by have w1 := w.1; have w2 := w.2.1; have w3 := w.2.2.1; have w4 := w.2.2.2; omega)]; exact r_HL; done) | (exact r_HL) | (exfalso; omega; done) | (exfalso; contradiction; done))
      · skip
        have g19 := i_nlt h16
        have li20 : (16 : Int32).toInt = 16 := rfl
        refine zd (fun (h21 : (16 : Int32) ≤ r1) => ?_) (fun (h21 : ¬ (16 : Int32) ≤ r1) => ?_)
        · skip
          have g22 := i_le h21
          have hV23 : zV (ma_u m 94 0 (1 : Int32)) := uf_94_0 hV
          exact K ((0 : Int32)) _ (zF_u zF_rfl rfl) hV23 r_W (show zGW (T + 1) (m 94 55) (m 109) from by first | (exact GW_up r_GW (by omega)) | (exfalso; omega; done) | (exfalso; contradiction; done)) (show zGU (T + 1) (m 94 46) (m 99) from by first | (exact GU_up r_GU (by omega)) | (exact GU_0 r_GU) | (exfalso; omega; done) | (exfalso; contradiction; done)) r_OW r_GG (show qRB (m 99) (m 100) (m 98) (m 101) (m 102) (m 103) (m 107) (m 108) (m 109) (m 111) (m 112) (m 113) (m 114) (m 94 55) (m 94 46) ro 0 0 0 1 (qIf (0 ≤ nn.toInt ∧ nn.toInt ≤ 60 ∧ zSl r1) (if rf = 0 then hMk aa 17 nn 0 r1 else hMk aa 16 nn (-1) r1) aa) from by first | (rw [qIf_n (fun w => by have w1 := w.1; have w2 := w.2.1; have w3 := w.2.2.1; have w4 := w.2.2.2; omega)]; exact r_RB; done) | (exfalso; omega; done) | (exfalso; contradiction; done)) (show qMG (m 94 58) (m 106) (m 115) (m 94 57) (m 94 56) (m 99) (m 100) (qIf (0 ≤ nn.toInt ∧ nn.toInt ≤ 60 ∧ zSl r1) (if rf = 0 then hMk aa 17 nn 0 r1 else hMk aa 16 nn (-1) r1) aa) from by first | (rw [qIf_n (fun w => by have w1 := w.1; have w2 := w.2.1; have w3 := w.2.2.1; have w4 := w.2.2.2; omega)]; exact r_MG; done) | (exfalso; omega; done) | (exfalso; contradiction; done)) (show (qIf (0 ≤ nn.toInt ∧ nn.toInt ≤ 60 ∧ zSl r1) (if rf = 0 then hMk aa 17 nn 0 r1 else hMk aa 16 nn (-1) r1) aa) 87 8 = (m 94 58) from by first | (rw [qIf_n (fun w => by have w1 := w.1; have w2 := w.2.1; have w3 := w.2.2.1; have w4 := w.2.2.2; omega)]; exact r_MK; done) | (exfalso; omega; done) | (exfalso; contradiction; done)) r_WTS (show (m 94 58).toInt = 0 from by omega) (show qHv (qIf (0 ≤ nn.toInt ∧ nn.toInt ≤ 60 ∧ zSl r1) (if rf = 0 then hMk aa 17 nn 0 r1 else hMk aa 16 nn (-1) r1) aa) from by first | (rw [qIf_n (fun w => by have w1 := w.1; have w2 := w.2.1; have w3 := w.2.2.1; have w4 := w.2.2.2; omega)]; exact r_HV; done) | (exact r_HV) | (exfalso; omega; done) | (exfalso; contradiction; done)) (show qHL (qIf (0 ≤ nn.toInt ∧ nn.toInt ≤ 60 ∧ zSl r1) (if rf = 0 then hMk aa 17 nn 0 r1 else hMk aa 16 nn (-1) r1) aa) (m 94 11) (m 94 61) (m 94 59) from by first | (rw [qIf_n (fun w => by have w1 := w.1; have w2 := w.2.1; have w3 := w.2.2.1; have w4 := w.2.2.2; omega)]; exact r_HL; done) | (exact r_HL) | (exfalso; omega; done) | (exfalso; contradiction; done))
        · skip
          have g24 := i_nle h21
          refine zd (fun (h25 : (m 94 8) = (0 : Int32)) => ?_) (fun (h25 : ¬ (m 94 8) = (0 : Int32)) => ?_)
          · skip
            have g26 := i_eq h25
            exfalso; omega
          · skip
            have g27 := i_ne h25
            have b28 := i_bd rf
            refine zd (fun (h29 : rf = (0 : Int32)) => ?_) (fun (h29 : ¬ rf = (0 : Int32)) => ?_)
            · skip
              have g30 := i_eq h29
              have li31 : (17 : Int32).toInt = 17 := rfl
              have hV32 : zV (ma_u m 94 0 (0 : Int32)) := uf_94_0 hV
              have f33 : 0 ≤ (m 94 7).toInt ∧ (m 94 7).toInt ≤ 16 := rs_94_7 (m := m) hV
              refine sp_183rv (LL := (0 : Int64)) ((17 : Int32)) (nn) (r1) hV32 (by omega) (by omega) (by omega) (by omega) (by omega) (by omega) (by omega) (show 16 ≤ (17 : Int32).toInt ∨ (17 : Int32).toInt < (m 94 7).toInt from by omega) (by omega) r_W r_GW r_GU r_OW r_GG (show (m 94 10).toInt = 2 ∧ (m 94 58).toInt = 0 from by omega) (show (m 94 8).toInt = 1 from by omega) r_RB r_HV r_HL r_MG r_MK r_WTS (show ∀ j : Nat, (j : Int) < nn.toInt → (zbit (0 : Int64) (Int32.ofNat j) ≠ 0 ↔ ((17 : Int32) = 16 ∨ ((17 : Int32) < 16 ∧ (((m 98) (17 : Int32).toNatClampNeg >>> (Int32.ofNat j &&& 31)) &&& 1) = 1))) from by first | (exact fun j hj => ⟨fun _ => Or.inl rfl, fun _ => zb_all j (by omega)⟩) | (exact fun j hj => ⟨fun w => absurd (zb_non j (by omega)) w, fun w => w.elim (fun z => absurd z (by decide)) (fun z => absurd z.1 (by decide))⟩) | (exfalso; omega; done) | (exfalso; contradiction; done)) (fun v2 m1 hV_m1 p0_m1 p1_m1 p2_m1 p3_m1 p4_m1 p5_m1 p6_m1 p7_m1 p8_m1 p9_m1 p10_m1 p11_m1 p12_m1 => zmi_n ?_)
              have p0_m1 : zW (m 94 7) (m 98) (m1 101) (m1 102) (m1 108) := p0_m1
              have p1_m1 : zGW (T + 1) (m1 94 55) (m1 109) := p1_m1
              have p2_m1 : zGU (T + 1) (m1 94 46) (m1 99) := p2_m1
              have p3_m1 : zOw (m1 99) (m1 103) (m1 111) := p3_m1
              have p4_m1 : zGG (m1 94 58) (m1 94 56) (m1 94 57) (m1 106) := p4_m1
              have p5_m1 : qRB (m1 99) (m1 100) (m 98) (m1 101) (m1 102) (m1 103) (m1 107) (m1 108) (m1 109) (m1 111) (m1 112) (m1 113) (m1 114) (m1 94 55) (m1 94 46) ro 0 0 0 1 (hMk aa (17 : Int32) nn (0 : Int64) r1) := p5_m1
              have p6_m1 : qMG (m1 94 58) (m1 106) (m1 115) (m1 94 57) (m1 94 56) (m1 99) (m1 100) (hMk aa (17 : Int32) nn (0 : Int64) r1) := p6_m1
              have p7_m1 : (hMk aa (17 : Int32) nn (0 : Int64) r1) 87 8 = (m1 94 58) := p7_m1
              have p8_m1 : (m1 94 45).toInt = sm (zbU (m1 99)) (m1 102) 3100 := p8_m1
              have p9_m1 : (m1 94 58).toInt = 0 := p9_m1
              have p10_m1 : v2 = hMn aa nn := p10_m1
              have p11_m1 : qHv (hMk aa (17 : Int32) nn (0 : Int64) r1) := p11_m1
              have p12_m1 : qHL (hMk aa (17 : Int32) nn (0 : Int64) r1) (m 94 11) (m1 94 61) (m1 94 59) := p12_m1
              have f34 : 0 ≤ (m1 94 58).toInt ∧ (m1 94 58).toInt ≤ 1 := rs_94_58 (m := (zov wr_183 (ma_u m 94 0 (0 : Int32)) m1)) hV_m1
              have b35 := i_bd v2
              exact K (v2) _ (zF_zov (zF_u zF_rfl rfl) ws_183_243) hV_m1 p0_m1 p1_m1 p2_m1 p3_m1 p4_m1 (show qRB (m1 99) (m1 100) (m 98) (m1 101) (m1 102) (m1 103) (m1 107) (m1 108) (m1 109) (m1 111) (m1 112) (m1 113) (m1 114) (m1 94 55) (m1 94 46) ro 0 0 0 1 (qIf (0 ≤ nn.toInt ∧ nn.toInt ≤ 60 ∧ zSl r1) (if rf = 0 then hMk aa 17 nn 0 r1 else hMk aa 16 nn (-1) r1) aa) from by first | (rw [qIf_y ⟨by omega, by omega, by omega, by omega⟩, if_pos (i_zer (by omega))]; exact p5_m1; done) | (exfalso; omega; done) | (exfalso; contradiction; done)) (show qMG (m1 94 58) (m1 106) (m1 115) (m1 94 57) (m1 94 56) (m1 99) (m1 100) (qIf (0 ≤ nn.toInt ∧ nn.toInt ≤ 60 ∧ zSl r1) (if rf = 0 then hMk aa 17 nn 0 r1 else hMk aa 16 nn (-1) r1) aa) from by first | (rw [qIf_y ⟨by omega, by omega, by omega, by omega⟩, if_pos (i_zer (by omega))]; exact p6_m1; done) | (exfalso; omega; done) | (exfalso; contradiction; done)) (show (qIf (0 ≤ nn.toInt ∧ nn.toInt ≤ 60 ∧ zSl r1) (if rf = 0 then hMk aa 17 nn 0 r1 else hMk aa 16 nn (-1) r1) aa) 87 8 = (m1 94 58) from by first | (rw [qIf_y ⟨by omega, by omega, by omega, by omega⟩, if_pos (i_zer (by omega))]; exact p7_m1; done) | (exfalso; omega; done) | (exfalso; contradiction; done)) p8_m1 (show (m1 94 58).toInt = 0 from by omega) (show qHv (qIf (0 ≤ nn.toInt ∧ nn.toInt ≤ 60 ∧ zSl r1) (if rf = 0 then hMk aa 17 nn 0 r1 else hMk aa 16 nn (-1) r1) aa) from by first | (rw [qIf_y ⟨by omega, by omega, by omega, by omega⟩, if_pos (i_zer (by omega))]; exact p11_m1; done) | (exact p11_m1) | (exfalso; omega; done) | (exfalso; contradiction; done)) (show qHL (qIf (0 ≤ nn.toInt ∧ nn.toInt ≤ 60 ∧ zSl r1) (if rf = 0 then hMk aa 17 nn 0 r1 else hMk aa 16 nn (-1) r1) aa) (m 94 11) (m1 94 61) (m1 94 59) from by first | (rw [qIf_y ⟨by omega, by omega, by omega, by omega⟩, if_pos (i_zer (by omega))]; exact p12_m1; done) | (exact p12_m1) | (exfalso; omega; done) | (exfalso; contradiction; done))
            · skip
              have g36 := i_ne h29
              have hV37 : zV (ma_u m 94 0 (0 : Int32)) := uf_94_0 hV
              have f38 : 0 ≤ (m 94 7).toInt ∧ (m 94 7).toInt ≤ 16 := rs_94_7 (m := m) hV
              refine sp_183rv (LL := (-1 : Int64)) ((16 : Int32)) (nn) (r1) hV37 (by omega) (by omega) (by omega) (by omega) (by omega) (by omega) (by omega) (show 16 ≤ (16 : Int32).toInt ∨ (16 : Int32).toInt < (m 94 7).toInt from by omega) (by omega) r_W r_GW r_GU r_OW r_GG (show (m 94 10).toInt = 2 ∧ (m 94 58).toInt = 0 from by omega) (show (m 94 8).toInt = 1 from by omega) r_RB r_HV r_HL r_MG r_MK r_WTS (show ∀ j : Nat, (j : Int) < nn.toInt → (zbit (-1 : Int64) (Int32.ofNat j) ≠ 0 ↔ ((16 : Int32) = 16 ∨ ((16 : Int32) < 16 ∧ (((m 98) (16 : Int32).toNatClampNeg >>> (Int32.ofNat j &&& 31)) &&& 1) = 1))) from by first | (exact fun j hj => ⟨fun _ => Or.inl rfl, fun _ => zb_all j (by omega)⟩) | (exact fun j hj => ⟨fun w => absurd (zb_non j (by omega)) w, fun w => w.elim (fun z => absurd z (by decide)) (fun z => absurd z.1 (by decide))⟩) | (exfalso; omega; done) | (exfalso; contradiction; done)) (fun v4 m3 hV_m3 p0_m3 p1_m3 p2_m3 p3_m3 p4_m3 p5_m3 p6_m3 p7_m3 p8_m3 p9_m3 p10_m3 p11_m3 p12_m3 => zmi_n ?_)
              have p0_m3 : zW (m 94 7) (m 98) (m3 101) (m3 102) (m3 108) := p0_m3
              have p1_m3 : zGW (T + 1) (m3 94 55) (m3 109) := p1_m3
              have p2_m3 : zGU (T + 1) (m3 94 46) (m3 99) := p2_m3
              have p3_m3 : zOw (m3 99) (m3 103) (m3 111) := p3_m3
              have p4_m3 : zGG (m3 94 58) (m3 94 56) (m3 94 57) (m3 106) := p4_m3
              have p5_m3 : qRB (m3 99) (m3 100) (m 98) (m3 101) (m3 102) (m3 103) (m3 107) (m3 108) (m3 109) (m3 111) (m3 112) (m3 113) (m3 114) (m3 94 55) (m3 94 46) ro 0 0 0 1 (hMk aa (16 : Int32) nn (-1 : Int64) r1) := p5_m3
              have p6_m3 : qMG (m3 94 58) (m3 106) (m3 115) (m3 94 57) (m3 94 56) (m3 99) (m3 100) (hMk aa (16 : Int32) nn (-1 : Int64) r1) := p6_m3
              have p7_m3 : (hMk aa (16 : Int32) nn (-1 : Int64) r1) 87 8 = (m3 94 58) := p7_m3
              have p8_m3 : (m3 94 45).toInt = sm (zbU (m3 99)) (m3 102) 3100 := p8_m3
              have p9_m3 : (m3 94 58).toInt = 0 := p9_m3
              have p10_m3 : v4 = hMn aa nn := p10_m3
              have p11_m3 : qHv (hMk aa (16 : Int32) nn (-1 : Int64) r1) := p11_m3
              have p12_m3 : qHL (hMk aa (16 : Int32) nn (-1 : Int64) r1) (m 94 11) (m3 94 61) (m3 94 59) := p12_m3
              have f39 : 0 ≤ (m3 94 58).toInt ∧ (m3 94 58).toInt ≤ 1 := rs_94_58 (m := (zov wr_183 (ma_u m 94 0 (0 : Int32)) m3)) hV_m3
              have b40 := i_bd v4
              exact K (v4) _ (zF_zov (zF_u zF_rfl rfl) ws_183_243) hV_m3 p0_m3 p1_m3 p2_m3 p3_m3 p4_m3 (show qRB (m3 99) (m3 100) (m 98) (m3 101) (m3 102) (m3 103) (m3 107) (m3 108) (m3 109) (m3 111) (m3 112) (m3 113) (m3 114) (m3 94 55) (m3 94 46) ro 0 0 0 1 (qIf (0 ≤ nn.toInt ∧ nn.toInt ≤ 60 ∧ zSl r1) (if rf = 0 then hMk aa 17 nn 0 r1 else hMk aa 16 nn (-1) r1) aa) from by first | (rw [qIf_y ⟨by omega, by omega, by omega, by omega⟩, if_neg (i_nz2 (by omega))]; exact p5_m3; done) | (exfalso; omega; done) | (exfalso; contradiction; done)) (show qMG (m3 94 58) (m3 106) (m3 115) (m3 94 57) (m3 94 56) (m3 99) (m3 100) (qIf (0 ≤ nn.toInt ∧ nn.toInt ≤ 60 ∧ zSl r1) (if rf = 0 then hMk aa 17 nn 0 r1 else hMk aa 16 nn (-1) r1) aa) from by first | (rw [qIf_y ⟨by omega, by omega, by omega, by omega⟩, if_neg (i_nz2 (by omega))]; exact p6_m3; done) | (exfalso; omega; done) | (exfalso; contradiction; done)) (show (qIf (0 ≤ nn.toInt ∧ nn.toInt ≤ 60 ∧ zSl r1) (if rf = 0 then hMk aa 17 nn 0 r1 else hMk aa 16 nn (-1) r1) aa) 87 8 = (m3 94 58) from by first | (rw [qIf_y ⟨by omega, by omega, by omega, by omega⟩, if_neg (i_nz2 (by omega))]; exact p7_m3; done) | (exfalso; omega; done) | (exfalso; contradiction; done)) p8_m3 (show (m3 94 58).toInt = 0 from by omega) (show qHv (qIf (0 ≤ nn.toInt ∧ nn.toInt ≤ 60 ∧ zSl r1) (if rf = 0 then hMk aa 17 nn 0 r1 else hMk aa 16 nn (-1) r1) aa) from by first | (rw [qIf_y ⟨by omega, by omega, by omega, by omega⟩, if_neg (i_nz2 (by omega))]; exact p11_m3; done) | (exact p11_m3) | (exfalso; omega; done) | (exfalso; contradiction; done)) (show qHL (qIf (0 ≤ nn.toInt ∧ nn.toInt ≤ 60 ∧ zSl r1) (if rf = 0 then hMk aa 17 nn 0 r1 else hMk aa 16 nn (-1) r1) aa) (m 94 11) (m3 94 61) (m3 94 59) from by first | (rw [qIf_y ⟨by omega, by omega, by omega, by omega⟩, if_neg (i_nz2 (by omega))]; exact p12_m3; done) | (exact p12_m3) | (exfalso; omega; done) | (exfalso; contradiction; done))

/-! from 95.s10 -/
/-! REGIONS, the class (written by wip/tools/gen15z.py) -/
/-! REGIONS by numbers (87: 0 all words, 3 the SIZE, 4 how many, 5 the SHARE, 9 the present one; 92 the tops) -/
/-- the least EMPTY one from r on; -1: none -/
def rLf (a : Nat → Nat → Int32) : Nat → Nat → Int
  | 0, _ => -1
  | f + 1, r => if (r : Int) < (a 87 4).toInt then (if (a 92 r).toInt = 0 then (r : Int) else rLf a f (r + 1)) else -1
def rLe (a : Nat → Nat → Int32) : Int := rLf a 93 0
/-- how many are EMPTY -/
def rEf (a : Nat → Nat → Int32) : Nat → Int
  | 0 => 0
  | r + 1 => rEf a r + (if (r : Int) < (a 87 4).toInt ∧ (a 92 r).toInt = 0 then 1 else 0)
/-- words kept in region r, of the first n -/
def rKf (a : Nat → Nat → Int32) (r : Int) : Nat → Int
  | 0 => 0
  | n + 1 => rKf a r n + (if a 126 n ≠ 0 ∧ (a 130 n).toInt / (a 87 3).toInt = r then (a 128 n).toInt else 0)
/-- words kept, region by region, to row 93 -/
def rSk (a : Nat → Nat → Int32) (n : Nat) : Nat → Nat → Int32 := fun c k => if c = 93 ∧ k < 93 then Int32.ofInt (rKf a (k : Int) n) else a c k
/-- where nothing is left it is EMPTY (the first n) -/
def rEm (a : Nat → Nat → Int32) (n : Nat) : Nat → Nat → Int32 := fun c k => if c = 92 ∧ k < n ∧ (a 93 k).toInt = 0 then 0 else a c k
/-- the present one and the fuller ones (of the first n) stay -/
def rCa (a : Nat → Nat → Int32) (n : Nat) : Nat → Nat → Int32 := fun c k => if c = 93 ∧ k < n ∧ ((k : Int) = (a 87 9).toInt ∨ (a 87 5).toInt * (a 87 3).toInt < (a 93 k).toInt * 100) then 0 else a c k
/-- where one (of the first n) is held it stays -/
def rCb (a : Nat → Nat → Int32) : Nat → Nat → Nat → Int32
  | 0 => a
  | n + 1 => if a 126 n ≠ 0 ∧ 0 < (a 133 n).toInt then ma_u (rCb a n) 93 ((a 130 n).toInt / (a 87 3).toInt).toNat 0 else rCb a n
/-- the first of the fewest that are not 0 -/
def rFg (l : Nat → Int) : Nat → Int
  | 0 => -1
  | r + 1 => if 0 < l r ∧ (rFg l r = -1 ∨ l r < l (rFg l r).toNat) then (r : Int) else rFg l r
def rTo (a : Nat → Nat → Int32) (t sz : Int) : Int := if 0 ≤ t ∧ t < 93 ∧ (a 92 t.toNat).toInt + sz ≤ (a 87 3).toInt then t else rLe a
/-- one goes to the end of region t -/
def rM1 (a : Nat → Nat → Int32) (n : Nat) (t : Int) : Nat → Nat → Int32 := ma_u (aMo a n (Int32.ofInt (t * (a 87 3).toInt + (a 92 t.toNat).toInt))) 92 t.toNat (a 92 t.toNat + a 128 n)
/-- all between p and e go; where to last; whether all found a place -/
def rMf (e : Int) : Nat → (Nat → Nat → Int32) → Int → Int → (Nat → Nat → Int32) × Int × Bool
  | 0, a, _, t => (a, t, true)
  | f + 1, a, p, t => if p < e then (if (zOb a p).toInt < 0 then rMf e f a (p + 1) t
      else if rTo a t (a 128 (zOb a p).toNatClampNeg).toInt = -1 then (a, t, false)
      else rMf e f (rM1 a (zOb a p).toNatClampNeg (rTo a t (a 128 (zOb a p).toNatClampNeg).toInt)) (p + (a 128 (zOb a p).toNatClampNeg).toInt) (rTo a t (a 128 (zOb a p).toNatClampNeg).toInt)) else (a, t, true)
def rMv (a : Nat → Nat → Int32) (e p t : Int) : (Nat → Nat → Int32) × Int × Bool := rMf e (e - p).toNat a p t
/-- one sparse region behind another is emptied -/
def rFw (a : Nat → Nat → Int32) : Int := rFg (fun k => (a 93 k).toInt) 93
def rM2 (a : Nat → Nat → Int32) (r t : Int) : (Nat → Nat → Int32) × Int × Bool := rMv a (r * (a 87 3).toInt + (a 92 r.toNat).toInt) (r * (a 87 3).toInt) t
def rOf : Nat → (Nat → Nat → Int32) → Int → (Nat → Nat → Int32) × Int
  | 0, a, t => (a, t)
  | f + 1, a, t => if rFw a = -1 then (a, t)
      else if (rM2 a (rFw a) t).2.2 = true then rOf f (ma_u (ma_u (rM2 a (rFw a) t).1 93 (rFw a).toNat 0) 92 (rFw a).toNat 0) (rM2 a (rFw a) t).2.1
      else ((rM2 a (rFw a) t).1, (rM2 a (rFw a) t).2.1)
/-- a cleaning: what leaves, where to last -/
def rB0 (a : Nat → Nat → Int32) : Nat → Nat → Int32 := rCb (rCa (rEm (rSk (aSw a) 512) 93) 93) 512
def rC0 (a : Nat → Nat → Int32) : (Nat → Nat → Int32) × Int := rOf 93 (rB0 a) (-1)
def rPr (a : Nat → Nat → Int32) (t : Int) : Int32 := if t ≠ -1 then Int32.ofInt t else if (a 92 (a 87 9).toNatClampNeg).toInt = 0 ∧ rLe a ≠ -1 then Int32.ofInt (rLe a) else a 87 9
def rCl (a : Nat → Nat → Int32) : Nat → Nat → Int32 := ma_u (rC0 a).1 87 9 (rPr (rC0 a).1 (rC0 a).2)
/-- what holds of a heap of regions -/
def qRv (a : Nat → Nat → Int32) : Prop := qI a ∧ a 87 2 = 0 ∧ ((16 ≤ (a 87 3).toInt ∧ (a 87 3).toInt ≤ 256) ∧ (1 ≤ (a 87 4).toInt ∧ (a 87 4).toInt ≤ 93) ∧ (0 ≤ (a 87 9).toInt ∧ (a 87 9).toInt < (a 87 4).toInt) ∧ (0 ≤ (a 87 5).toInt ∧ (a 87 5).toInt ≤ 100) ∧ (a 87 0).toInt = (a 87 4).toInt * (a 87 3).toInt ∧ (a 87 0).toInt ≤ 1500) ∧ (∀ r : Nat, r < 93 → (0 ≤ (a 92 r).toInt ∧ (a 92 r).toInt ≤ (a 87 3).toInt) ∧ ((a 87 4).toInt ≤ (r : Int) → a 92 r = 0)) ∧ ∀ n, xAl a n → (a 130 n).toInt / (a 87 3).toInt < (a 87 4).toInt ∧ (a 130 n).toInt + (a 128 n).toInt ≤ (a 130 n).toInt / (a 87 3).toInt * (a 87 3).toInt + (a 92 ((a 130 n).toInt / (a 87 3).toInt).toNat).toInt
section F12
variable {a b : Nat → Nat → Int32} {l l2 : Nat → Int} {p e t s q x sz : Int} {n k r f : Nat} {to : Int32}
theorem dv_e (hs : 0 < s) (h0 : 0 ≤ x) (h1 : x < s) : (t * s + x) / s = t := by
  rw [Int.add_comm, Int.add_mul_ediv_right _ _ (by omega), Int.ediv_eq_zero_of_lt h0 h1, Int.zero_add]
theorem dv_b (hs : 0 < s) : p / s * s ≤ p ∧ p < p / s * s + s := by
  refine ⟨Int.ediv_mul_le p (by omega), ?_⟩
  have h := Int.lt_ediv_add_one_mul_self p hs
  rw [Int.add_mul, Int.one_mul] at h
  exact h
theorem ml_le (h : q < t) (hs : 0 ≤ s) : q * s + s ≤ t * s := by
  have g := Int.mul_le_mul_of_nonneg_right (show q + 1 ≤ t by omega) hs
  rw [Int.add_mul, Int.one_mul] at g
  exact g
theorem Lf_e (h : ¬ (r : Int) < (a 87 4).toInt) : rLf a f r = -1 := by
  cases f with
  | zero => rfl
  | succ f => exact if_neg h
theorem Lf_y (h : (r : Int) < (a 87 4).toInt) (h0 : (a 92 r).toInt = 0) : rLf a (f + 1) r = (r : Int) := by
  show (if (r : Int) < (a 87 4).toInt then _ else _) = _
  rw [if_pos h, if_pos h0]
theorem Lf_n (h : (r : Int) < (a 87 4).toInt) (h0 : (a 92 r).toInt ≠ 0) : rLf a (f + 1) r = rLf a f (r + 1) := by
  show (if (r : Int) < (a 87 4).toInt then _ else _) = _
  rw [if_pos h, if_neg h0]
theorem Lf_all : ∀ (f r : Nat), (rLf a f r = -1 ∧ ∀ j : Nat, r ≤ j → j < r + f → (j : Int) < (a 87 4).toInt → (a 92 j).toInt ≠ 0) ∨ ((r : Int) ≤ rLf a f r ∧ rLf a f r < (r : Int) + f ∧ rLf a f r < (a 87 4).toInt ∧ (a 92 (rLf a f r).toNat).toInt = 0) := by
  intro f
  induction f with
  | zero => intro r; exact Or.inl ⟨rfl, fun j h1 h2 => by omega⟩
  | succ f ih =>
    intro r
    by_cases c : (r : Int) < (a 87 4).toInt
    · by_cases d : (a 92 r).toInt = 0
      · rw [Lf_y c d]
        exact Or.inr ⟨by omega, by omega, c, by rw [Int.toNat_natCast]; exact d⟩
      · rw [Lf_n c d]
        rcases ih (r + 1) with w | w
        · refine Or.inl ⟨w.1, fun j h1 h2 h3 => ?_⟩
          by_cases z : j = r
          · rw [z]
            exact d
          · exact w.2 j (by omega) (by omega) h3
        · exact Or.inr ⟨by omega, by omega, w.2.2.1, w.2.2.2⟩
    · rw [Lf_e c]
      exact Or.inl ⟨rfl, fun j h1 h2 h3 => by omega⟩
theorem Le_y (h : rLe a ≠ -1) : 0 ≤ rLe a ∧ rLe a < 93 ∧ rLe a < (a 87 4).toInt ∧ (a 92 (rLe a).toNat).toInt = 0 := by
  rcases Lf_all (a := a) 93 0 with w | w
  · exact absurd w.1 h
  · exact ⟨by unfold rLe; omega, by unfold rLe; omega, w.2.2.1, w.2.2.2⟩
/-- where it goes to -/
theorem To_y (h : rTo a t sz ≠ -1) (hs : sz ≤ (a 87 3).toInt) : 0 ≤ rTo a t sz ∧ rTo a t sz < 93 ∧ (a 92 (rTo a t sz).toNat).toInt + sz ≤ (a 87 3).toInt ∧ (rTo a t sz = t ∨ (rTo a t sz < (a 87 4).toInt ∧ (a 92 (rTo a t sz).toNat).toInt = 0)) := by
  unfold rTo at h ⊢
  split
  · next w => exact ⟨w.1, w.2.1, w.2.2, Or.inl rfl⟩
  · next w =>
    rw [if_neg w] at h
    have q := Le_y h
    exact ⟨q.1, q.2.1, by omega, Or.inr ⟨q.2.2.1, q.2.2.2⟩⟩
/-! all of a region -/
theorem M1_r {c k : Nat} (h1 : c ≠ 71) (h2 : c ≠ 130) (h3 : c ≠ 92) : rM1 a n t c k = a c k := by
  unfold rM1
  rw [xu_o (fun w => h3 w.1), Mo_r h1 h2]
theorem M1_al : xAl (rM1 a n t) k ↔ xAl a k := by
  unfold xAl
  rw [M1_r (by decide) (by decide) (by decide)]
theorem S1_m1 (h : zS1 a) : zS1 (rM1 a n t) := fun m hm => by
  rw [M1_r (c := 128) (by decide) (by decide) (by decide)]
  exact h m (M1_al.1 hm)
theorem rMf_e (h : ¬ p < e) : rMf e f a p t = (a, t, true) := by
  cases f with
  | zero => rfl
  | succ f => exact if_neg h
theorem rMf_fr (h : p < e) (hf : (zOb a p).toInt < 0) : rMf e (f + 1) a p t = rMf e f a (p + 1) t := by
  show (if p < e then _ else _) = _
  rw [if_pos h, if_pos hf]
theorem rMf_no (h : p < e) (hf : 0 ≤ (zOb a p).toInt) (hn : rTo a t (a 128 (zOb a p).toNatClampNeg).toInt = -1) : rMf e (f + 1) a p t = (a, t, false) := by
  show (if p < e then _ else _) = _
  rw [if_pos h, if_neg (by omega), if_pos hn]
theorem rMf_go (h : p < e) (hf : 0 ≤ (zOb a p).toInt) (hn : rTo a t (a 128 (zOb a p).toNatClampNeg).toInt ≠ -1) : rMf e (f + 1) a p t = rMf e f (rM1 a (zOb a p).toNatClampNeg (rTo a t (a 128 (zOb a p).toNatClampNeg).toInt)) (p + (a 128 (zOb a p).toNatClampNeg).toInt) (rTo a t (a 128 (zOb a p).toNatClampNeg).toInt) := by
  show (if p < e then _ else _) = _
  rw [if_pos h, if_neg (by omega), if_neg hn]
theorem rMf_fu : ∀ (f g : Nat) (a : Nat → Nat → Int32) (p t : Int), zS1 a → (e - p).toNat ≤ f → (e - p).toNat ≤ g → rMf e f a p t = rMf e g a p t := by
  intro f
  induction f with
  | zero =>
    intro g a p t h hf hg
    rw [rMf_e (by omega), rMf_e (by omega)]
  | succ f ih =>
    intro g a p t h hf hg
    by_cases c : p < e
    · cases g with
      | zero => omega
      | succ g =>
        by_cases d : (zOb a p).toInt < 0
        · rw [rMf_fr c d, rMf_fr c d]
          exact ih g _ _ _ h (by omega) (by omega)
        · have s := h _ (Ob_xl (a := a) (p := p) (by omega))
          by_cases w : rTo a t (a 128 (zOb a p).toNatClampNeg).toInt = -1
          · rw [rMf_no c (by omega) w, rMf_no c (by omega) w]
          · rw [rMf_go c (by omega) w, rMf_go c (by omega) w]
            exact ih g _ _ _ (S1_m1 h) (by omega) (by omega)
    · rw [rMf_e c, rMf_e c]
theorem Mv_e (h : ¬ p < e) : rMv a e p t = (a, t, true) := rMf_e h
theorem Mv_fr (h1 : zS1 a) (h : p < e) (hf : (zOb a p).toInt < 0) : rMv a e p t = rMv a e (p + 1) t := by
  unfold rMv
  rw [show (e - p).toNat = (e - (p + 1)).toNat + 1 from by omega]
  exact rMf_fr h hf
theorem Mv_no (h : p < e) (hf : 0 ≤ (zOb a p).toInt) (hn : rTo a t (a 128 (zOb a p).toNatClampNeg).toInt = -1) : rMv a e p t = (a, t, false) := by
  unfold rMv
  rw [show (e - p).toNat = (e - (p + 1)).toNat + 1 from by omega]
  exact rMf_no h hf hn
theorem Mv_go (h1 : zS1 a) (h : p < e) (hf : 0 ≤ (zOb a p).toInt) (hn : rTo a t (a 128 (zOb a p).toNatClampNeg).toInt ≠ -1) : rMv a e p t = rMv (rM1 a (zOb a p).toNatClampNeg (rTo a t (a 128 (zOb a p).toNatClampNeg).toInt)) e (p + (a 128 (zOb a p).toNatClampNeg).toInt) (rTo a t (a 128 (zOb a p).toNatClampNeg).toInt) := by
  have s := h1 _ (Ob_xl (a := a) (p := p) hf)
  unfold rMv
  rw [show (e - p).toNat = (e - (p + 1)).toNat + 1 from by omega, rMf_go h hf hn]
  exact rMf_fu _ _ _ _ _ (S1_m1 h1) (by omega) (by omega)
/-- while region r is emptied: up to p it is -/
def qJr (a : Nat → Nat → Int32) (r : Int) (p t : Int) : Prop := qRv a ∧ (0 ≤ r ∧ r < (a 87 4).toInt) ∧ (r * (a 87 3).toInt ≤ p ∧ p ≤ r * (a 87 3).toInt + (a 92 r.toNat).toInt) ∧ qGd a p ∧ (∀ n, xAl a n → (a 130 n).toInt / (a 87 3).toInt = r → p ≤ (a 130 n).toInt) ∧ (t = -1 ∨ (0 ≤ t ∧ t < (a 87 4).toInt ∧ t ≠ r)) ∧ ∀ n, xAl a n → 0 < (a 133 n).toInt → (a 130 n).toInt / (a 87 3).toInt ≠ r
theorem Rg_p (h : qRv a) (hr : 0 ≤ q) (h0 : q * (a 87 3).toInt ≤ p) (h1 : p < q * (a 87 3).toInt + (a 87 3).toInt) : p / (a 87 3).toInt = q := by
  have s := h.2.2.1.1.1
  have e : p = q * (a 87 3).toInt + (p - q * (a 87 3).toInt) := by omega
  rw [e]
  exact dv_e (by omega) (by omega) (by omega)
theorem Jr_fr (h : qJr a q p t) (hp : p < q * (a 87 3).toInt + (a 92 q.toNat).toInt) (hf : (zOb a p).toInt < 0) : qJr a q (p + 1) t := by
  obtain ⟨hv, hr, hb, hg, hm, ht, hh⟩ := h
  have s := hv.2.2.1
  have tp := (hv.2.2.2.1 q.toNat (by omega)).1
  have m0 : 0 ≤ q * (a 87 3).toInt := Int.mul_nonneg hr.1 (by omega)
  have m1 := ml_le hr.2 (show 0 ≤ (a 87 3).toInt by omega)
  have b4 := hv.1.2.2.2.1.2.2.1
  refine ⟨hv, hr, ⟨by omega, by omega⟩, Gd_s hv.1 hg hf (by omega) (by omega), fun n hn w => ?_, ht, hh⟩
  have g := hm n hn w
  by_cases z : (a 130 n).toInt = p
  · have o := Ob_pl hv.1 hn z
    have n5 := hn.1
    rw [o, Int32.toInt_ofNat_of_lt (by omega)] at hf
    omega
  · omega
/-- where the next of region q goes -/
theorem Jr_to (h : qJr a q p t) (hp : p < q * (a 87 3).toInt + (a 92 q.toNat).toInt) (hf : 0 ≤ (zOb a p).toInt) (hn : rTo a t (a 128 (zOb a p).toNatClampNeg).toInt ≠ -1) : xAl a (zOb a p).toNatClampNeg ∧ (a 130 (zOb a p).toNatClampNeg).toInt = p ∧ (∀ m, xAl a m → m ≠ (zOb a p).toNatClampNeg → (a 130 m).toInt + (a 128 m).toInt ≤ p ∨ p + (a 128 (zOb a p).toNatClampNeg).toInt ≤ (a 130 m).toInt) ∧ p + (a 128 (zOb a p).toNatClampNeg).toInt ≤ q * (a 87 3).toInt + (a 92 q.toNat).toInt ∧ (0 ≤ rTo a t (a 128 (zOb a p).toNatClampNeg).toInt ∧ rTo a t (a 128 (zOb a p).toNatClampNeg).toInt < (a 87 4).toInt ∧ rTo a t (a 128 (zOb a p).toNatClampNeg).toInt ≠ q) ∧ (a 92 (rTo a t (a 128 (zOb a p).toNatClampNeg).toInt).toNat).toInt + (a 128 (zOb a p).toNatClampNeg).toInt ≤ (a 87 3).toInt ∧ 1 ≤ (a 128 (zOb a p).toNatClampNeg).toInt := by
  obtain ⟨hv, hr, hb, hg, hm, ht, hh⟩ := h
  obtain ⟨n, al, e1, e2, e3⟩ := OB_al hv.1 hg hf
  rw [e3] at hn ⊢
  have s := hv.2.2.1
  have tp := (hv.2.2.2.1 q.toNat (by omega)).1
  have i := hv.1.1 n al
  have rg : (a 130 n).toInt / (a 87 3).toInt = q := Rg_p hv hr.1 (by omega) (by omega)
  have en := (hv.2.2.2.2 n al).2
  rw [rg, e2] at en
  have sz : (a 128 n).toInt ≤ (a 87 3).toInt := by omega
  have to := To_y hn sz
  have ne : rTo a t (a 128 n).toInt ≠ q := fun w => by
    rcases to.2.2.2 with z | z
    · rw [w] at z
      omega
    · have z2 := z.2
      rw [w] at z2
      omega
  refine ⟨al, e2, fun m hm2 hne => ?_, en, ⟨to.1, ?_, ne⟩, to.2.2.1, i.2.1.1⟩
  · have d := hv.1.2.1 m n hm2 al hne
    omega
  · rcases to.2.2.2 with z | z
    · rw [z] at to ⊢
      omega
    · exact z.1
theorem Jr_fq (h : qJr a q p t) (hp : p < q * (a 87 3).toInt + (a 92 q.toNat).toInt) (hf : 0 ≤ (zOb a p).toInt) (hn : rTo a t (a 128 (zOb a p).toNatClampNeg).toInt ≠ -1) (he : to.toInt = rTo a t (a 128 (zOb a p).toNatClampNeg).toInt * (a 87 3).toInt + (a 92 (rTo a t (a 128 (zOb a p).toNatClampNeg).toInt).toNat).toInt) : qFr a (zOb a p).toNatClampNeg to ∧ qMv a (zOb a p).toNatClampNeg to ∧ (0 ≤ to.toInt ∧ to.toInt + (a 128 (zOb a p).toNatClampNeg).toInt ≤ (a 87 0).toInt) := by
  have j := Jr_to h hp hf hn
  obtain ⟨hv, hr, hb, hg, hm, ht, hh⟩ := h
  obtain ⟨al, e2, dis, en, ⟨t0, t1, t2⟩, fit, sz1⟩ := j
  generalize (zOb a p).toNatClampNeg = n at *
  generalize rTo a t (a 128 n).toInt = u at *
  have s := hv.2.2.1
  have tu := (hv.2.2.2.1 u.toNat (by omega)).1
  have m0 : 0 ≤ u * (a 87 3).toInt := Int.mul_nonneg t0 (by omega)
  have m1 := ml_le t1 (show 0 ≤ (a 87 3).toInt by omega)
  have q0 : 0 ≤ q * (a 87 3).toInt := Int.mul_nonneg hr.1 (by omega)
  have q1 := ml_le hr.2 (show 0 ≤ (a 87 3).toInt by omega)
  have tq := (hv.2.2.2.1 q.toNat (by omega)).1
  have i := hv.1.1 n al
  have sep : u * (a 87 3).toInt + (a 87 3).toInt ≤ q * (a 87 3).toInt ∨ q * (a 87 3).toInt + (a 87 3).toInt ≤ u * (a 87 3).toInt := by
    by_cases w : u < q
    · exact Or.inl (ml_le w (by omega))
    · exact Or.inr (ml_le (by omega) (by omega))
  refine ⟨fun m hm2 hne => ?_, ⟨by omega, by omega, by omega, by omega, by omega, by omega⟩, by omega, by omega⟩
  have g := hv.2.2.2.2 m hm2
  have im := hv.1.1 m hm2
  have db := dv_b (p := (a 130 m).toInt) (s := (a 87 3).toInt) (by omega)
  by_cases w : (a 130 m).toInt / (a 87 3).toInt = u
  · rw [w] at g
    exact Or.inr (by omega)
  · have g2 := g.2
    have dn : 0 ≤ (a 130 m).toInt / (a 87 3).toInt := Int.ediv_nonneg (by omega) (by omega)
    have tm := (hv.2.2.2.1 ((a 130 m).toInt / (a 87 3).toInt).toNat (by omega)).1
    generalize (a 130 m).toInt / (a 87 3).toInt = v at *
    by_cases w2 : v < u
    · have z := ml_le (s := (a 87 3).toInt) w2 (by omega)
      exact Or.inr (by omega)
    · have z := ml_le (s := (a 87 3).toInt) (show u < v by omega) (by omega)
      exact Or.inl (by omega)
theorem Jr_go (h : qJr a q p t) (hp : p < q * (a 87 3).toInt + (a 92 q.toNat).toInt) (hf : 0 ≤ (zOb a p).toInt) (hn : rTo a t (a 128 (zOb a p).toNatClampNeg).toInt ≠ -1) : qJr (rM1 a (zOb a p).toNatClampNeg (rTo a t (a 128 (zOb a p).toNatClampNeg).toInt)) q (p + (a 128 (zOb a p).toNatClampNeg).toInt) (rTo a t (a 128 (zOb a p).toNatClampNeg).toInt) := by
  have j := Jr_to h hp hf hn
  have he : (Int32.ofInt (rTo a t (a 128 (zOb a p).toNatClampNeg).toInt * (a 87 3).toInt + (a 92 (rTo a t (a 128 (zOb a p).toNatClampNeg).toInt).toNat).toInt)).toInt = rTo a t (a 128 (zOb a p).toNatClampNeg).toInt * (a 87 3).toInt + (a 92 (rTo a t (a 128 (zOb a p).toNatClampNeg).toInt).toNat).toInt := by
    have s := h.1.2.2.1
    have tu := (h.1.2.2.2.1 (rTo a t (a 128 (zOb a p).toNatClampNeg).toInt).toNat (by omega)).1
    have m0 : 0 ≤ rTo a t (a 128 (zOb a p).toNatClampNeg).toInt * (a 87 3).toInt := Int.mul_nonneg j.2.2.2.2.1.1 (by omega)
    have m1 := ml_le j.2.2.2.2.1.2.1 (show 0 ≤ (a 87 3).toInt by omega)
    exact Int32.toInt_ofInt_of_le (by omega) (by omega)
  have fq := Jr_fq h hp hf hn he
  obtain ⟨hv, hr, hb, hg, hm, ht, hh⟩ := h
  obtain ⟨al, e2, dis, en, ⟨t0, t1, t2⟩, fit, sz1⟩ := j
  generalize hz : (zOb a p).toNatClampNeg = n at *
  generalize rTo a t (a 128 n).toInt = u at *
  have s := hv.2.2.1
  have tu := (hv.2.2.2.1 u.toNat (by omega)).1
  have I := I_mo hv.1 al fq.2.2.1 fq.2.2.2 fq.1 (by rw [hv.2.1]; rfl)
  have r7 : ∀ k, rM1 a n u 87 k = a 87 k := fun k => M1_r (by decide) (by decide) (by decide)
  have r28 : ∀ k, rM1 a n u 128 k = a 128 k := fun k => M1_r (by decide) (by decide) (by decide)
  have r33 : ∀ k, rM1 a n u 133 k = a 133 k := fun k => M1_r (by decide) (by decide) (by decide)
  have pn : (rM1 a n u 130 n).toInt = u * (a 87 3).toInt + (a 92 u.toNat).toInt := by
    unfold rM1
    rw [xu_o (by omega), Mo_pn, he]
  have po : ∀ m, m ≠ n → rM1 a n u 130 m = a 130 m := fun m w => by
    unfold rM1
    rw [xu_o (by omega), Mo_po w]
  have tun : (rM1 a n u 92 u.toNat).toInt = (a 92 u.toNat).toInt + (a 128 n).toInt := by
    unfold rM1
    rw [xu_s]
    exact i_add (by omega) (by omega)
  have tuo : ∀ k, k ≠ u.toNat → rM1 a n u 92 k = a 92 k := fun k w => by
    unfold rM1
    rw [xu_o (fun z => w z.2), Mo_r (by decide) (by decide)]
  have dn : (rM1 a n u 130 n).toInt / (a 87 3).toInt = u := by
    rw [pn]
    exact dv_e (by omega) (by omega) (by omega)
  have ut : ∀ k : Nat, (k : Int) = u → k = u.toNat := fun k w => by omega
  have un0 : ((u.toNat : Nat) : Int) = u := by omega
  have qn : q.toNat ≠ u.toNat := by omega
  refine ⟨⟨?_, ?_, ⟨?_, ?_, ?_, ?_, ?_, ?_⟩, fun k hk => ?_, fun m hm2 => ?_⟩, ⟨hr.1, by rw [r7]; exact hr.2⟩, ⟨by rw [r7]; omega, by rw [r7, tuo _ qn]; exact en⟩, fun m hm2 w => ?_, fun m hm2 w => ?_, Or.inr ⟨t0, by rw [r7]; exact t1, t2⟩, fun m hm2 w => ?_⟩
  · unfold rM1
    exact I_cg I (un (by decide)) (un (by decide)) (un (by decide)) (un (by decide)) (un (by decide)) (un (by decide)) (fun j => un (by omega))
  · rw [r7]
    exact hv.2.1
  · rw [r7]
    exact s.1
  · rw [r7]
    exact s.2.1
  · rw [r7, r7]
    exact s.2.2.1
  · rw [r7]
    exact s.2.2.2.1
  · rw [r7, r7, r7]
    exact s.2.2.2.2.1
  · rw [r7]
    exact s.2.2.2.2.2
  · have g := hv.2.2.2.1 k hk
    rw [r7, r7]
    by_cases w : k = u.toNat
    · rw [w, tun]
      exact ⟨by omega, fun z => by omega⟩
    · rw [tuo k w]
      exact g
  · have hm₉ := M1_al.1 hm2
    rw [r7, r7, r28]
    by_cases w : m = n
    · rw [w, dn, tun, pn]
      exact ⟨t1, by omega⟩
    · have g := hv.2.2.2.2 m hm₉
      rw [po m w]
      refine ⟨g.1, ?_⟩
      by_cases z : ((a 130 m).toInt / (a 87 3).toInt).toNat = u.toNat
      · rw [z, tun]
        rw [z] at g
        omega
      · rw [tuo _ z]
        exact g.2
  · have hm₉ := M1_al.1 hm2
    rw [r28] at w
    by_cases z : m = n
    · rw [z, pn] at w
      have sep : u * (a 87 3).toInt + (a 87 3).toInt ≤ q * (a 87 3).toInt ∨ q * (a 87 3).toInt + (a 87 3).toInt ≤ u * (a 87 3).toInt := by
        by_cases w2 : u < q
        · exact Or.inl (ml_le w2 (by omega))
        · exact Or.inr (ml_le (by omega) (by omega))
      have tq := (hv.2.2.2.1 q.toNat (by omega)).1
      omega
    · rw [po m z] at w
      have d := dis m hm₉ z
      omega
  · have hm₉ := M1_al.1 hm2
    rw [r7] at w
    by_cases z : m = n
    · rw [z, dn] at w
      exact absurd w t2
    · rw [po m z] at w ⊢
      have g := hm m hm₉ w
      have d := dis m hm₉ z
      have im := (hv.1.1 m hm₉).2.1.1
      omega
  · have hm₉ := M1_al.1 hm2
    rw [r33] at w
    rw [r7]
    by_cases z : m = n
    · rw [z, dn]
      exact t2
    · rw [po m z]
      exact hh m hm₉ w
theorem Jr_end (h : qJr a q p t) (hp : ¬ p < q * (a 87 3).toInt + (a 92 q.toNat).toInt) : qRv (ma_u a 92 q.toNat 0) := by
  obtain ⟨hv, hr, hb, hg, hm, ht, hh⟩ := h
  have r : ∀ c, c ≠ 92 → ma_u a 92 q.toNat 0 c = a c := fun c hc => ma_u_ne _ _ _ hc
  have s := hv.2.2.1
  refine ⟨I_cg hv.1 (un (by decide)) (un (by decide)) (un (by decide)) (un (by decide)) (un (by decide)) (un (by decide)) (fun j => un (by omega)), by rw [r 87 (by decide)]; exact hv.2.1, by rw [r 87 (by decide)]; exact s, fun k hk => ?_, fun n hn => ?_⟩
  · rw [r 87 (by decide)]
    by_cases w : k = q.toNat
    · rw [w, xu_s]
      exact ⟨⟨by decide, by have : (0 : Int32).toInt = 0 := rfl; omega⟩, fun _ => rfl⟩
    · rw [xu_o (fun z => w z.2)]
      exact hv.2.2.2.1 k hk
  · unfold xAl at hn
    rw [r 126 (by decide)] at hn
    have g := hv.2.2.2.2 n hn
    rw [r 87 (by decide), r 130 (by decide), r 128 (by decide)]
    refine ⟨g.1, ?_⟩
    have dn : 0 ≤ (a 130 n).toInt / (a 87 3).toInt := Int.ediv_nonneg (hv.1.1 n hn).1.2 (by omega)
    by_cases w : (a 130 n).toInt / (a 87 3).toInt = q
    · have g2 := hm n hn w
      rw [w] at g
      have := (hv.1.1 n hn).2.1.1
      omega
    · rw [xu_o (fun z => w (by omega))]
      exact g.2
end F12

/-! from 95.s11 -/
/-! REGIONS, the class (written by wip/tools/gen15z.py) -/
/-! REGIONS: the class -/
def zfZ (I : Nat → Nat → Int32) (k : Nat) : Int32 := if k = 0 then I 91 3 * I 91 2 else if k = 3 then I 91 2 else if k = 4 then I 91 3 else if k = 5 then I 91 4 else if k = 9 then I 91 5 else 0
def aZ (S : ma_S) : Nat → Nat → Int32 := fun c k => if c = 92 ∨ c = 93 then mI S c k else aM (zfZ (mI S)) S c k
section F13
variable {a b ab : Nat → Nat → Int32} {S S₉ : ma_S} {R : Nat → Option Nat} {x y i : Int32} {c k n : Nat} {F : Nat → Int32} {L : Int64} {l l2 : Nat → Int}
theorem aZ_o (h : c ≠ 87) (h2 : c ≠ 92) (h3 : c ≠ 93) : aZ S c k = aS 75 S c k := (if_neg (by omega)).trans (aM_o h)
theorem aZ_7 : aZ S 87 k = zfZ (mI S) k := (if_neg (by decide)).trans aM_7
theorem aZ_9 (h : c = 92 ∨ c = 93) : aZ S c k = mI S c k := if_pos h
theorem Z_of (h : ∀ c k, c ≠ 87 → c ≠ 92 → c ≠ 93 → aS 75 S₉ c k = b c k) (h7 : ∀ k, b 87 k = zfZ (mI S₉) k) (h9 : ∀ c k, c = 92 ∨ c = 93 → b c k = mI S₉ c k) : aZ S₉ = b := by
  funext c k
  by_cases w : c = 87
  · rw [w, aZ_7, h7]
  · by_cases w2 : c = 92 ∨ c = 93
    · rw [aZ_9 w2, h9 c k w2]
    · rw [aZ_o w (by omega) (by omega)]
      exact h c k w (by omega) (by omega)
theorem Z_g {f : (Nat → Nat → Int32) → Nat → Nat → Int32} (h : ∀ c k, c ≠ 87 → c ≠ 92 → c ≠ 93 → aS 75 S₉ c k = f (aZ S) c k) (h7 : ∀ k, f (aZ S) 87 k = aZ S 87 k) (h9 : ∀ c k, c = 92 ∨ c = 93 → f (aZ S) c k = aZ S c k) (e1 : mI S₉ 91 = mI S 91) (e2 : mI S₉ 92 = mI S 92) (e3 : mI S₉ 93 = mI S 93) : aZ S₉ = f (aZ S) := by
  refine Z_of h (fun k => ?_) (fun c k hc => ?_)
  · rw [h7, aZ_7]
    unfold zfZ
    rw [e1]
  · rw [h9 c k hc, aZ_9 hc]
    rcases hc with w | w
    · rw [w, e2]
    · rw [w, e3]
theorem Z_p9 (hR : xB S R) (hc : c = 92 ∨ c = 93) : aZ (ma_put S c n (.inl x)) = ma_u (aZ S) c n x := by
  have e := (xC_n (W := 75) (c := c) (k := n) (x := x) (xC_o hR) (by rcases hc with w | w <;> rw [w] <;> exact ⟨by decide, Or.inl ⟨rfl, by first | rfl | (cases n <;> rfl)⟩⟩)).1
  refine Z_of (fun c₉ k w w2 w3 => ?_) (fun k => ?_) (fun c₉ k hc₉ => ?_)
  · rw [e, xu_o (fun z => by omega), aZ_o w w2 w3]
  · rw [xu_o (fun z => by omega), aZ_7]
    unfold zfZ
    have r : ∀ j, mI (ma_put S c n (.inl x)) 91 j = mI S 91 j := fun j => if_neg (fun z => by omega)
    simp only [r]
  · show (if c₉ = c ∧ k = n then x else aZ S c₉ k) = (if c₉ = c ∧ k = n then x else mI S c₉ k)
    rw [aZ_9 hc₉]
theorem Z_p5 (hR : xB S R) : aZ (ma_put S 91 5 (.inl x)) = ma_u (aZ S) 87 9 x := by
  have e := (xC_n (W := 75) (c := 91) (k := 5) (x := x) (xC_o hR) ⟨by decide, Or.inl ⟨rfl, rfl⟩⟩).1
  refine Z_of (fun c₉ k₉ w w2 w3 => ?_) (fun k₉ => ?_) (fun c₉ k₉ hc₉ => ?_)
  · rw [e, xu_o (fun z => by omega), aZ_o w w2 w3]
  · by_cases z : k₉ = 9
    · rw [z, xu_s]
      rfl
    · rw [xu_o (fun q => z q.2), aZ_7]
      unfold zfZ
      rw [if_neg z, if_neg z]
      rfl
  · rw [xu_o (fun z => by omega), aZ_9 hc₉]
    exact (if_neg (fun z => by omega)).symm
theorem Z_p6 (hR : xB S R) : aZ (ma_put S 91 6 (.inl x)) = aZ S := by
  have e := (xC_n (W := 75) (c := 91) (k := 6) (x := x) (xC_o hR) ⟨by decide, Or.inl ⟨rfl, rfl⟩⟩).1
  refine Z_of (fun c₉ k₉ w w2 w3 => ?_) (fun k₉ => ?_) (fun c₉ k₉ hc₉ => ?_)
  · rw [e, aZ_o w w2 w3]
  · rw [aZ_7]
    rfl
  · rw [aZ_9 hc₉]
    exact (if_neg (fun z => by omega)).symm
theorem zb_e : zOb (aZ S) = zOb (aS 75 S) := by
  funext p
  unfold zOb
  rw [aZ_o (c := 71) (by decide) (by decide) (by decide), aZ_o (c := 126) (by decide) (by decide) (by decide)]
/-! the fold of the fewest -/
theorem Fg_s : rFg l (n + 1) = if 0 < l n ∧ (rFg l n = -1 ∨ l n < l (rFg l n).toNat) then (n : Int) else rFg l n := rfl
theorem Fg_b : ∀ n, -1 ≤ rFg l n ∧ rFg l n < (n : Int) ∧ (rFg l n ≠ -1 → 0 < l (rFg l n).toNat) := by
  intro n
  induction n with
  | zero => exact ⟨by show (-1 : Int) ≤ -1; decide, by show (-1 : Int) < 0; decide, fun z => absurd rfl z⟩
  | succ n ih =>
    rw [Fg_s]
    split
    · next w => exact ⟨by omega, by omega, fun _ => by rw [Int.toNat_natCast]; exact w.1⟩
    · exact ⟨ih.1, by omega, ih.2.2⟩
theorem Kf_s {r : Int} : rKf a r (n + 1) = rKf a r n + (if a 126 n ≠ 0 ∧ (a 130 n).toInt / (a 87 3).toInt = r then (a 128 n).toInt else 0) := rfl
/-- beyond those given nobody is there -/
theorem Kf_g {r : Int} (hI : qI a) : ∀ n m : Nat, (a 69 6).toInt ≤ (n : Int) → n ≤ m → m ≤ 512 → rKf a r m = rKf a r n := by
  intro n m hn hm h5
  induction m with
  | zero =>
    rw [show n = 0 by omega]
  | succ m ih =>
    by_cases w : n = m + 1
    · rw [w]
    · rw [Kf_s, ih (by omega) (by omega), if_neg (fun z => ?_), Int.add_zero]
      have q := (hI.1 m ⟨by omega, z.1⟩).1.1
      omega
/-! rows that are counted -/
theorem Sk_0 (h : ∀ k, k < 93 → b 93 k = 0) (h2 : ∀ c k, ¬ (c = 93 ∧ k < 93) → b c k = a c k) : b = rSk a 0 := by
  funext c k
  unfold rSk
  by_cases w : c = 93 ∧ k < 93
  · rw [if_pos w, w.1, h k w.2]
    rfl
  · rw [if_neg w, h2 c k w]
theorem Kf_b {r : Int} (hI : qI a) : ∀ n, n ≤ 512 → 0 ≤ rKf a r n ∧ rKf a r n ≤ 61 * (n : Int) := by
  intro n
  induction n with
  | zero => intro _; exact ⟨by show (0 : Int) ≤ 0; decide, by show (0 : Int) ≤ 61 * 0; decide⟩
  | succ n ih =>
    intro hn
    have q := ih (by omega)
    rw [Kf_s]
    split
    · next w =>
      have i := (hI.1 n ⟨by omega, w.1⟩).2.1
      omega
    · omega
theorem Sk_n (h : a 126 n = 0) : rSk a (n + 1) = rSk a n := by
  funext c k
  have e : rKf a (k : Int) (n + 1) = rKf a (k : Int) n := by
    rw [Kf_s, if_neg (c := a 126 n ≠ 0 ∧ _) (fun w => w.1 h), Int.add_zero]
  unfold rSk
  rw [e]
theorem Sk_y {r : Int} (hI : qI a) (hn : n < 512) (h : a 126 n ≠ 0) (hr : (a 130 n).toInt / (a 87 3).toInt = r) (h0 : 0 ≤ r) (h9 : r < 93) : ma_u (rSk a n) 93 r.toNat (rSk a n 93 r.toNat + a 128 n) = rSk a (n + 1) := by
  have e0 : ((r.toNat : Nat) : Int) = r := by omega
  have b := Kf_b (r := r) hI n (by omega)
  have i := (hI.1 n ⟨hn, h⟩).2.1
  funext c k
  show (if c = 93 ∧ k = r.toNat then _ else rSk a n c k) = rSk a (n + 1) c k
  unfold rSk
  by_cases w : c = 93 ∧ k = r.toNat
  · rw [if_pos w, if_pos ⟨rfl, by omega⟩, if_pos ⟨w.1, by omega⟩, w.2, e0, Kf_s, if_pos ⟨h, hr⟩]
    apply Int32.toInt_inj.mp
    have e1 : (Int32.ofInt (rKf a r n)).toInt = rKf a r n := Int32.toInt_ofInt_of_le (by omega) (by omega)
    rw [i_add (by rw [e1]; omega) (by rw [e1]; omega), e1, Int32.toInt_ofInt_of_le (by omega) (by omega)]
  · rw [if_neg w]
    by_cases z : c = 93 ∧ k < 93
    · rw [if_pos z, if_pos z, Kf_s, if_neg (fun q => w ⟨z.1, by omega⟩), Int.add_zero]
    · rw [if_neg z, if_neg z]
theorem Sk_g (hI : qI a) (h : (a 69 6).toInt ≤ (n : Int)) (hn : n ≤ 512) : rSk a n = rSk a 512 := by
  funext c k
  unfold rSk
  rw [Kf_g hI n 512 h hn (by omega)]
theorem Em_s (h : (a 93 n).toInt = 0) : ma_u (rEm a n) 92 n 0 = rEm a (n + 1) := by
  funext c k
  show (if c = 92 ∧ k = n then 0 else rEm a n c k) = rEm a (n + 1) c k
  unfold rEm
  by_cases w : c = 92 ∧ k = n
  · rw [if_pos w, if_pos ⟨w.1, by omega, by rw [w.2]; exact h⟩]
  · rw [if_neg w]
    by_cases z : c = 92 ∧ k < n ∧ (a 93 k).toInt = 0
    · rw [if_pos z, if_pos ⟨z.1, by omega, z.2.2⟩]
    · rw [if_neg z, if_neg (fun q => z ⟨q.1, by have := q.2.1; omega, q.2.2⟩)]
theorem Em_n (h : (a 93 n).toInt ≠ 0) : rEm a (n + 1) = rEm a n := by
  funext c k
  unfold rEm
  by_cases z : c = 92 ∧ k < n ∧ (a 93 k).toInt = 0
  · rw [if_pos z, if_pos ⟨z.1, by omega, z.2.2⟩]
  · rw [if_neg z, if_neg (fun q => ?_)]
    by_cases w : k = n
    · rw [w] at q
      exact h q.2.2
    · exact z ⟨q.1, by have := q.2.1; omega, q.2.2⟩
theorem Em_0 : rEm a 0 = a := by
  funext c k
  unfold rEm
  exact if_neg (fun w => by omega)
def rCc (a : Nat → Nat → Int32) (n : Nat) : Prop := (n : Int) = (a 87 9).toInt ∨ (a 87 5).toInt * (a 87 3).toInt < (a 93 n).toInt * 100
theorem Ca_0 : rCa a 0 = a := by
  funext c k
  unfold rCa
  exact if_neg (fun w => by omega)
theorem Ca_s (h : rCc a n) : ma_u (rCa a n) 93 n 0 = rCa a (n + 1) := by
  funext c k
  show (if c = 93 ∧ k = n then 0 else rCa a n c k) = rCa a (n + 1) c k
  unfold rCa
  by_cases w : c = 93 ∧ k = n
  · rw [if_pos w, if_pos ⟨w.1, by omega, by rw [w.2]; exact h⟩]
  · rw [if_neg w]
    by_cases z : c = 93 ∧ k < n ∧ ((k : Int) = (a 87 9).toInt ∨ (a 87 5).toInt * (a 87 3).toInt < (a 93 k).toInt * 100)
    · rw [if_pos z, if_pos ⟨z.1, by omega, z.2.2⟩]
    · rw [if_neg z, if_neg (fun q => z ⟨q.1, by have := q.2.1; omega, q.2.2⟩)]
theorem Ca_n (h : ¬ rCc a n) : rCa a (n + 1) = rCa a n := by
  funext c k
  unfold rCa
  by_cases z : c = 93 ∧ k < n ∧ ((k : Int) = (a 87 9).toInt ∨ (a 87 5).toInt * (a 87 3).toInt < (a 93 k).toInt * 100)
  · rw [if_pos z, if_pos ⟨z.1, by omega, z.2.2⟩]
  · rw [if_neg z, if_neg (fun q => ?_)]
    by_cases w : k = n
    · rw [w] at q
      exact h q.2.2
    · exact z ⟨q.1, by have := q.2.1; omega, q.2.2⟩
theorem Cb_o (h : c ≠ 93) : ∀ n, rCb a n c k = a c k
  | 0 => rfl
  | n + 1 => by
    show (if _ then ma_u (rCb a n) 93 _ 0 else rCb a n) c k = _
    split
    · rw [xu_o (fun w => h w.1), Cb_o h n]
    · exact Cb_o h n
/-! the class's loops -/
theorem rg_ix {p s : Int32} (h0 : 0 ≤ p.toInt) (hs : 1 ≤ s.toInt) (h : p.toInt / s.toInt < 93) : (if (92 : Int32) < p / s then (92 : Int32) else p / s).toNatClampNeg = (p.toInt / s.toInt).toNat := by
  have e := (i_div h0 hs).2.2.1
  have l : (92 : Int32).toInt = 92 := rfl
  rw [if_neg (fun w => by have w2 := Int32.lt_iff_toInt_lt.mp w; omega)]
  show (p / s).toInt.toNat = _
  rw [e]
theorem Sk_r (h : aZ S = rSk ab n) (h2 : c ≠ 87) (h3 : c ≠ 92) (h4 : c ≠ 93) : aS 75 S c k = ab c k := by
  rw [← aZ_o h2 h3 h4, h]
  unfold rSk
  exact if_neg (fun w => h4 w.1)
theorem Sk_no (h : aZ S = rSk ab x.toNatClampNeg) (hC : xB S R) (rn : zTa R x = none) (h0 : 0 ≤ x.toInt) (h5 : x.toInt < 512) (hx : y.toInt = x.toInt + 1) : aZ S = rSk ab y.toNatClampNeg := by
  have t := tn_cast h0
  have t2 := tn_cast (x := y) (by omega)
  have z : ab 126 x.toNatClampNeg = 0 := by
    by_cases w : ab 126 x.toNatClampNeg = 0
    · exact w
    · exact absurd ⟨h0, h5, by rw [Sk_r h (by decide) (by decide) (by decide)]; exact w⟩ (xB_nt (W := 75) hC rn)
  rw [show y.toNatClampNeg = x.toNatClampNeg + 1 from by omega, Sk_n z]
  exact h
theorem Sk_go (h : aZ S = rSk ab x.toNatClampNeg) (hv : qRv ab) (hC : xB S R) (rg : zTa R x = some c) (hx : y.toInt = x.toInt + 1) : ma_u (aZ S) 93 (if (92 : Int32) < mI S c 4 / mI S 91 2 then (92 : Int32) else mI S c 4 / mI S 91 2).toNatClampNeg (mI S 93 (if (92 : Int32) < mI S c 4 / mI S 91 2 then (92 : Int32) else mI S c 4 / mI S 91 2).toNatClampNeg + mI S c 2) = rSk ab y.toNatClampNeg := by
  have ty := xB_th (W := 75) hC rg
  have t := tn_cast ty.1
  have t2 := tn_cast (x := y) (by omega)
  have e2 := ty.2.2.2.2.1
  have e4 := ty.2.2.2.2.2.1
  rw [Sk_r h (by decide) (by decide) (by decide)] at e2 e4
  have es : mI S 91 2 = ab 87 3 := by
    have g : aZ S 87 3 = ab 87 3 := by
      rw [h]
      unfold rSk
      exact if_neg (by decide)
    exact g
  have al : ab 126 x.toNatClampNeg ≠ 0 := by
    rw [← Sk_r h (by decide) (by decide) (by decide), ty.2.2.2.2.2.2.2.2]
    decide
  have n5 : x.toNatClampNeg < 512 := by
    have := ty.2.1
    omega
  have g := hv.2.2.2.2 _ ⟨n5, al⟩
  have s := hv.2.2.1
  have i := hv.1.1 _ ⟨n5, al⟩
  rw [rg_ix (by rw [e4]; exact i.1.2) (by rw [es]; omega) (by rw [e4, es]; omega), ← aZ_9 (S := S) (Or.inr rfl), h, e4, es, e2, show y.toNatClampNeg = x.toNatClampNeg + 1 from by omega]
  exact Sk_y hv.1 n5 al rfl (Int.ediv_nonneg i.1.2 (by omega)) (by omega)
theorem Em_go (h : aZ S = rEm ab x.toNatClampNeg) (h0 : 0 ≤ x.toInt) (hz : (mI S 93 x.toNatClampNeg).toInt = 0) (hx : y.toInt = x.toInt + 1) : ma_u (aZ S) 92 x.toNatClampNeg 0 = rEm ab y.toNatClampNeg := by
  have t := tn_cast h0
  have t2 := tn_cast (x := y) (by omega)
  have e : mI S 93 x.toNatClampNeg = ab 93 x.toNatClampNeg := by
    rw [← aZ_9 (S := S) (Or.inr rfl), h]
    exact if_neg (fun w => absurd w.1 (by decide))
  rw [h, show y.toNatClampNeg = x.toNatClampNeg + 1 from by omega]
  exact Em_s (by rw [← e]; exact hz)
theorem Em_no (h : aZ S = rEm ab x.toNatClampNeg) (h0 : 0 ≤ x.toInt) (hz : (mI S 93 x.toNatClampNeg).toInt ≠ 0) (hx : y.toInt = x.toInt + 1) : aZ S = rEm ab y.toNatClampNeg := by
  have t := tn_cast h0
  have t2 := tn_cast (x := y) (by omega)
  have e : mI S 93 x.toNatClampNeg = ab 93 x.toNatClampNeg := by
    rw [← aZ_9 (S := S) (Or.inr rfl), h]
    exact if_neg (fun w => absurd w.1 (by decide))
  rw [show y.toNatClampNeg = x.toNatClampNeg + 1 from by omega, Em_n (by rw [← e]; exact hz)]
  exact h
theorem Fw_s {v w : Int32} (h : v.toInt = rFg (fun k => (aZ S 93 k).toInt) x.toNatClampNeg) (h0 : 0 ≤ x.toInt) (hx : y.toInt = x.toInt + 1) (hw : (0 < (mI S 93 x.toNatClampNeg).toInt ∧ (v.toInt = -1 ∨ (mI S 93 x.toNatClampNeg).toInt < (mI S 93 v.toNatClampNeg).toInt) ∧ w = x) ∨ (¬ (0 < (mI S 93 x.toNatClampNeg).toInt ∧ (v.toInt = -1 ∨ (mI S 93 x.toNatClampNeg).toInt < (mI S 93 v.toNatClampNeg).toInt)) ∧ w = v)) : w.toInt = rFg (fun k => (aZ S 93 k).toInt) y.toNatClampNeg := by
  have t := tn_cast h0
  have t2 := tn_cast (x := y) (by omega)
  have vn : v.toNatClampNeg = v.toInt.toNat := rfl
  rw [show y.toNatClampNeg = x.toNatClampNeg + 1 from by omega, Fg_s, ← h, aZ_9 (Or.inr rfl), aZ_9 (Or.inr rfl), ← vn]
  rcases hw with ⟨w1, w2, w3⟩ | ⟨w1, w2⟩
  · rw [if_pos ⟨w1, w2⟩, w3]
    omega
  · rw [if_neg w1, w2]
/-! choosing -/
def qLb (a : Nat → Nat → Int32) : Prop := ∀ k, k < 93 → 0 ≤ (a 93 k).toInt ∧ (a 93 k).toInt ≤ 31232
theorem Lb_sk (hI : qI a) : qLb (rSk a 512) := fun k hk => by
  have b := Kf_b (r := (k : Int)) hI 512 (by omega)
  unfold rSk
  rw [if_pos ⟨rfl, hk⟩, Int32.toInt_ofInt_of_le (by omega) (by omega)]
  omega
theorem Lb_em (h : qLb a) : qLb (rEm a n) := fun k hk => by
  unfold rEm
  rw [if_neg (fun w => absurd w.1 (by decide))]
  exact h k hk
theorem Ca_r (h : aZ S = rCa ab n) (hk : n ≤ k) : mI S 93 k = ab 93 k := by
  rw [← aZ_9 (S := S) (Or.inr rfl), h]
  exact if_neg (fun w => by omega)
theorem Ca_7 (h : aZ S = rCa ab n) : aZ S 87 k = ab 87 k := by
  rw [h]
  exact if_neg (fun w => absurd w.1 (by decide))
theorem Ca_go (h : aZ S = rCa ab x.toNatClampNeg) (hb : qLb ab) (h0 : 0 ≤ x.toInt) (h9 : x.toInt < 93) (hs : 0 ≤ (mI S 91 4).toInt ∧ (mI S 91 4).toInt ≤ 100) (hs2 : 0 ≤ (mI S 91 2).toInt ∧ (mI S 91 2).toInt ≤ 1500) (hc : x.toInt = (mI S 91 5).toInt ∨ (mI S 91 4 * mI S 91 2).toInt < (mI S 93 x.toNatClampNeg * 100).toInt) (hx : y.toInt = x.toInt + 1) : ma_u (aZ S) 93 x.toNatClampNeg 0 = rCa ab y.toNatClampNeg := by
  have t := tn_cast h0
  have t2 := tn_cast (x := y) (by omega)
  have e := Ca_r h (k := x.toNatClampNeg) (Nat.le_refl _)
  have b := hb x.toNatClampNeg (by omega)
  rw [← e] at b
  have e9 : ab 87 9 = mI S 91 5 := (Ca_7 h).symm
  have e5 : ab 87 5 = mI S 91 4 := (Ca_7 h).symm
  have e3 : ab 87 3 = mI S 91 2 := (Ca_7 h).symm
  have m1 := (i_muln (x := mI S 91 4) (y := mI S 91 2) (by omega) (by omega) (by omega) (by omega)).2.2
  have m2 : (mI S 93 x.toNatClampNeg * 100).toInt = (mI S 93 x.toNatClampNeg).toInt * 100 := i_mulk rfl (by omega) (by omega)
  rw [h, show y.toNatClampNeg = x.toNatClampNeg + 1 from by omega]
  refine Ca_s ?_
  unfold rCc
  rw [e9, e5, e3, ← e, ← m1, ← m2]
  rcases hc with w | w
  · exact Or.inl (by omega)
  · exact Or.inr w
theorem Ca_no (h : aZ S = rCa ab x.toNatClampNeg) (hb : qLb ab) (h0 : 0 ≤ x.toInt) (h9 : x.toInt < 93) (hs : 0 ≤ (mI S 91 4).toInt ∧ (mI S 91 4).toInt ≤ 100) (hs2 : 0 ≤ (mI S 91 2).toInt ∧ (mI S 91 2).toInt ≤ 1500) (hc : ¬ (x.toInt = (mI S 91 5).toInt ∨ (mI S 91 4 * mI S 91 2).toInt < (mI S 93 x.toNatClampNeg * 100).toInt)) (hx : y.toInt = x.toInt + 1) : aZ S = rCa ab y.toNatClampNeg := by
  have t := tn_cast h0
  have t2 := tn_cast (x := y) (by omega)
  have e := Ca_r h (k := x.toNatClampNeg) (Nat.le_refl _)
  have b := hb x.toNatClampNeg (by omega)
  rw [← e] at b
  have e9 : ab 87 9 = mI S 91 5 := (Ca_7 h).symm
  have e5 : ab 87 5 = mI S 91 4 := (Ca_7 h).symm
  have e3 : ab 87 3 = mI S 91 2 := (Ca_7 h).symm
  have m1 := (i_muln (x := mI S 91 4) (y := mI S 91 2) (by omega) (by omega) (by omega) (by omega)).2.2
  have m2 : (mI S 93 x.toNatClampNeg * 100).toInt = (mI S 93 x.toNatClampNeg).toInt * 100 := i_mulk rfl (by omega) (by omega)
  rw [show y.toNatClampNeg = x.toNatClampNeg + 1 from by omega, Ca_n ?_]
  · exact h
  · unfold rCc
    rw [e9, e5, e3, ← e, ← m1, ← m2]
    rintro (w | w)
    · exact hc (Or.inl (by omega))
    · exact hc (Or.inr w)
theorem Cb_r (h : aZ S = rCb ab n) (h2 : c ≠ 87) (h3 : c ≠ 92) (h4 : c ≠ 93) : aS 75 S c k = ab c k := by
  rw [← aZ_o h2 h3 h4, h]
  exact Cb_o h4 _
theorem Cb_y (h : a 126 n ≠ 0 ∧ 0 < (a 133 n).toInt) : rCb a (n + 1) = ma_u (rCb a n) 93 ((a 130 n).toInt / (a 87 3).toInt).toNat 0 := if_pos h
theorem Cb_n (h : ¬ (a 126 n ≠ 0 ∧ 0 < (a 133 n).toInt)) : rCb a (n + 1) = rCb a n := if_neg h
theorem Cb_go (h : aZ S = rCb ab x.toNatClampNeg) (hv : ∀ n, xAl ab n → (ab 130 n).toInt / (ab 87 3).toInt < 93) (hI : qI ab) (hs : 1 ≤ (ab 87 3).toInt) (hC : xB S R) (rg : zTa R x = some c) (hh : 0 < (mI S c 7).toInt) (hx : y.toInt = x.toInt + 1) : ma_u (aZ S) 93 (if (92 : Int32) < mI S c 4 / mI S 91 2 then (92 : Int32) else mI S c 4 / mI S 91 2).toNatClampNeg 0 = rCb ab y.toNatClampNeg := by
  have ty := xB_th (W := 75) hC rg
  have t := tn_cast ty.1
  have t2 := tn_cast (x := y) (by omega)
  have e4 := ty.2.2.2.2.2.1
  have e7 := ty.2.2.2.2.2.2.1
  rw [Cb_r h (by decide) (by decide) (by decide)] at e4 e7
  have es : mI S 91 2 = ab 87 3 := by
    have g : aZ S 87 3 = ab 87 3 := by
      rw [h]
      exact Cb_o (by decide) _
    exact g
  have al : ab 126 x.toNatClampNeg ≠ 0 := by
    rw [← Cb_r h (by decide) (by decide) (by decide), ty.2.2.2.2.2.2.2.2]
    decide
  have n5 : x.toNatClampNeg < 512 := by
    have := ty.2.1
    omega
  have i := hI.1 _ ⟨n5, al⟩
  rw [rg_ix (by rw [e4]; exact i.1.2) (by rw [es]; exact hs) (by rw [e4, es]; exact hv _ ⟨n5, al⟩), h, e4, es, show y.toNatClampNeg = x.toNatClampNeg + 1 from by omega, Cb_y ⟨al, by rw [← e7]; exact hh⟩]
theorem Cb_no (h : aZ S = rCb ab x.toNatClampNeg) (hC : xB S R) (rn : zTa R x = none) (h0 : 0 ≤ x.toInt) (h5 : x.toInt < 512) (hx : y.toInt = x.toInt + 1) : aZ S = rCb ab y.toNatClampNeg := by
  have t := tn_cast h0
  have t2 := tn_cast (x := y) (by omega)
  rw [show y.toNatClampNeg = x.toNatClampNeg + 1 from by omega, Cb_n (fun w => xB_nt (W := 75) hC rn ⟨h0, h5, by rw [Cb_r h (by decide) (by decide) (by decide)]; exact w.1⟩)]
  exact h
theorem Cb_n0 (h : aZ S = rCb ab x.toNatClampNeg) (hC : xB S R) (rg : zTa R x = some c) (hh : ¬ 0 < (mI S c 7).toInt) (hx : y.toInt = x.toInt + 1) : aZ S = rCb ab y.toNatClampNeg := by
  have ty := xB_th (W := 75) hC rg
  have t := tn_cast ty.1
  have t2 := tn_cast (x := y) (by omega)
  have e7 := ty.2.2.2.2.2.2.1
  rw [Cb_r h (by decide) (by decide) (by decide)] at e7
  rw [show y.toNatClampNeg = x.toNatClampNeg + 1 from by omega, Cb_n (fun w => hh (by rw [e7]; exact w.2))]
  exact h
theorem Cb_g (hI : qI a) : ∀ n m : Nat, (a 69 6).toInt ≤ (n : Int) → n ≤ m → m ≤ 512 → rCb a m = rCb a n := by
  intro n m hn hm h5
  induction m with
  | zero => rw [show n = 0 by omega]
  | succ m ih =>
    by_cases w : n = m + 1
    · rw [w]
    · rw [Cb_n (fun z => ?_), ih (by omega) (by omega)]
      have q := (hI.1 m ⟨by omega, z.1⟩).1.1
      omega
theorem Ca_o (h : c ≠ 93) : rCa a n c k = a c k := if_neg (fun w => h w.1)
theorem Ca_I (h : qI a) : qI (rCa a n) := I_cg h (funext (fun _ => Ca_o (by decide))) (funext (fun _ => Ca_o (by decide))) (funext (fun _ => Ca_o (by decide))) (funext (fun _ => Ca_o (by decide))) (funext (fun _ => Ca_o (by decide))) (funext (fun _ => Ca_o (by decide))) (fun j => funext (fun _ => Ca_o (by omega)))
theorem Ca_1 (h : 1 ≤ (a 87 3).toInt) : 1 ≤ (rCa a n 87 3).toInt := by
  rw [Ca_o (by decide)]
  exact h
theorem Ca_hv (h : (0 ≤ (a 87 5).toInt ∧ (a 87 5).toInt ≤ 100) ∧ (1 ≤ (a 87 3).toInt ∧ (a 87 3).toInt ≤ 256) ∧ (∀ n, xAl a n → (a 130 n).toInt / (a 87 3).toInt < 93) ∧ qI a) : ∀ m, xAl (rCa a n) m → (rCa a n 130 m).toInt / (rCa a n 87 3).toInt < 93 := fun m hm => by
  unfold xAl at hm
  rw [Ca_o (by decide)] at hm
  rw [Ca_o (by decide), Ca_o (by decide)]
  exact h.2.2.1 m hm
/-! one goes -/
def qMo (a : Nat → Nat → Int32) (q p t : Int) (y : Int32) : Prop := qJr a q p t ∧ p < q * (a 87 3).toInt + (a 92 q.toNat).toInt ∧ zOb a p = y ∧ 0 ≤ y.toInt
theorem Mo_z {to : Int32} (h : aS 75 S₉ = aMo (aS 75 S) n to) (e1 : mI S₉ 91 = mI S 91) (e2 : mI S₉ 92 = mI S 92) (e3 : mI S₉ 93 = mI S 93) : aZ S₉ = aMo (aZ S) n to := by
  refine Z_g (f := fun a => aMo a n to) (fun c k h1 h2 h3 => ?_) (fun k => Mo_r (by decide) (by decide)) (fun c k hc => Mo_r (by omega) (by omega)) e1 e2 e3
  rw [h]
  unfold aMo
  rw [aZ_o (c := 128) (by decide) (by decide) (by decide), aZ_o (c := 130) (by decide) (by decide) (by decide), aZ_o (c := 71) (by decide) (by decide) (by decide), aZ_o (c := 71) (by decide) (by decide) (by decide), aZ_o h1 h2 h3]
theorem Mq_to {q p t : Int} {to : Int32} (h : qMo a q p t y) (hn : rTo a t (a 128 y.toNatClampNeg).toInt ≠ -1) (he : to.toInt = rTo a t (a 128 y.toNatClampNeg).toInt * (a 87 3).toInt + (a 92 (rTo a t (a 128 y.toNatClampNeg).toInt).toNat).toInt) : qMv a y.toNatClampNeg to ∧ (0 ≤ rTo a t (a 128 y.toNatClampNeg).toInt ∧ rTo a t (a 128 y.toNatClampNeg).toInt < (a 87 4).toInt) := by
  obtain ⟨hJ, hp, rfl, h0⟩ := h
  exact ⟨(Jr_fq hJ hp h0 hn he).2.1, (Jr_to hJ hp h0 hn).2.2.2.2.1.1, (Jr_to hJ hp h0 hn).2.2.2.2.1.2.1⟩
theorem Mq_s {q p t : Int} (h : qMo a q p t y) : (16 ≤ (a 87 3).toInt ∧ (a 87 3).toInt ≤ 256) ∧ (a 87 4).toInt ≤ 93 ∧ (∀ r : Nat, r < 93 → 0 ≤ (a 92 r).toInt ∧ (a 92 r).toInt ≤ (a 87 3).toInt) ∧ 1 ≤ (a 128 y.toNatClampNeg).toInt ∧ (a 128 y.toNatClampNeg).toInt ≤ 61 ∧ (t = -1 ∨ (0 ≤ t ∧ t < (a 87 4).toInt)) := by
  obtain ⟨hJ, hp, rfl, h0⟩ := h
  obtain ⟨n, al, e1, e2, e3⟩ := OB_al hJ.1.1 hJ.2.2.2.1 h0
  have i := hJ.1.1.1 n al
  rw [e3]
  exact ⟨hJ.1.2.2.1.1, hJ.1.2.2.1.2.1.2, fun r hr => (hJ.1.2.2.2.1 r hr).1, i.2.1.1, i.2.1.2, hJ.2.2.2.2.2.1.imp id (fun z => ⟨z.1, z.2.1⟩)⟩
theorem To_t {t sz : Int} (h : 0 ≤ t ∧ t < 93 ∧ (a 92 t.toNat).toInt + sz ≤ (a 87 3).toInt) : rTo a t sz = t := if_pos h
theorem To_l {t sz : Int} (h : ¬ (0 ≤ t ∧ t < 93 ∧ (a 92 t.toNat).toInt + sz ≤ (a 87 3).toInt)) : rTo a t sz = rLe a := if_neg h
theorem M1_e {u : Int} {to : Int32} (he : to.toInt = u * (a 87 3).toInt + (a 92 u.toNat).toInt) : ma_u (aMo a n to) 92 u.toNat (a 92 u.toNat + a 128 n) = rM1 a n u := by
  unfold rM1
  rw [← he, Int32.ofInt_toInt]
theorem Mv_Z {to : Int32} (h : qMv (aZ S) n to) : qMv (aS 75 S) n to := by
  unfold qMv at h ⊢
  rw [aZ_o (c := 130) (by decide) (by decide) (by decide), aZ_o (c := 128) (by decide) (by decide) (by decide)] at h
  exact h
end F13

/-! from 95.s12 -/
/-! REGIONS, the class (written by wip/tools/gen15z.py) -/
/-! REGIONS: what leaves, kept while regions are emptied -/
def qLv (a : Nat → Nat → Int32) (t : Int) : Prop := (∀ r : Nat, r < 93 → 0 ≤ (a 93 r).toInt) ∧ (∀ r : Nat, r < 93 → 0 < (a 93 r).toInt → (r : Int) < (a 87 4).toInt ∧ (a 92 r).toInt ≠ 0) ∧ (∀ n, xAl a n → 0 < (a 133 n).toInt → (a 93 ((a 130 n).toInt / (a 87 3).toInt).toNat).toInt = 0) ∧ (t = -1 ∨ (0 ≤ t ∧ t < (a 87 4).toInt ∧ (a 93 t.toNat).toInt = 0))
section F14
variable {a b ab : Nat → Nat → Int32} {S S₉ : ma_S} {R : Nat → Option Nat} {x y i : Int32} {c k n : Nat} {p e t q u tg : Int}
theorem Gd_rs (h : qRv a) (h0 : 0 ≤ q) : qGd a (q * (a 87 3).toInt) := fun n hn w => by
  have g := h.2.2.2.2 n hn
  have s := h.2.2.1
  have db := dv_b (p := (a 130 n).toInt) (s := (a 87 3).toInt) (by omega)
  have dn : 0 ≤ (a 130 n).toInt / (a 87 3).toInt := Int.ediv_nonneg (h.1.1 n hn).1.2 (by omega)
  have tm := (h.2.2.2.1 ((a 130 n).toInt / (a 87 3).toInt).toNat (by omega)).1
  generalize (a 130 n).toInt / (a 87 3).toInt = v at *
  by_cases w2 : v < q
  · have z := ml_le (s := (a 87 3).toInt) w2 (by omega)
    omega
  · by_cases w3 : v = q
    · rw [w3] at db
      omega
    · have z := ml_le (s := (a 87 3).toInt) (show q < v by omega) (by omega)
      omega
theorem Lv_J (h : qRv a) (hl : qLv a t) (h0 : 0 ≤ q) (h9 : q < 93) (hq : 0 < (a 93 q.toNat).toInt) : qJr a q (q * (a 87 3).toInt) t := by
  have qn : ((q.toNat : Nat) : Int) = q := by omega
  have g := hl.2.1 q.toNat (by omega) hq
  have s := h.2.2.1
  have tp := (h.2.2.2.1 q.toNat (by omega)).1
  refine ⟨h, ⟨h0, by omega⟩, ⟨Int.le_refl _, by omega⟩, Gd_rs h h0, fun n hn w => ?_, ?_, fun n hn hh w => ?_⟩
  · have db := dv_b (p := (a 130 n).toInt) (s := (a 87 3).toInt) (by omega)
    rw [w] at db
    exact db.1
  · rcases hl.2.2.2 with w | w
    · exact Or.inl w
    · refine Or.inr ⟨w.1, w.2.1, fun z => ?_⟩
      rw [z] at w
      omega
  · have z := hl.2.2.1 n hn hh
    rw [w] at z
    omega
theorem Lv_go (h : qJr a q p t) (hl : qLv a t) (hp : p < q * (a 87 3).toInt + (a 92 q.toNat).toInt) (hf : 0 ≤ (zOb a p).toInt) (hn : rTo a t (a 128 (zOb a p).toNatClampNeg).toInt ≠ -1) : qLv (rM1 a (zOb a p).toNatClampNeg (rTo a t (a 128 (zOb a p).toNatClampNeg).toInt)) (rTo a t (a 128 (zOb a p).toNatClampNeg).toInt) := by
  have j := Jr_to h hp hf hn
  have ty := To_y hn (by have := j.2.2.2.2.2.1; have := (h.1.2.2.2.1 (rTo a t (a 128 (zOb a p).toNatClampNeg).toInt).toNat (by have := j.2.2.2.2.1; have := h.1.2.2.1; omega)).1; omega)
  obtain ⟨hv, hr, hb, hg, hm, ht, hh⟩ := h
  obtain ⟨al, e2, dis, en, ⟨t0, t1, t2⟩, fit, sz1⟩ := j
  generalize (zOb a p).toNatClampNeg = n at *
  generalize rTo a t (a 128 n).toInt = u at *
  have s := hv.2.2.1
  have tu := (hv.2.2.2.1 u.toNat (by omega)).1
  have tq := (hv.2.2.2.1 q.toNat (by omega)).1
  have r7 : ∀ k, rM1 a n u 87 k = a 87 k := fun k => M1_r (by decide) (by decide) (by decide)
  have r93 : ∀ k, rM1 a n u 93 k = a 93 k := fun k => M1_r (by decide) (by decide) (by decide)
  have r33 : ∀ k, rM1 a n u 133 k = a 133 k := fun k => M1_r (by decide) (by decide) (by decide)
  have po : ∀ m, m ≠ n → rM1 a n u 130 m = a 130 m := fun m w => by
    unfold rM1
    rw [xu_o (by omega), Mo_po w]
  have tun : (rM1 a n u 92 u.toNat).toInt = (a 92 u.toNat).toInt + (a 128 n).toInt := by
    unfold rM1
    rw [xu_s]
    exact i_add (by omega) (by omega)
  have tuo : ∀ k, k ≠ u.toNat → rM1 a n u 92 k = a 92 k := fun k w => by
    unfold rM1
    rw [xu_o (fun z => w z.2), Mo_r (by decide) (by decide)]
  have rg : (a 130 n).toInt / (a 87 3).toInt = q := Rg_p hv hr.1 (by omega) (by omega)
  refine ⟨fun r hr2 => by rw [r93]; exact hl.1 r hr2, fun r hr2 w => ?_, fun m hm2 w => ?_, Or.inr ⟨t0, by rw [r7]; exact t1, ?_⟩⟩
  · rw [r93] at w
    have g := hl.2.1 r hr2 w
    rw [r7]
    refine ⟨g.1, ?_⟩
    by_cases z : r = u.toNat
    · rw [z, tun]
      omega
    · rw [tuo r z]
      exact g.2
  · have hm₉ := M1_al.1 hm2
    rw [r33] at w
    have z : m ≠ n := fun z => by
      rw [z] at w
      exact hh n al w rg
    rw [r7, r93, po m z]
    exact hl.2.2.1 m hm₉ w
  · rw [r93]
    rcases ty.2.2.2 with w | w
    · rcases hl.2.2.2 with z | z
      · omega
      · rw [w]
        exact z.2.2
    · by_cases z : 0 < (a 93 u.toNat).toInt
      · exact absurd w.2 (hl.2.1 u.toNat (by omega) z).2
      · have := hl.1 u.toNat (by omega)
        omega
theorem Lv_end (hl : qLv a t) (h0 : 0 ≤ q) : qLv (ma_u (ma_u a 93 q.toNat 0) 92 q.toNat 0) t := by
  have r7 : ∀ k, ma_u (ma_u a 93 q.toNat 0) 92 q.toNat 0 87 k = a 87 k := fun k => by rw [xu_o (by omega), xu_o (by omega)]
  have r9 : ∀ k, ma_u (ma_u a 93 q.toNat 0) 92 q.toNat 0 93 k = if k = q.toNat then 0 else a 93 k := fun k => by
    rw [xu_o (by omega)]
    show (if (93 : Nat) = 93 ∧ k = q.toNat then 0 else a 93 k) = _
    by_cases z : k = q.toNat
    · rw [if_pos ⟨rfl, z⟩, if_pos z]
    · rw [if_neg (fun w => z w.2), if_neg z]
  have r2 : ∀ k, k ≠ q.toNat → ma_u (ma_u a 93 q.toNat 0) 92 q.toNat 0 92 k = a 92 k := fun k z => by rw [xu_o (fun w => z w.2), xu_o (by omega)]
  have ro : ∀ c, c ≠ 92 → c ≠ 93 → ma_u (ma_u a 93 q.toNat 0) 92 q.toNat 0 c = a c := fun c h1 h2 => by rw [ma_u_ne _ _ _ h1, ma_u_ne _ _ _ h2]
  have z0 : (0 : Int32).toInt = 0 := rfl
  refine ⟨fun r hr => ?_, fun r hr w => ?_, fun n hn w => ?_, ?_⟩
  · rw [r9]
    split
    · omega
    · exact hl.1 r hr
  · rw [r9] at w
    by_cases z : r = q.toNat
    · rw [if_pos z] at w
      omega
    · rw [if_neg z] at w
      rw [r7, r2 r z]
      exact hl.2.1 r hr w
  · unfold xAl at hn
    rw [ro 126 (by decide) (by decide)] at hn
    rw [ro 133 (by decide) (by decide)] at w
    rw [r9, r7, ro 130 (by decide) (by decide)]
    split
    · exact z0
    · exact hl.2.2.1 n hn w
  · rcases hl.2.2.2 with w | w
    · exact Or.inl w
    · refine Or.inr ⟨w.1, by rw [r7]; exact w.2.1, ?_⟩
      rw [r9]
      split
      · exact z0
      · exact w.2.2
/-! the class: all of a region -/
theorem zz_n2 (h : (mI S 71 x.toNatClampNeg).toInt < 0 ∨ 512 ≤ (mI S 71 x.toNatClampNeg).toInt) : zOb (aZ S) x.toInt = -1 := by
  rw [zb_e]
  exact ob_n2 h
theorem zz_n3 (hC : xB S R) (rn : zTa R (mI S 71 x.toNatClampNeg) = none) : zOb (aZ S) x.toInt = -1 := by
  rw [zb_e]
  exact ob_n3 hC rn
theorem zz_y (hC : xB S R) (rg : zTa R (mI S 71 x.toNatClampNeg) = some c) (h0 : 0 ≤ x.toInt) (h1 : x.toInt < 4500) : zOb (aZ S) x.toInt = mI S 71 x.toNatClampNeg ∧ aZ S 128 (mI S 71 x.toNatClampNeg).toNatClampNeg = mI S c 2 := by
  rw [zb_e, aZ_o (c := 128) (by decide) (by decide) (by decide)]
  exact ob_y hC rg h0 h1
theorem M2_e (h : e = q * (a 87 3).toInt + (a 92 q.toNat).toInt) (h2 : p = q * (a 87 3).toInt) : rMv a e p t = rM2 a q t := by
  unfold rM2
  rw [h, h2]
/-- the region's end stays while others leave it -/
theorem Jr_e3 (h : qJr a q p t) (hp : p < q * (a 87 3).toInt + (a 92 q.toNat).toInt) (hf : 0 ≤ (zOb a p).toInt) (hn : rTo a t (a 128 (zOb a p).toNatClampNeg).toInt ≠ -1) : q * (rM1 a (zOb a p).toNatClampNeg (rTo a t (a 128 (zOb a p).toNatClampNeg).toInt) 87 3).toInt + (rM1 a (zOb a p).toNatClampNeg (rTo a t (a 128 (zOb a p).toNatClampNeg).toInt) 92 q.toNat).toInt = q * (a 87 3).toInt + (a 92 q.toNat).toInt := by
  have j := Jr_to h hp hf hn
  have hr := h.2.1
  rw [M1_r (by decide) (by decide) (by decide)]
  unfold rM1
  rw [xu_o (fun z => by have := z.2; have := j.2.2.2.2.1; omega), Mo_r (by decide) (by decide)]
theorem Jr_en2 (h : qJr a q p t) (hp : ¬ p < q * (a 87 3).toInt + (a 92 q.toNat).toInt) : qRv (ma_u (ma_u a 93 q.toNat 0) 92 q.toNat 0) := by
  have z := Jr_end h hp
  have e : ma_u (ma_u a 93 q.toNat 0) 92 q.toNat 0 = ma_u (ma_u a 92 q.toNat 0) 93 q.toNat 0 := by
    funext c k
    show (if c = 92 ∧ k = q.toNat then 0 else (if c = 93 ∧ k = q.toNat then 0 else a c k)) = (if c = 93 ∧ k = q.toNat then 0 else (if c = 92 ∧ k = q.toNat then 0 else a c k))
    by_cases w : c = 92 ∧ k = q.toNat
    · rw [if_pos w, if_neg (fun w2 => by omega), if_pos w]
    · rw [if_neg w]
      by_cases w2 : c = 93 ∧ k = q.toNat
      · rw [if_pos w2, if_pos w2]
      · rw [if_neg w2, if_neg w2, if_neg w]
  rw [e]
  obtain ⟨z1, z2, z3, z4, z5⟩ := z
  have r : ∀ c, c ≠ 93 → ma_u (ma_u a 92 q.toNat 0) 93 q.toNat 0 c = ma_u a 92 q.toNat 0 c := fun c hc => ma_u_ne _ _ _ hc
  unfold qRv xAl at *
  rw [r 87 (by decide), r 92 (by decide), r 126 (by decide), r 130 (by decide), r 128 (by decide)]
  exact ⟨I_cg z1 (r _ (by decide)) (r _ (by decide)) (r _ (by decide)) (r _ (by decide)) (r _ (by decide)) (r _ (by decide)) (fun j => r _ (by omega)), z2, z3, z4, z5⟩
end F14
theorem g_52_91_sz_0 {X : Nat × (Nat → Int32)} {d w : Nat} {S : ma_S} {Q : Option ma_V ⊕ Nat → ma_S → Prop}  (hd : 0 ≤ d) (hw : 0 ≤ w) (hS : zT S) (h : ma_wp X d w 52 2 [(0, .inr (.inr (some 91))), (1, .inl (0 : Int32))] [] S Q) : ma_wp X d w 52 0 [(0, .inr (.inr (some 91)))] [] S Q := by
  refine zw_push hm_52 dX4_leastEmpty_0 (v := .inl (0 : Int32)) rfl ?_
  refine zw_sto hm_52 dX4_leastEmpty_1 [(1, .inl (0 : Int32)), (0, .inr (.inr (some 91)))] rfl rfl rfl ?_
  exact zw_sub (ma_nd_of (ks := [0, 1]) rfl (by decide)) (ma_nd_of (ks := [1, 0]) rfl (by decide)) (ma_le_cons rfl (ma_le_cons rfl (ma_le_nil _))) h
theorem g_52_91_sz_2 {X : Nat × (Nat → Int32)} {d w : Nat} {S : ma_S} {Q : Option ma_V ⊕ Nat → ma_S → Prop} (l1 : Int32) (hd : 0 ≤ d) (hw : 0 ≤ w) (hS : zT S) (h : if (mI S 91 3) ≤ l1 then (Q (.inl (some (.inl (-1 : Int32)))) S) else (if (93 : Int32) ≤ l1 then (Q (.inl (some (.inl (-1 : Int32)))) S) else ((0 ≤ l1 ∧ l1.toNatClampNeg < 93) ∧ (if (mI S 92 l1.toNatClampNeg) = 0 then (Q (.inl (some (.inl l1))) S) else (ma_wp X d w 52 2 [(0, .inr (.inr (some 91))), (1, .inl (l1 + (1 : Int32)))] [] S Q))))) : ma_wp X d w 52 2 [(0, .inr (.inr (some 91))), (1, .inl l1)] [] S Q := by
  refine zw_push hm_52 dX4_leastEmpty_2 (v := .inl l1) rfl ?_
  refine zw_push hm_52 dX4_leastEmpty_3 (v := .inr (.inr (some 91))) rfl ?_
  refine zw_gf hm_52 dX4_leastEmpty_4 (v := .inl (mI S 91 3)) (zT_is hS s_91) (zT_t hS s_91) rfl f_4_28_4 rfl ?_
  refine zw_if2 hm_52 dX4_leastEmpty_7 (t := 33) rfl zc2_ge ?_ ?_
  · intro hc
    rw [if_pos hc] at h
    refine zw_push hm_52 dX4_leastEmpty_33 (v := .inl (-1 : Int32)) rfl ?_
    exact zw_iret hm_52 dX4_leastEmpty_34 h
  · intro hc
    rw [if_neg hc] at h
    refine zw_push hm_52 dX4_leastEmpty_10 (v := .inl l1) rfl ?_
    refine zw_push hm_52 dX4_leastEmpty_11 (v := .inl (93 : Int32)) rfl ?_
    refine zw_if2 hm_52 dX4_leastEmpty_13 (t := 33) rfl zc2_ge ?_ ?_
    · intro hc
      rw [if_pos hc] at h
      refine zw_push hm_52 dX4_leastEmpty_33 (v := .inl (-1 : Int32)) rfl ?_
      exact zw_iret hm_52 dX4_leastEmpty_34 h
    · intro hc
      rw [if_neg hc] at h
      refine zw_push hm_52 dX4_leastEmpty_16 (v := .inr (.inr (some 91))) rfl ?_
      refine zw_gf hm_52 dX4_leastEmpty_17 (v := .inr (.inr (some 92))) (zT_is hS s_91) (zT_t hS s_91) rfl f_4_9_4 (zT_f hS r_91_7) ?_
      refine zw_push hm_52 dX4_leastEmpty_20 (v := .inl l1) rfl ?_
      obtain ⟨hg, h⟩ := h
      refine zw_ia hm_52 dX4_leastEmpty_21 (zT_is hS s_92) (zT_h hS s_92) rfl hg ?_
      show ma_wp X d w 52 22 [(0, .inr (.inr (some 91))), (1, .inl l1)] [.inl (mI S 92 l1.toNatClampNeg)] S _
      refine zw_if0 hm_52 dX4_leastEmpty_22 (t := 27) rfl zc0_ne ?_ ?_
      · intro hc
        rw [if_neg hc] at h
        refine zw_sto hm_52 dX4_leastEmpty_27 [(1, .inl (l1 + (1 : Int32))), (0, .inr (.inr (some 91)))] rfl rfl rfl ?_
        refine zw_goto hm_52 dX4_leastEmpty_30 (t := 2) rfl ?_
        exact zw_sub (ma_nd_of (ks := [0, 1]) rfl (by decide)) (ma_nd_of (ks := [1, 0]) rfl (by decide)) (ma_le_cons rfl (ma_le_cons rfl (ma_le_nil _))) h
      · intro hc
        rw [if_pos (Classical.not_not.mp hc)] at h
        refine zw_push hm_52 dX4_leastEmpty_25 (v := .inl l1) rfl ?_
        exact zw_iret hm_52 dX4_leastEmpty_26 h
theorem lp_52_91_sz_2 {X : Nat × (Nat → Int32)} {d w : Nat} {f : Nat → Nat → Int32} {r : Nat → Nat → Option Nat} {C Z N : Nat} {Q : Option ma_V ⊕ Nat → ma_S → Prop} {S : ma_S} (hd : 0 ≤ d) (hw : 0 ≤ w) (K : ∀ v S₉, S₉ = S → (-1 ≤ v.toInt ∧ v.toInt ≤ 92 ∧ (v.toInt < 0 ∨ (mI S 92 v.toNatClampNeg).toInt = 0)) → (v.toInt = rLe (aZ S)) → Q (.inl (some (.inl v))) S₉) : ∀ (n : Nat) (l1 : Int32), (93 - l1.toInt).toNat = n → zL91 f r C Z N S → (0 ≤ l1.toInt) → (rLf (aZ S) (93 - l1.toInt).toNat l1.toNatClampNeg = rLe (aZ S)) → ma_wp X d w 52 2 [(0, .inr (.inr (some 91))), (1, .inl l1)] [] S Q := by
  intro n
  induction n using Nat.strongRecOn with
  | _ n IH =>
    intro l1 hmu hI  hi0 hi1
    refine g_52_91_sz_2 l1 (by omega) (by omega) (zG_T hI) ?_
    have f1 := zG_s hI (0) (93) (c := 91) (k := 3) (by decide)
    have b2 := i_bd l1
    refine zd (fun h3 => ?_) (fun h3 => ?_)
    · skip
      have g4 := i_le h3
      have li5 : (-1 : Int32).toInt = -1 := rfl
      first | have f6 := zG_a hI 93 (0) (3000) (c := 92) (k := (-1 : Int32).toNatClampNeg) (by decide) (i_ix (n := 93) (by omega) (by omega)).2 | have b7 := i_bd (mI S 92 (-1 : Int32).toNatClampNeg)
      exact K ((-1 : Int32)) _ rfl (show -1 ≤ (-1 : Int32).toInt ∧ (-1 : Int32).toInt ≤ 92 ∧ ((-1 : Int32).toInt < 0 ∨ (mI S 92 (-1 : Int32).toNatClampNeg).toInt = 0) from by omega) (show (-1 : Int32).toInt = rLe (aZ S) from by first | (have i4 := congrArg Int32.toInt (show aZ S 87 4 = mI S 91 3 from rfl); have q := hi1; have tc := tn_cast (x := l1) (by omega); rw [show (93 - l1.toInt).toNat = (92 - l1.toInt).toNat + 1 from by omega, Lf_y (by omega) (by rw [aZ_9 (Or.inl rfl)]; omega)] at q; omega) | (have i4 := congrArg Int32.toInt (show aZ S 87 4 = mI S 91 3 from rfl); have q := hi1; have tc := tn_cast (x := l1) (by omega); rw [Lf_e (by omega)] at q; omega) | (have i4 := congrArg Int32.toInt (show aZ S 87 4 = mI S 91 3 from rfl); have q := hi1; have tc := tn_cast (x := l1) (by omega); rw [show (93 - l1.toInt).toNat = 0 from by omega] at q; exact q))
    · skip
      have g8 := i_nle h3
      have li9 : (93 : Int32).toInt = 93 := rfl
      refine zd (fun h10 => ?_) (fun h10 => ?_)
      · skip
        have g11 := i_le h10
        have li12 : (-1 : Int32).toInt = -1 := rfl
        first | have f13 := zG_a hI 93 (0) (3000) (c := 92) (k := (-1 : Int32).toNatClampNeg) (by decide) (i_ix (n := 93) (by omega) (by omega)).2 | have b14 := i_bd (mI S 92 (-1 : Int32).toNatClampNeg)
        exact K ((-1 : Int32)) _ rfl (show -1 ≤ (-1 : Int32).toInt ∧ (-1 : Int32).toInt ≤ 92 ∧ ((-1 : Int32).toInt < 0 ∨ (mI S 92 (-1 : Int32).toNatClampNeg).toInt = 0) from by omega) (show (-1 : Int32).toInt = rLe (aZ S) from by first | (have i4 := congrArg Int32.toInt (show aZ S 87 4 = mI S 91 3 from rfl); have q := hi1; have tc := tn_cast (x := l1) (by omega); rw [show (93 - l1.toInt).toNat = (92 - l1.toInt).toNat + 1 from by omega, Lf_y (by omega) (by rw [aZ_9 (Or.inl rfl)]; omega)] at q; omega) | (have i4 := congrArg Int32.toInt (show aZ S 87 4 = mI S 91 3 from rfl); have q := hi1; have tc := tn_cast (x := l1) (by omega); rw [Lf_e (by omega)] at q; omega) | (have i4 := congrArg Int32.toInt (show aZ S 87 4 = mI S 91 3 from rfl); have q := hi1; have tc := tn_cast (x := l1) (by omega); rw [show (93 - l1.toInt).toNat = 0 from by omega] at q; exact q))
      · skip
        have g15 := i_nle h10
        refine ⟨i_ix (by omega) (by omega), ?_⟩
        first | have f16 := zG_a hI 93 (0) (3000) (c := 92) (k := l1.toNatClampNeg) (by decide) (i_ix (n := 93) (by omega) (by omega)).2 | have b17 := i_bd (mI S 92 l1.toNatClampNeg)
        have li18 : (0 : Int32).toInt = 0 := rfl
        refine zd (fun h19 => ?_) (fun h19 => ?_)
        · skip
          have g20 := i_eq h19
          exact K (l1) _ rfl (show -1 ≤ l1.toInt ∧ l1.toInt ≤ 92 ∧ (l1.toInt < 0 ∨ (mI S 92 l1.toNatClampNeg).toInt = 0) from by omega) (show l1.toInt = rLe (aZ S) from by first | (have i4 := congrArg Int32.toInt (show aZ S 87 4 = mI S 91 3 from rfl); have q := hi1; have tc := tn_cast (x := l1) (by omega); rw [show (93 - l1.toInt).toNat = (92 - l1.toInt).toNat + 1 from by omega, Lf_y (by omega) (by rw [aZ_9 (Or.inl rfl)]; omega)] at q; omega) | (have i4 := congrArg Int32.toInt (show aZ S 87 4 = mI S 91 3 from rfl); have q := hi1; have tc := tn_cast (x := l1) (by omega); rw [Lf_e (by omega)] at q; omega) | (have i4 := congrArg Int32.toInt (show aZ S 87 4 = mI S 91 3 from rfl); have q := hi1; have tc := tn_cast (x := l1) (by omega); rw [show (93 - l1.toInt).toNat = 0 from by omega] at q; exact q))
        · skip
          have g21 := i_ne h19
          first | have e22 : (l1 + (1 : Int32)).toInt = l1.toInt + (1) := i_addk rfl (by omega) (by omega) | have b23 := i_bd (l1 + (1 : Int32))
          exact IH _ (by omega) ((l1 + (1 : Int32))) rfl hI (by omega) (show rLf (aZ S) (93 - ((l1 + (1 : Int32))).toInt).toNat ((l1 + (1 : Int32))).toNatClampNeg = rLe (aZ S) from by first | (have i4 := congrArg Int32.toInt (show aZ S 87 4 = mI S 91 3 from rfl); have q := hi1; rw [show (93 - l1.toInt).toNat = (93 - (l1 + (1 : Int32)).toInt).toNat + 1 from by omega, Lf_n (by rw [tn_cast (x := l1) (by omega)]; omega) (by rw [aZ_9 (Or.inl rfl)]; omega)] at q; rw [show (l1 + (1 : Int32)).toNatClampNeg = l1.toNatClampNeg + 1 from by have := tn_cast (x := l1) (by omega); have := tn_cast (x := (l1 + (1 : Int32))) (by omega); omega]; exact q))
theorem sp_52_91_sz {X : Nat × (Nat → Int32)} {d w : Nat} {f : Nat → Nat → Int32} {r : Nat → Nat → Option Nat} {C Z N : Nat} {Q : Option ma_V ⊕ Nat → ma_S → Prop} {S : ma_S}  (hd : 0 ≤ d) (hw : 0 ≤ w) (hI : zL91 f r C Z N S)  (K : ∀ v S₉, S₉ = S → (-1 ≤ v.toInt ∧ v.toInt ≤ 92 ∧ (v.toInt < 0 ∨ (mI S 92 v.toNatClampNeg).toInt = 0)) → (v.toInt = rLe (aZ S)) → Q (.inl (some (.inl v))) S₉) : ma_wp X d w 52 0 [(0, .inr (.inr (some 91)))] [] S Q := by
  refine g_52_91_sz_0  (by omega) (by omega) (zG_T hI) ?_
  have li1 : (0 : Int32).toInt = 0 := rfl
  exact lp_52_91_sz_2 (by omega) (by omega) K _ ((0 : Int32)) rfl hI (by omega) (show rLf (aZ S) (93 - ((0 : Int32)).toInt).toNat ((0 : Int32)).toNatClampNeg = rLe (aZ S) from by first | (exact rfl))
theorem g_276_93_sz_0 {X : Nat × (Nat → Int32)} {d w : Nat} {S : ma_S} {Q : Option ma_V ⊕ Nat → ma_S → Prop} (x : Int32) (hd : 0 ≤ d) (hw : 0 ≤ w) (hS : zT S) (h : ma_wp X d w 276 5 [(0, .inr (.inr (some 93))), (1, .inl x), (2, .inl (0 : Int32)), (3, .inl (93 : Int32))] [] S Q) : ma_wp X d w 276 0 [(0, .inr (.inr (some 93))), (1, .inl x)] [] S Q := by
  refine zw_push hm_276 dJ7_fill_53178_0 (v := .inl (0 : Int32)) rfl ?_
  refine zw_sto hm_276 dJ7_fill_53178_1 [(2, .inl (0 : Int32)), (0, .inr (.inr (some 93))), (1, .inl x)] rfl rfl rfl ?_
  refine zw_push hm_276 dJ7_fill_53178_2 (v := .inr (.inr (some 93))) rfl ?_
  refine zw_len hm_276 dJ7_fill_53178_3 (zT_is hS s_93) (zT_h hS s_93) rfl rfl ?_
  refine zw_sto hm_276 dJ7_fill_53178_4 [(3, .inl (93 : Int32)), (2, .inl (0 : Int32)), (0, .inr (.inr (some 93))), (1, .inl x)] rfl rfl rfl ?_
  exact zw_sub (ma_nd_of (ks := [0, 1, 2, 3]) rfl (by decide)) (ma_nd_of (ks := [3, 2, 0, 1]) rfl (by decide)) (ma_le_cons rfl (ma_le_cons rfl (ma_le_cons rfl (ma_le_cons rfl (ma_le_nil _))))) h
theorem g_276_93_sz_5 {X : Nat × (Nat → Int32)} {d w : Nat} {S : ma_S} {Q : Option ma_V ⊕ Nat → ma_S → Prop} (l1 : Int32) (l2 : Int32) (l3 : Int32) (hd : 0 ≤ d) (hw : 0 ≤ w) (hS : zT S) (h : if l3 ≤ l2 then (Q (.inl none) S) else ((0 ≤ l2 ∧ l2.toNatClampNeg < 93) ∧ (ma_wp X d w 276 5 [(0, .inr (.inr (some 93))), (1, .inl l1), (2, .inl (l2 + (1 : Int32))), (3, .inl l3)] [] (ma_put S 93 l2.toNatClampNeg (.inl l1)) Q))) : ma_wp X d w 276 5 [(0, .inr (.inr (some 93))), (1, .inl l1), (2, .inl l2), (3, .inl l3)] [] S Q := by
  refine zw_push hm_276 dJ7_fill_53178_5 (v := .inl l2) rfl ?_
  refine zw_push hm_276 dJ7_fill_53178_6 (v := .inl l3) rfl ?_
  refine zw_if2 hm_276 dJ7_fill_53178_7 (t := 20) rfl zc2_ge ?_ ?_
  · intro hc
    rw [if_pos hc] at h
    exact zw_vret hm_276 dJ7_fill_53178_20 h
  · intro hc
    rw [if_neg hc] at h
    refine zw_push hm_276 dJ7_fill_53178_10 (v := .inr (.inr (some 93))) rfl ?_
    refine zw_push hm_276 dJ7_fill_53178_11 (v := .inl l2) rfl ?_
    refine zw_push hm_276 dJ7_fill_53178_12 (v := .inl l1) rfl ?_
    obtain ⟨hg, h⟩ := h
    refine zw_ias hm_276 dJ7_fill_53178_13 (zT_is hS s_93) (zT_h hS s_93) rfl hg ?_
    refine zw_sto hm_276 dJ7_fill_53178_14 [(2, .inl (l2 + (1 : Int32))), (0, .inr (.inr (some 93))), (1, .inl l1), (3, .inl l3)] rfl rfl rfl ?_
    refine zw_goto hm_276 dJ7_fill_53178_17 (t := 5) rfl ?_
    exact zw_sub (ma_nd_of (ks := [0, 1, 2, 3]) rfl (by decide)) (ma_nd_of (ks := [2, 0, 1, 3]) rfl (by decide)) (ma_le_cons rfl (ma_le_cons rfl (ma_le_cons rfl (ma_le_cons rfl (ma_le_nil _))))) h
theorem lp_276_93_sz_5 {X : Nat × (Nat → Int32)} {d w : Nat} {f : Nat → Nat → Int32} {r : Nat → Nat → Option Nat} {C Z N : Nat} {Q : Option ma_V ⊕ Nat → ma_S → Prop} {ab : Nat→Nat→Int32} {x : Int32} (hd : 0 ≤ d) (hw : 0 ≤ w) (K : ∀ S₉, zL91 f r C Z N S₉ → (xB S₉ (mR S₉ 70)) → (aZ S₉ = zFl ab 93 x 93) → Q (.inl none) S₉) : ∀ (n : Nat) (S : ma_S) (l1 : Int32) (l2 : Int32) (l3 : Int32), (l3.toInt - l2.toInt).toNat = n → zL91 f r C Z N S → (0 ≤ l2.toInt) → (l3.toInt = 93) → (l2.toInt ≤ 93) → (xB S (mR S 70)) → (aZ S = zFl ab 93 l1 l2.toInt) → (l1 = x) → ma_wp X d w 276 5 [(0, .inr (.inr (some 93))), (1, .inl l1), (2, .inl l2), (3, .inl l3)] [] S Q := by
  intro n
  induction n using Nat.strongRecOn with
  | _ n IH =>
    intro S l1 l2 l3 hmu hI  hi0 hi1 hi2 hi3 hi4 hi5
    refine g_276_93_sz_5 l1 l2 l3 (by omega) (by omega) (zG_T hI) ?_
    have b1 := i_bd l3
    have b2 := i_bd l2
    refine zd (fun h3 => ?_) (fun h3 => ?_)
    · skip
      have g4 := i_le h3
      exact K _ hI (show xB S (mR S 70) from by first | (exact xB_x (xC_o (W := 75) hi3).2)) (show aZ S = zFl ab 93 x 93 from by first | (rw [hi4, show l2.toInt = 93 from by omega, hi5]))
    · skip
      have g5 := i_nle h3
      refine ⟨i_ix (by omega) (by omega), ?_⟩
      have hI6 : zL91 f r C Z N (ma_put S 93 l2.toNatClampNeg (.inl l1)) := zG_fa hI rfl (by decide) (by decide) (by decide) trivial
      have b7 := i_bd l1
      first | have e8 : (l2 + (1 : Int32)).toInt = l2.toInt + (1) := i_addk rfl (by omega) (by omega) | have b9 := i_bd (l2 + (1 : Int32))
      exact IH _ (by omega) _ (l1) ((l2 + (1 : Int32))) (l3) rfl hI6 (by omega) (by omega) (by omega) (show xB (ma_put S 93 l2.toNatClampNeg (.inl l1)) (mR (ma_put S 93 l2.toNatClampNeg (.inl l1)) 70) from by first | (exact xB_x (xC_n (c := 93) (k := l2.toNatClampNeg) (x := l1) (xC_o (W := 75) hi3) ⟨by decide, Or.inl ⟨rfl, rfl⟩⟩).2)) (show aZ (ma_put S 93 l2.toNatClampNeg (.inl l1)) = zFl ab 93 (l1) ((l2 + (1 : Int32))).toInt from by first | (rw [((Z_p9 (c := 93) (n := l2.toNatClampNeg) (x := l1) (xC_o (W := 75) hi3).2 (by decide)).trans (congrArg (fun q => ma_u q 93 l2.toNatClampNeg l1) (show aZ S = aZ S from rfl))), hi4]; exact zFl_s (by omega) (by omega))) (show (l1) = x from by first | (exact rfl) | (exact hi5))
theorem sp_276_93_sz {X : Nat × (Nat → Int32)} {d w : Nat} {f : Nat → Nat → Int32} {r : Nat → Nat → Option Nat} {C Z N : Nat} {Q : Option ma_V ⊕ Nat → ma_S → Prop} {ab : Nat→Nat→Int32} {S : ma_S} (x : Int32) (hd : 0 ≤ d) (hw : 0 ≤ w) (hI : zL91 f r C Z N S) (hpre0 : xB S (mR S 70)) (hpre1 : aZ S = ab) (K : ∀ S₉, zL91 f r C Z N S₉ → (xB S₉ (mR S₉ 70)) → (aZ S₉ = zFl ab 93 x 93) → Q (.inl none) S₉) : ma_wp X d w 276 0 [(0, .inr (.inr (some 93))), (1, .inl x)] [] S Q := by
  refine g_276_93_sz_0 x (by omega) (by omega) (zG_T hI) ?_
  have b1 := i_bd x
  have li2 : (0 : Int32).toInt = 0 := rfl
  have li3 : (93 : Int32).toInt = 93 := rfl
  exact lp_276_93_sz_5 (by omega) (by omega) K _ _ (x) ((0 : Int32)) ((93 : Int32)) rfl hI (by omega) (by omega) (by omega) (show xB S (mR S 70) from by first | (exact xB_x (xC_o (W := 75) hpre0).2)) (show aZ S = zFl ab 93 (x) ((0 : Int32)).toInt from by first | (rw [hpre1]; exact zFl_0.symm)) (show (x) = x from by first | (exact rfl))

/-! from 95.s13 -/
/-! REGIONS, the class (written by wip/tools/gen15z.py) -/
theorem g_44_91_sz_0 {X : Nat × (Nat → Int32)} {d w : Nat} {S : ma_S} {Q : Option ma_V ⊕ Nat → ma_S → Prop}  (hd : 2 ≤ d) (hw : 89 ≤ w) (hS : zT S) (h : ma_wp X (d - 1) (w - 23) 276 0 [(0, .inr (.inr (some 93))), (1, .inl (0 : Int32))] [] S (zv (fun S1 => zT S1 ∧ (ma_wp X d w 44 10 [(0, .inr (.inr (some 91))), (1, .inl (0 : Int32))] [] S1 Q)) (fun _ _ => False))) : ma_wp X d w 44 0 [(0, .inr (.inr (some 91)))] [] S Q := by
  refine zw_push hm_44 dX4_sumKept_0 (v := .inr (.inr (some 91))) rfl ?_
  refine zw_gf hm_44 dX4_sumKept_1 (v := .inr (.inr (some 93))) (zT_is hS s_91) (zT_t hS s_91) rfl f_4_15_4 (zT_f hS r_91_8) ?_
  refine zw_push hm_44 dX4_sumKept_4 (v := .inl (0 : Int32)) rfl ?_
  refine zw_cs hm_44 dX4_sumKept_5 pn_4_37 sl_4_37 hm_276 [.inl (0 : Int32), .inr (.inr (some 93))] [] rfl ⟨by omega, by omega⟩ rfl (zw_mono h (zv_go ?_ ?_))
  · intro S1 hv
    obtain ⟨hS1, h⟩ := hv
    refine zw_push hm_44 dX4_sumKept_8 (v := .inl (0 : Int32)) rfl ?_
    refine zw_sto hm_44 dX4_sumKept_9 [(1, .inl (0 : Int32)), (0, .inr (.inr (some 91)))] rfl rfl rfl ?_
    exact zw_sub (ma_nd_of (ks := [0, 1]) rfl (by decide)) (ma_nd_of (ks := [1, 0]) rfl (by decide)) (ma_le_cons rfl (ma_le_cons rfl (ma_le_nil _))) h
  · intro x S9 hx
    exact hx.elim
theorem g_44_91_sz_10 {X : Nat × (Nat → Int32)} {d w : Nat} {S : ma_S} {Q : Option ma_V ⊕ Nat → ma_S → Prop} (l1 : Int32) (hd : 2 ≤ d) (hw : 89 ≤ w) (hS : zT S) (h : if (mI S 69 6) ≤ l1 then (Q (.inl none) S) else (if l1 < 0 then (ma_wp X d w 44 10 [(0, .inr (.inr (some 91))), (1, .inl (l1 + (1 : Int32)))] [] S Q) else (if (512 : Int32) ≤ l1 then (ma_wp X d w 44 10 [(0, .inr (.inr (some 91))), (1, .inl (l1 + (1 : Int32)))] [] S Q) else ((0 ≤ l1 ∧ l1.toNatClampNeg < 512) ∧ (((mR S 70 l1.toNatClampNeg) = none → ma_wp X d w 44 10 [(0, .inr (.inr (some 91))), (1, .inl (l1 + (1 : Int32)))] [] S Q) ∧ (∀ c1, (mR S 70 l1.toNatClampNeg) = some c1 → if (mI S 91 2) ≤ 0 then ((126 ≤ c1 ∧ c1 < mN S) ∧ (ma_wp X d w 44 10 [(0, .inr (.inr (some 91))), (1, .inl (l1 + (1 : Int32)))] [] (ma_put S 93 0 (.inl ((mI S 93 0) + (mI S c1 2)))) Q)) else ((126 ≤ c1 ∧ c1 < mN S) ∧ ((mI S 91 2) ≠ 0 ∧ ((0 ≤ (if (92 : Int32) < ((mI S c1 4) / (mI S 91 2)) then (92 : Int32) else ((mI S c1 4) / (mI S 91 2))) ∧ (if (92 : Int32) < ((mI S c1 4) / (mI S 91 2)) then (92 : Int32) else ((mI S c1 4) / (mI S 91 2))).toNatClampNeg < 93) ∧ ((126 ≤ c1 ∧ c1 < mN S) ∧ ((0 ≤ (if (92 : Int32) < ((mI S c1 4) / (mI S 91 2)) then (92 : Int32) else ((mI S c1 4) / (mI S 91 2))) ∧ (if (92 : Int32) < ((mI S c1 4) / (mI S 91 2)) then (92 : Int32) else ((mI S c1 4) / (mI S 91 2))).toNatClampNeg < 93) ∧ (ma_wp X d w 44 10 [(0, .inr (.inr (some 91))), (1, .inl (l1 + (1 : Int32)))] [] (ma_put S 93 (if (92 : Int32) < ((mI S c1 4) / (mI S 91 2)) then (92 : Int32) else ((mI S c1 4) / (mI S 91 2))).toNatClampNeg (.inl ((mI S 93 (if (92 : Int32) < ((mI S c1 4) / (mI S 91 2)) then (92 : Int32) else ((mI S c1 4) / (mI S 91 2))).toNatClampNeg) + (mI S c1 2)))) Q)))))))))))) : ma_wp X d w 44 10 [(0, .inr (.inr (some 91))), (1, .inl l1)] [] S Q := by
  refine zw_push hm_44 dX4_sumKept_10 (v := .inl l1) rfl ?_
  refine zw_push hm_44 dX4_sumKept_11 (v := .inr (.inr (some 91))) rfl ?_
  refine zw_gf hm_44 dX4_sumKept_12 (v := .inr (.inr (some 69))) (zT_is hS s_91) (zT_t hS s_91) rfl f_4_100_4 (zT_f hS r_91_0) ?_
  refine zw_gf hm_44 dX4_sumKept_15 (v := .inl (mI S 69 6)) (zT_is hS s_69) (zT_t hS s_69) rfl f_4_104_7 rfl ?_
  refine zw_if2 hm_44 dX4_sumKept_18 (t := 57) rfl zc2_ge ?_ ?_
  · intro hc
    rw [if_pos hc] at h
    exact zw_vret hm_44 dX4_sumKept_57 h
  · intro hc
    rw [if_neg hc] at h
    refine zw_push hm_44 dX4_sumKept_21 (v := .inr (.inr (some 91))) rfl ?_
    refine zw_gf hm_44 dX4_sumKept_22 (v := .inr (.inr (some 69))) (zT_is hS s_91) (zT_t hS s_91) rfl f_4_100_4 (zT_f hS r_91_0) ?_
    refine zw_push hm_44 dX4_sumKept_25 (v := .inl l1) rfl ?_
    refine zw_cv hm_44 dX4_sumKept_26 v_4_109_7 hm_81 [.inl l1] [] rfl (zT_rt hS s_69 rfl) ⟨by omega, by omega⟩ rfl ?_
    show ma_wp X (d - 1) (w - 21) 81 0 [(0, .inr (.inr (some 69))), (1, .inl l1)] [] S _
    refine zw_push hm_81 dX7_thingAt_0 (v := .inl l1) rfl ?_
    refine zw_if0 hm_81 dX7_thingAt_1 (t := 20) rfl zc0_lt ?_ ?_
    · intro hc
      rw [if_pos hc] at h
      refine zw_push hm_81 dX7_thingAt_20 (v := .inr (.inr none)) rfl ?_
      refine zw_aret hm_81 dX7_thingAt_21 ?_
      show ma_wp X d w 44 29 [(0, .inr (.inr (some 91))), (1, .inl l1)] [.inr (.inr none)] S _
      refine zw_sto hm_44 dX4_sumKept_29 [(2, .inr (.inr none)), (0, .inr (.inr (some 91))), (1, .inl l1)] rfl rfl rfl ?_
      refine zw_push hm_44 dX4_sumKept_30 (v := .inr (.inr none)) rfl ?_
      refine zw_ifnull hm_44 dX4_sumKept_31 (t := 51) rfl (fun _ => ?_) (fun _ z => by cases z)
      refine zw_sto hm_44 dX4_sumKept_51 [(1, .inl (l1 + (1 : Int32))), (2, .inr (.inr none)), (0, .inr (.inr (some 91)))] rfl rfl rfl ?_
      refine zw_goto hm_44 dX4_sumKept_54 (t := 10) rfl ?_
      exact zw_sub (ma_nd_of (ks := [0, 1]) rfl (by decide)) (ma_nd_of (ks := [1, 2, 0]) rfl (by decide)) (ma_le_cons rfl (ma_le_cons rfl (ma_le_nil _))) h
    · intro hc
      rw [if_neg hc] at h
      refine zw_push hm_81 dX7_thingAt_4 (v := .inl l1) rfl ?_
      refine zw_push hm_81 dX7_thingAt_5 (v := .inl (512 : Int32)) rfl ?_
      refine zw_if2 hm_81 dX7_thingAt_8 (t := 20) rfl zc2_ge ?_ ?_
      · intro hc
        rw [if_pos hc] at h
        refine zw_push hm_81 dX7_thingAt_20 (v := .inr (.inr none)) rfl ?_
        refine zw_aret hm_81 dX7_thingAt_21 ?_
        show ma_wp X d w 44 29 [(0, .inr (.inr (some 91))), (1, .inl l1)] [.inr (.inr none)] S _
        refine zw_sto hm_44 dX4_sumKept_29 [(2, .inr (.inr none)), (0, .inr (.inr (some 91))), (1, .inl l1)] rfl rfl rfl ?_
        refine zw_push hm_44 dX4_sumKept_30 (v := .inr (.inr none)) rfl ?_
        refine zw_ifnull hm_44 dX4_sumKept_31 (t := 51) rfl (fun _ => ?_) (fun _ z => by cases z)
        refine zw_sto hm_44 dX4_sumKept_51 [(1, .inl (l1 + (1 : Int32))), (2, .inr (.inr none)), (0, .inr (.inr (some 91)))] rfl rfl rfl ?_
        refine zw_goto hm_44 dX4_sumKept_54 (t := 10) rfl ?_
        exact zw_sub (ma_nd_of (ks := [0, 1]) rfl (by decide)) (ma_nd_of (ks := [1, 2, 0]) rfl (by decide)) (ma_le_cons rfl (ma_le_cons rfl (ma_le_nil _))) h
      · intro hc
        rw [if_neg hc] at h
        refine zw_push hm_81 dX7_thingAt_11 (v := .inr (.inr (some 69))) rfl ?_
        refine zw_gf hm_81 dX7_thingAt_12 (v := .inr (.inr (some 70))) (zT_is hS s_69) (zT_t hS s_69) rfl f_7_11_7 (zT_f hS r_69_0) ?_
        refine zw_push hm_81 dX7_thingAt_15 (v := .inl l1) rfl ?_
        obtain ⟨hg, h⟩ := h
        refine zw_aa hm_81 dX7_thingAt_16 (zT_is hS s_70) (zT_h hS s_70) rfl rfl hg rfl ?_
        show ma_wp X (d - 1) (w - 21) 81 17 [(0, .inr (.inr (some 69))), (1, .inl l1)] [.inr (.inr (mR S 70 l1.toNatClampNeg))] S _
        refine zw_goto hm_81 dX7_thingAt_17 (t := 21) rfl ?_
        refine zw_aret hm_81 dX7_thingAt_21 ?_
        show ma_wp X d w 44 29 [(0, .inr (.inr (some 91))), (1, .inl l1)] [.inr (.inr (mR S 70 l1.toNatClampNeg))] S _
        refine zw_sto hm_44 dX4_sumKept_29 [(2, .inr (.inr (mR S 70 l1.toNatClampNeg))), (0, .inr (.inr (some 91))), (1, .inl l1)] rfl rfl rfl ?_
        refine zw_push hm_44 dX4_sumKept_30 (v := .inr (.inr (mR S 70 l1.toNatClampNeg))) rfl ?_
        refine zw_ifnull hm_44 dX4_sumKept_31 (t := 51) rfl ?_ ?_
        · intro hc
          have h := h.1 hc
          (try rw [hc])
          show ma_wp X d w 44 51 [(2, .inr (.inr none)), (0, .inr (.inr (some 91))), (1, .inl l1)] [] S _
          refine zw_sto hm_44 dX4_sumKept_51 [(1, .inl (l1 + (1 : Int32))), (2, .inr (.inr none)), (0, .inr (.inr (some 91)))] rfl rfl rfl ?_
          refine zw_goto hm_44 dX4_sumKept_54 (t := 10) rfl ?_
          exact zw_sub (ma_nd_of (ks := [0, 1]) rfl (by decide)) (ma_nd_of (ks := [1, 2, 0]) rfl (by decide)) (ma_le_cons rfl (ma_le_cons rfl (ma_le_nil _))) h
        · intro c1 hc
          have h := h.2 c1 hc
          (try rw [hc])
          show ma_wp X d w 44 34 [(2, .inr (.inr (some c1))), (0, .inr (.inr (some 91))), (1, .inl l1)] [] S _
          refine zw_push hm_44 dX4_sumKept_34 (v := .inr (.inr (some 91))) rfl ?_
          refine zw_gf hm_44 dX4_sumKept_35 (v := .inr (.inr (some 93))) (zT_is hS s_91) (zT_t hS s_91) rfl f_4_15_4 (zT_f hS r_91_8) ?_
          refine zw_push hm_44 dX4_sumKept_38 (v := .inr (.inr (some 91))) rfl ?_
          refine zw_push hm_44 dX4_sumKept_39 (v := .inr (.inr (some c1))) rfl ?_
          refine zw_cv hm_44 dX4_sumKept_40 v_4_113_4 hm_45 [.inr (.inr (some c1))] [.inr (.inr (some 93))] rfl (zT_rt hS s_91 rfl) ⟨by omega, by omega⟩ rfl ?_
          show ma_wp X (d - 1) (w - 21) 45 0 [(0, .inr (.inr (some 91))), (1, .inr (.inr (some c1)))] [] S _
          refine zw_push hm_45 dX4_regionOf_0 (v := .inr (.inr (some 91))) rfl ?_
          refine zw_gf hm_45 dX4_regionOf_1 (v := .inl (mI S 91 2)) (zT_is hS s_91) (zT_t hS s_91) rfl f_4_18_4 rfl ?_
          refine zw_if0 hm_45 dX4_regionOf_4 (t := 24) rfl zc0_le ?_ ?_
          · intro hc
            rw [if_pos hc] at h
            refine zw_push hm_45 dX4_regionOf_24 (v := .inl (0 : Int32)) rfl ?_
            refine zw_iret hm_45 dX4_regionOf_25 ?_
            show ma_wp X d w 44 43 [(2, .inr (.inr (some c1))), (0, .inr (.inr (some 91))), (1, .inl l1)] [.inl (0 : Int32), .inr (.inr (some 93))] S _
            refine zw_stk hm_44 dX4_sumKept_43 (st₉ := [.inl (0 : Int32), .inr (.inr (some 93)), .inl (0 : Int32), .inr (.inr (some 93))]) rfl rfl ?_
            refine zw_ia hm_44 dX4_sumKept_44 (zT_is hS s_93) (zT_h hS s_93) rfl ⟨by decide, by decide⟩ ?_
            show ma_wp X d w 44 45 [(2, .inr (.inr (some c1))), (0, .inr (.inr (some 91))), (1, .inl l1)] [.inl (mI S 93 0), .inl (0 : Int32), .inr (.inr (some 93))] S _
            refine zw_push hm_44 dX4_sumKept_45 (v := .inr (.inr (some c1))) rfl ?_
            obtain ⟨hg, h⟩ := h
            refine zw_gf hm_44 dX4_sumKept_46 (v := .inl (mI S c1 2)) (zT_tis hS hg) (zT_tt hS hg) rfl f_4_63_9 rfl ?_
            refine zw_stk hm_44 dX4_sumKept_49 (st₉ := [.inl ((mI S 93 0) + (mI S c1 2)), .inl (0 : Int32), .inr (.inr (some 93))]) rfl rfl ?_
            refine zw_ias hm_44 dX4_sumKept_50 (zT_is hS s_93) (zT_h hS s_93) rfl ⟨by decide, by decide⟩ ?_
            refine zw_sto hm_44 dX4_sumKept_51 [(1, .inl (l1 + (1 : Int32))), (2, .inr (.inr (some c1))), (0, .inr (.inr (some 91)))] rfl rfl rfl ?_
            refine zw_goto hm_44 dX4_sumKept_54 (t := 10) rfl ?_
            exact zw_sub (ma_nd_of (ks := [0, 1]) rfl (by decide)) (ma_nd_of (ks := [1, 2, 0]) rfl (by decide)) (ma_le_cons rfl (ma_le_cons rfl (ma_le_nil _))) h
          · intro hc
            rw [if_neg hc] at h
            refine zw_push hm_45 dX4_regionOf_7 (v := .inr (.inr (some c1))) rfl ?_
            obtain ⟨hg, h⟩ := h
            refine zw_gf hm_45 dX4_regionOf_8 (v := .inl (mI S c1 4)) (zT_tis hS hg) (zT_tt hS hg) rfl f_4_97_9 rfl ?_
            refine zw_push hm_45 dX4_regionOf_11 (v := .inr (.inr (some 91))) rfl ?_
            refine zw_gf hm_45 dX4_regionOf_12 (v := .inl (mI S 91 2)) (zT_is hS s_91) (zT_t hS s_91) rfl f_4_18_4 rfl ?_
            obtain ⟨hg, h⟩ := h
            refine zw_stk hm_45 dX4_regionOf_15 (st₉ := [.inl ((mI S c1 4) / (mI S 91 2))]) rfl (if_neg hg) ?_
            refine zw_push hm_45 dX4_regionOf_16 (v := .inl (92 : Int32)) rfl ?_
            refine zw_min hm_45 dX4_regionOf_18 pr_4_22 (by omega) (by show 0 + 13 ≤ (w - 21); omega) (fun _ _ _ _ z => by cases z) ?_
            refine zw_goto hm_45 dX4_regionOf_21 (t := 25) rfl ?_
            refine zw_iret hm_45 dX4_regionOf_25 ?_
            show ma_wp X d w 44 43 [(2, .inr (.inr (some c1))), (0, .inr (.inr (some 91))), (1, .inl l1)] [.inl (if (92 : Int32) < ((mI S c1 4) / (mI S 91 2)) then (92 : Int32) else ((mI S c1 4) / (mI S 91 2))), .inr (.inr (some 93))] S _
            refine zw_stk hm_44 dX4_sumKept_43 (st₉ := [.inl (if (92 : Int32) < ((mI S c1 4) / (mI S 91 2)) then (92 : Int32) else ((mI S c1 4) / (mI S 91 2))), .inr (.inr (some 93)), .inl (if (92 : Int32) < ((mI S c1 4) / (mI S 91 2)) then (92 : Int32) else ((mI S c1 4) / (mI S 91 2))), .inr (.inr (some 93))]) rfl rfl ?_
            obtain ⟨hg, h⟩ := h
            refine zw_ia hm_44 dX4_sumKept_44 (zT_is hS s_93) (zT_h hS s_93) rfl hg ?_
            show ma_wp X d w 44 45 [(2, .inr (.inr (some c1))), (0, .inr (.inr (some 91))), (1, .inl l1)] [.inl (mI S 93 (if (92 : Int32) < ((mI S c1 4) / (mI S 91 2)) then (92 : Int32) else ((mI S c1 4) / (mI S 91 2))).toNatClampNeg), .inl (if (92 : Int32) < ((mI S c1 4) / (mI S 91 2)) then (92 : Int32) else ((mI S c1 4) / (mI S 91 2))), .inr (.inr (some 93))] S _
            refine zw_push hm_44 dX4_sumKept_45 (v := .inr (.inr (some c1))) rfl ?_
            obtain ⟨hg, h⟩ := h
            refine zw_gf hm_44 dX4_sumKept_46 (v := .inl (mI S c1 2)) (zT_tis hS hg) (zT_tt hS hg) rfl f_4_63_9 rfl ?_
            refine zw_stk hm_44 dX4_sumKept_49 (st₉ := [.inl ((mI S 93 (if (92 : Int32) < ((mI S c1 4) / (mI S 91 2)) then (92 : Int32) else ((mI S c1 4) / (mI S 91 2))).toNatClampNeg) + (mI S c1 2)), .inl (if (92 : Int32) < ((mI S c1 4) / (mI S 91 2)) then (92 : Int32) else ((mI S c1 4) / (mI S 91 2))), .inr (.inr (some 93))]) rfl rfl ?_
            obtain ⟨hg, h⟩ := h
            refine zw_ias hm_44 dX4_sumKept_50 (zT_is hS s_93) (zT_h hS s_93) rfl hg ?_
            refine zw_sto hm_44 dX4_sumKept_51 [(1, .inl (l1 + (1 : Int32))), (2, .inr (.inr (some c1))), (0, .inr (.inr (some 91)))] rfl rfl rfl ?_
            refine zw_goto hm_44 dX4_sumKept_54 (t := 10) rfl ?_
            exact zw_sub (ma_nd_of (ks := [0, 1]) rfl (by decide)) (ma_nd_of (ks := [1, 2, 0]) rfl (by decide)) (ma_le_cons rfl (ma_le_cons rfl (ma_le_nil _))) h
theorem lp_44_91_sz_10 {X : Nat × (Nat → Int32)} {d w : Nat} {f : Nat → Nat → Int32} {r : Nat → Nat → Option Nat} {C Z N : Nat} {Q : Option ma_V ⊕ Nat → ma_S → Prop} {ab : Nat→Nat→Int32} (hd : 2 ≤ d) (hw : 89 ≤ w) (K : ∀ S₉, zL91 f r C Z N S₉ → (xB S₉ (mR S₉ 70)) → (aZ S₉ = rSk ab 512) → Q (.inl none) S₉) : ∀ (n : Nat) (S : ma_S) (l1 : Int32), (512 - l1.toInt).toNat = n → zL91 f r C Z N S → (0 ≤ l1.toInt) → (l1.toInt ≤ 512) → (xB S (mR S 70)) → (qRv ab) → (aZ S = rSk ab l1.toNatClampNeg) → ma_wp X d w 44 10 [(0, .inr (.inr (some 91))), (1, .inl l1)] [] S Q := by
  intro n
  induction n using Nat.strongRecOn with
  | _ n IH =>
    intro S l1 hmu hI  hi0 hi1 hi2 hi3 hi4
    refine g_44_91_sz_10 l1 (by omega) (by omega) (zG_T hI) ?_
    have f1 := zG_s hI (0) (512) (c := 69) (k := 6) (by decide)
    have b2 := i_bd l1
    refine zd (fun h3 => ?_) (fun h3 => ?_)
    · skip
      have g4 := i_le h3
      exact K _ hI (show xB S (mR S 70) from by first | (exact xB_x (xC_o (W := 75) hi2).2)) (show aZ S = rSk ab 512 from by first | (rw [hi4]; have r6 := congrArg Int32.toInt (show ab 69 6 = mI S 69 6 from ((Sk_r hi4 (by decide) (by decide) (by decide)).symm.trans (aS_I rfl rfl))); have tc := tn_cast (x := l1) (by omega); exact Sk_g hi3.1 (by omega) (by omega)))
    · skip
      have g5 := i_nle h3
      have li6 : (0 : Int32).toInt = 0 := rfl
      refine zd (fun h7 => ?_) (fun h7 => ?_)
      · skip
        have g8 := i_lt h7
        first | have e9 : (l1 + (1 : Int32)).toInt = l1.toInt + (1) := i_addk rfl (by omega) (by omega) | have b10 := i_bd (l1 + (1 : Int32))
        exact IH _ (by omega) _ ((l1 + (1 : Int32))) rfl hI (by omega) (by omega) (show xB S (mR S 70) from by first | (exact xB_x (xC_o (W := 75) hi2).2)) (show qRv ab from by first | (exact hi3)) (show aZ S = rSk ab ((l1 + (1 : Int32))).toNatClampNeg from by first | (exfalso; omega))
      · skip
        have g11 := i_nlt h7
        have li12 : (512 : Int32).toInt = 512 := rfl
        refine zd (fun h13 => ?_) (fun h13 => ?_)
        · skip
          have g14 := i_le h13
          first | have e15 : (l1 + (1 : Int32)).toInt = l1.toInt + (1) := i_addk rfl (by omega) (by omega) | have b16 := i_bd (l1 + (1 : Int32))
          exact IH _ (by omega) _ ((l1 + (1 : Int32))) rfl hI (by omega) (by omega) (show xB S (mR S 70) from by first | (exact xB_x (xC_o (W := 75) hi2).2)) (show qRv ab from by first | (exact hi3)) (show aZ S = rSk ab ((l1 + (1 : Int32))).toNatClampNeg from by first | (exfalso; omega))
        · skip
          have g17 := i_nle h13
          refine ⟨i_ix (by omega) (by omega), ?_⟩
          refine ⟨fun hc => ?_, fun c1 hc => ?_⟩
          · skip
            have rn_c1 : zTa (mR S 70) l1 = none := (ta_rd (y := l1) hi2 (by omega) (by omega)).symm.trans hc
            first | have e18 : (l1 + (1 : Int32)).toInt = l1.toInt + (1) := i_addk rfl (by omega) (by omega) | have b19 := i_bd (l1 + (1 : Int32))
            exact IH _ (by omega) _ ((l1 + (1 : Int32))) rfl hI (by omega) (by omega) (show xB S (mR S 70) from by first | (exact xB_x (xC_o (W := 75) hi2).2)) (show qRv ab from by first | (exact hi3)) (show aZ S = rSk ab ((l1 + (1 : Int32))).toNatClampNeg from by first | (exact Sk_no hi4 hi2 rn_c1 (by omega) (by omega) (by omega)))
          · skip
            have th_c1 := (fun _ z => zG_70 hI (c := 70) (by decide) z) c1 hc
            have rg_c1 : zTa (mR S 70) l1 = some c1 := (ta_rd (y := l1) hi2 (by omega) (by omega)).symm.trans hc
            have f20 := zG_s hI (0) (1500) (c := 91) (k := 2) (by decide)
            refine zd (fun h21 => ?_) (fun h21 => ?_)
            · skip
              have g22 := i_le h21
              refine ⟨zG_n hI th_c1, ?_⟩
              have hI23 : zL91 f r C Z N (ma_put S 93 0 (.inl ((mI S 93 0) + (mI S c1 2)))) := zG_fr hI rfl (by decide) (by decide) (by decide) trivial
              first | have e24 : (l1 + (1 : Int32)).toInt = l1.toInt + (1) := i_addk rfl (by omega) (by omega) | have b25 := i_bd (l1 + (1 : Int32))
              exact IH _ (by omega) _ ((l1 + (1 : Int32))) rfl hI23 (by omega) (by omega) (show xB (ma_put S 93 0 (.inl ((mI S 93 0) + (mI S c1 2)))) (mR (ma_put S 93 0 (.inl ((mI S 93 0) + (mI S c1 2)))) 70) from by first | (exact xB_x (xC_n (c := 93) (k := 0) (x := ((mI S 93 0) + (mI S c1 2))) (xC_o (W := 75) hi2) ⟨by decide, Or.inl ⟨rfl, rfl⟩⟩).2)) (show qRv ab from by first | (exact hi3)) (show aZ (ma_put S 93 0 (.inl ((mI S 93 0) + (mI S c1 2)))) = rSk ab ((l1 + (1 : Int32))).toNatClampNeg from by first | (rw [((Z_p9 (c := 93) (n := 0) (x := ((mI S 93 0) + (mI S c1 2))) (xC_o (W := 75) hi2).2 (by decide)).trans (congrArg (fun q => ma_u q 93 0 ((mI S 93 0) + (mI S c1 2))) (show aZ S = aZ S from rfl)))]; exact Sk_go hi4 hi3 hi2 rg_c1 (by omega)) | (exfalso; have e3 := congrArg Int32.toInt (show mI S 91 2 = ab 87 3 from (congrFun (congrFun hi4 87) 3).trans (if_neg (by decide))); have r3 := hi3.2.2.1.1; omega))
            · skip
              have g26 := i_nle h21
              refine ⟨zG_n hI th_c1, ?_⟩
              refine ⟨i_nz (by omega), ?_⟩
              have f27 := zG_th hI th_c1
              first | have f28 := i_div (x := (mI S c1 4)) (y := (mI S 91 2)) (by omega) (by omega) | have b29 := i_bd ((mI S c1 4) / (mI S 91 2))
              have li30 : (92 : Int32).toInt = 92 := rfl
              have f31 := i_min ((mI S c1 4) / (mI S 91 2)) (92 : Int32)
              refine ⟨i_ix (by omega) (by omega), ?_⟩
              refine ⟨zG_n hI th_c1, ?_⟩
              refine ⟨i_ix (by omega) (by omega), ?_⟩
              have hI32 : zL91 f r C Z N (ma_put S 93 (if (92 : Int32) < ((mI S c1 4) / (mI S 91 2)) then (92 : Int32) else ((mI S c1 4) / (mI S 91 2))).toNatClampNeg (.inl ((mI S 93 (if (92 : Int32) < ((mI S c1 4) / (mI S 91 2)) then (92 : Int32) else ((mI S c1 4) / (mI S 91 2))).toNatClampNeg) + (mI S c1 2)))) := zG_fa hI rfl (by decide) (by decide) (by decide) trivial
              first | have e33 : (l1 + (1 : Int32)).toInt = l1.toInt + (1) := i_addk rfl (by omega) (by omega) | have b34 := i_bd (l1 + (1 : Int32))
              exact IH _ (by omega) _ ((l1 + (1 : Int32))) rfl hI32 (by omega) (by omega) (show xB (ma_put S 93 (if (92 : Int32) < ((mI S c1 4) / (mI S 91 2)) then (92 : Int32) else ((mI S c1 4) / (mI S 91 2))).toNatClampNeg (.inl ((mI S 93 (if (92 : Int32) < ((mI S c1 4) / (mI S 91 2)) then (92 : Int32) else ((mI S c1 4) / (mI S 91 2))).toNatClampNeg) + (mI S c1 2)))) (mR (ma_put S 93 (if (92 : Int32) < ((mI S c1 4) / (mI S 91 2)) then (92 : Int32) else ((mI S c1 4) / (mI S 91 2))).toNatClampNeg (.inl ((mI S 93 (if (92 : Int32) < ((mI S c1 4) / (mI S 91 2)) then (92 : Int32) else ((mI S c1 4) / (mI S 91 2))).toNatClampNeg) + (mI S c1 2)))) 70) from by first | (exact xB_x (xC_n (c := 93) (k := (if (92 : Int32) < ((mI S c1 4) / (mI S 91 2)) then (92 : Int32) else ((mI S c1 4) / (mI S 91 2))).toNatClampNeg) (x := ((mI S 93 (if (92 : Int32) < ((mI S c1 4) / (mI S 91 2)) then (92 : Int32) else ((mI S c1 4) / (mI S 91 2))).toNatClampNeg) + (mI S c1 2))) (xC_o (W := 75) hi2) ⟨by decide, Or.inl ⟨rfl, rfl⟩⟩).2)) (show qRv ab from by first | (exact hi3)) (show aZ (ma_put S 93 (if (92 : Int32) < ((mI S c1 4) / (mI S 91 2)) then (92 : Int32) else ((mI S c1 4) / (mI S 91 2))).toNatClampNeg (.inl ((mI S 93 (if (92 : Int32) < ((mI S c1 4) / (mI S 91 2)) then (92 : Int32) else ((mI S c1 4) / (mI S 91 2))).toNatClampNeg) + (mI S c1 2)))) = rSk ab ((l1 + (1 : Int32))).toNatClampNeg from by first | (rw [((Z_p9 (c := 93) (n := (if (92 : Int32) < ((mI S c1 4) / (mI S 91 2)) then (92 : Int32) else ((mI S c1 4) / (mI S 91 2))).toNatClampNeg) (x := ((mI S 93 (if (92 : Int32) < ((mI S c1 4) / (mI S 91 2)) then (92 : Int32) else ((mI S c1 4) / (mI S 91 2))).toNatClampNeg) + (mI S c1 2))) (xC_o (W := 75) hi2).2 (by decide)).trans (congrArg (fun q => ma_u q 93 (if (92 : Int32) < ((mI S c1 4) / (mI S 91 2)) then (92 : Int32) else ((mI S c1 4) / (mI S 91 2))).toNatClampNeg ((mI S 93 (if (92 : Int32) < ((mI S c1 4) / (mI S 91 2)) then (92 : Int32) else ((mI S c1 4) / (mI S 91 2))).toNatClampNeg) + (mI S c1 2))) (show aZ S = aZ S from rfl)))]; exact Sk_go hi4 hi3 hi2 rg_c1 (by omega)) | (exfalso; have e3 := congrArg Int32.toInt (show mI S 91 2 = ab 87 3 from (congrFun (congrFun hi4 87) 3).trans (if_neg (by decide))); have r3 := hi3.2.2.1.1; omega))
theorem sp_44_91_sz {X : Nat × (Nat → Int32)} {d w : Nat} {f : Nat → Nat → Int32} {r : Nat → Nat → Option Nat} {C Z N : Nat} {Q : Option ma_V ⊕ Nat → ma_S → Prop} {ab : Nat→Nat→Int32} {S : ma_S}  (hd : 2 ≤ d) (hw : 89 ≤ w) (hI : zL91 f r C Z N S) (hpre0 : xB S (mR S 70)) (hpre1 : aZ S = ab) (hpre2 : qRv ab) (K : ∀ S₉, zL91 f r C Z N S₉ → (xB S₉ (mR S₉ 70)) → (aZ S₉ = rSk ab 512) → Q (.inl none) S₉) : ma_wp X d w 44 0 [(0, .inr (.inr (some 91)))] [] S Q := by
  refine g_44_91_sz_0  (by omega) (by omega) (zG_T hI) ?_
  have li1 : (0 : Int32).toInt = 0 := rfl
  refine sp_276_93_sz (ab := (aZ S)) ((0 : Int32)) (by omega) (by omega) hI (show xB S (mR S 70) from by first | (exact xB_x (xC_o (W := 75) hpre0).2)) (show aZ S = (aZ S) from by first | (exact rfl)) (fun S1 hI_S1 rp0_S1 rp1_S1 => zv_n ⟨zG_T hI_S1, ?_⟩)
  have rp0_S1 : xB S1 (mR S1 70) := rp0_S1
  have rp1_S1 : aZ S1 = zFl (aZ S) 93 (0 : Int32) 93 := rp1_S1
  exact lp_44_91_sz_10 (by omega) (by omega) K _ _ ((0 : Int32)) rfl hI_S1 (by omega) (by omega) (show xB S1 (mR S1 70) from by first | (exact xB_x (xC_o (W := 75) rp0_S1).2)) (show qRv ab from by first | (exact hpre2) | (rw [hpre1]; exact hpre2)) (show aZ S1 = rSk ab ((0 : Int32)).toNatClampNeg from by first | (rw [rp1_S1]; refine Sk_0 (fun k hk => ?_) (fun c k w => ?_); (unfold zFl; rw [if_pos ⟨rfl, by omega⟩]); (unfold zFl; rw [if_neg (fun z => w ⟨z.1, by omega⟩), hpre1])))

/-! from 95.s14 -/
/-! REGIONS, the class (written by wip/tools/gen15z.py) -/
theorem g_46_91_sz_0 {X : Nat × (Nat → Int32)} {d w : Nat} {S : ma_S} {Q : Option ma_V ⊕ Nat → ma_S → Prop}  (hd : 0 ≤ d) (hw : 0 ≤ w) (hS : zT S) (h : ma_wp X d w 46 2 [(0, .inr (.inr (some 91))), (1, .inl (0 : Int32))] [] S Q) : ma_wp X d w 46 0 [(0, .inr (.inr (some 91)))] [] S Q := by
  refine zw_push hm_46 dX4_emptyWhereNothingIsLeft_0 (v := .inl (0 : Int32)) rfl ?_
  refine zw_sto hm_46 dX4_emptyWhereNothingIsLeft_1 [(1, .inl (0 : Int32)), (0, .inr (.inr (some 91)))] rfl rfl rfl ?_
  exact zw_sub (ma_nd_of (ks := [0, 1]) rfl (by decide)) (ma_nd_of (ks := [1, 0]) rfl (by decide)) (ma_le_cons rfl (ma_le_cons rfl (ma_le_nil _))) h
theorem g_46_91_sz_2 {X : Nat × (Nat → Int32)} {d w : Nat} {S : ma_S} {Q : Option ma_V ⊕ Nat → ma_S → Prop} (l1 : Int32) (hd : 0 ≤ d) (hw : 0 ≤ w) (hS : zT S) (h : if (93 : Int32) ≤ l1 then (Q (.inl none) S) else ((0 ≤ l1 ∧ l1.toNatClampNeg < 93) ∧ (if (mI S 93 l1.toNatClampNeg) = 0 then ((0 ≤ l1 ∧ l1.toNatClampNeg < 93) ∧ (ma_wp X d w 46 2 [(0, .inr (.inr (some 91))), (1, .inl (l1 + (1 : Int32)))] [] (ma_put S 92 l1.toNatClampNeg (.inl (0 : Int32))) Q)) else (ma_wp X d w 46 2 [(0, .inr (.inr (some 91))), (1, .inl (l1 + (1 : Int32)))] [] S Q)))) : ma_wp X d w 46 2 [(0, .inr (.inr (some 91))), (1, .inl l1)] [] S Q := by
  refine zw_push hm_46 dX4_emptyWhereNothingIsLeft_2 (v := .inl l1) rfl ?_
  refine zw_push hm_46 dX4_emptyWhereNothingIsLeft_3 (v := .inl (93 : Int32)) rfl ?_
  refine zw_if2 hm_46 dX4_emptyWhereNothingIsLeft_5 (t := 30) rfl zc2_ge ?_ ?_
  · intro hc
    rw [if_pos hc] at h
    exact zw_vret hm_46 dX4_emptyWhereNothingIsLeft_30 h
  · intro hc
    rw [if_neg hc] at h
    refine zw_push hm_46 dX4_emptyWhereNothingIsLeft_8 (v := .inr (.inr (some 91))) rfl ?_
    refine zw_gf hm_46 dX4_emptyWhereNothingIsLeft_9 (v := .inr (.inr (some 93))) (zT_is hS s_91) (zT_t hS s_91) rfl f_4_15_4 (zT_f hS r_91_8) ?_
    refine zw_push hm_46 dX4_emptyWhereNothingIsLeft_12 (v := .inl l1) rfl ?_
    obtain ⟨hg, h⟩ := h
    refine zw_ia hm_46 dX4_emptyWhereNothingIsLeft_13 (zT_is hS s_93) (zT_h hS s_93) rfl hg ?_
    show ma_wp X d w 46 14 [(0, .inr (.inr (some 91))), (1, .inl l1)] [.inl (mI S 93 l1.toNatClampNeg)] S _
    refine zw_if0 hm_46 dX4_emptyWhereNothingIsLeft_14 (t := 24) rfl zc0_ne ?_ ?_
    · intro hc
      rw [if_neg hc] at h
      refine zw_sto hm_46 dX4_emptyWhereNothingIsLeft_24 [(1, .inl (l1 + (1 : Int32))), (0, .inr (.inr (some 91)))] rfl rfl rfl ?_
      refine zw_goto hm_46 dX4_emptyWhereNothingIsLeft_27 (t := 2) rfl ?_
      exact zw_sub (ma_nd_of (ks := [0, 1]) rfl (by decide)) (ma_nd_of (ks := [1, 0]) rfl (by decide)) (ma_le_cons rfl (ma_le_cons rfl (ma_le_nil _))) h
    · intro hc
      rw [if_pos (Classical.not_not.mp hc)] at h
      refine zw_push hm_46 dX4_emptyWhereNothingIsLeft_17 (v := .inr (.inr (some 91))) rfl ?_
      refine zw_gf hm_46 dX4_emptyWhereNothingIsLeft_18 (v := .inr (.inr (some 92))) (zT_is hS s_91) (zT_t hS s_91) rfl f_4_9_4 (zT_f hS r_91_7) ?_
      refine zw_push hm_46 dX4_emptyWhereNothingIsLeft_21 (v := .inl l1) rfl ?_
      refine zw_push hm_46 dX4_emptyWhereNothingIsLeft_22 (v := .inl (0 : Int32)) rfl ?_
      obtain ⟨hg, h⟩ := h
      refine zw_ias hm_46 dX4_emptyWhereNothingIsLeft_23 (zT_is hS s_92) (zT_h hS s_92) rfl hg ?_
      refine zw_sto hm_46 dX4_emptyWhereNothingIsLeft_24 [(1, .inl (l1 + (1 : Int32))), (0, .inr (.inr (some 91)))] rfl rfl rfl ?_
      refine zw_goto hm_46 dX4_emptyWhereNothingIsLeft_27 (t := 2) rfl ?_
      exact zw_sub (ma_nd_of (ks := [0, 1]) rfl (by decide)) (ma_nd_of (ks := [1, 0]) rfl (by decide)) (ma_le_cons rfl (ma_le_cons rfl (ma_le_nil _))) h
theorem lp_46_91_sz_2 {X : Nat × (Nat → Int32)} {d w : Nat} {f : Nat → Nat → Int32} {r : Nat → Nat → Option Nat} {C Z N : Nat} {Q : Option ma_V ⊕ Nat → ma_S → Prop} {ab : Nat→Nat→Int32} (hd : 0 ≤ d) (hw : 0 ≤ w) (K : ∀ S₉, zL91 f r C Z N S₉ → (xB S₉ (mR S₉ 70)) → (aZ S₉ = rEm ab 93) → Q (.inl none) S₉) : ∀ (n : Nat) (S : ma_S) (l1 : Int32), (93 - l1.toInt).toNat = n → zL91 f r C Z N S → (0 ≤ l1.toInt) → (l1.toInt ≤ 93) → (xB S (mR S 70)) → (aZ S = rEm ab l1.toNatClampNeg) → ma_wp X d w 46 2 [(0, .inr (.inr (some 91))), (1, .inl l1)] [] S Q := by
  intro n
  induction n using Nat.strongRecOn with
  | _ n IH =>
    intro S l1 hmu hI  hi0 hi1 hi2 hi3
    refine g_46_91_sz_2 l1 (by omega) (by omega) (zG_T hI) ?_
    have li1 : (93 : Int32).toInt = 93 := rfl
    have b2 := i_bd l1
    refine zd (fun h3 => ?_) (fun h3 => ?_)
    · skip
      have g4 := i_le h3
      exact K _ hI (show xB S (mR S 70) from by first | (exact xB_x (xC_o (W := 75) hi2).2)) (show aZ S = rEm ab 93 from by first | (rw [hi3, show l1.toNatClampNeg = 93 from by have := tn_cast (x := l1) (by omega); omega]))
    · skip
      have g5 := i_nle h3
      refine ⟨i_ix (by omega) (by omega), ?_⟩
      have b6 := i_bd (mI S 93 l1.toNatClampNeg)
      have li7 : (0 : Int32).toInt = 0 := rfl
      refine zd (fun h8 => ?_) (fun h8 => ?_)
      · skip
        have g9 := i_eq h8
        refine ⟨i_ix (by omega) (by omega), ?_⟩
        have hI10 : zL91 f r C Z N (ma_put S 92 l1.toNatClampNeg (.inl (0 : Int32))) := zG_sa hI (0) (3000) rfl (by decide) (by decide) (by decide) trivial (by omega) (by omega)
        first | have e11 : (l1 + (1 : Int32)).toInt = l1.toInt + (1) := i_addk rfl (by omega) (by omega) | have b12 := i_bd (l1 + (1 : Int32))
        exact IH _ (by omega) _ ((l1 + (1 : Int32))) rfl hI10 (by omega) (by omega) (show xB (ma_put S 92 l1.toNatClampNeg (.inl (0 : Int32))) (mR (ma_put S 92 l1.toNatClampNeg (.inl (0 : Int32))) 70) from by first | (exact xB_x (xC_n (c := 92) (k := l1.toNatClampNeg) (x := (0 : Int32)) (xC_o (W := 75) hi2) ⟨by decide, Or.inl ⟨rfl, rfl⟩⟩).2)) (show aZ (ma_put S 92 l1.toNatClampNeg (.inl (0 : Int32))) = rEm ab ((l1 + (1 : Int32))).toNatClampNeg from by first | (rw [((Z_p9 (c := 92) (n := l1.toNatClampNeg) (x := (0 : Int32)) (xC_o (W := 75) hi2).2 (by decide)).trans (congrArg (fun q => ma_u q 92 l1.toNatClampNeg (0 : Int32)) (show aZ S = aZ S from rfl)))]; exact Em_go hi3 (by omega) (by omega) (by omega)))
      · skip
        have g13 := i_ne h8
        first | have e14 : (l1 + (1 : Int32)).toInt = l1.toInt + (1) := i_addk rfl (by omega) (by omega) | have b15 := i_bd (l1 + (1 : Int32))
        exact IH _ (by omega) _ ((l1 + (1 : Int32))) rfl hI (by omega) (by omega) (show xB S (mR S 70) from by first | (exact xB_x (xC_o (W := 75) hi2).2)) (show aZ S = rEm ab ((l1 + (1 : Int32))).toNatClampNeg from by first | (exact Em_no hi3 (by omega) (by omega) (by omega)))
theorem sp_46_91_sz {X : Nat × (Nat → Int32)} {d w : Nat} {f : Nat → Nat → Int32} {r : Nat → Nat → Option Nat} {C Z N : Nat} {Q : Option ma_V ⊕ Nat → ma_S → Prop} {ab : Nat→Nat→Int32} {S : ma_S}  (hd : 0 ≤ d) (hw : 0 ≤ w) (hI : zL91 f r C Z N S) (hpre0 : xB S (mR S 70)) (hpre1 : aZ S = ab) (K : ∀ S₉, zL91 f r C Z N S₉ → (xB S₉ (mR S₉ 70)) → (aZ S₉ = rEm ab 93) → Q (.inl none) S₉) : ma_wp X d w 46 0 [(0, .inr (.inr (some 91)))] [] S Q := by
  refine g_46_91_sz_0  (by omega) (by omega) (zG_T hI) ?_
  have li1 : (0 : Int32).toInt = 0 := rfl
  exact lp_46_91_sz_2 (by omega) (by omega) K _ _ ((0 : Int32)) rfl hI (by omega) (by omega) (show xB S (mR S 70) from by first | (exact xB_x (xC_o (W := 75) hpre0).2)) (show aZ S = rEm ab ((0 : Int32)).toNatClampNeg from by first | (rw [hpre1]; exact Em_0.symm))

/-! from 95.s15 -/
/-! REGIONS, the class (written by wip/tools/gen15z.py) -/
theorem g_47_91_sz_0 {X : Nat × (Nat → Int32)} {d w : Nat} {S : ma_S} {Q : Option ma_V ⊕ Nat → ma_S → Prop}  (hd : 2 ≤ d) (hw : 89 ≤ w) (hS : zT S) (h : ma_wp X d w 47 2 [(0, .inr (.inr (some 91))), (1, .inl (0 : Int32))] [] S Q) : ma_wp X d w 47 0 [(0, .inr (.inr (some 91)))] [] S Q := by
  refine zw_push hm_47 dX4_chooseLeaving_0 (v := .inl (0 : Int32)) rfl ?_
  refine zw_sto hm_47 dX4_chooseLeaving_1 [(1, .inl (0 : Int32)), (0, .inr (.inr (some 91)))] rfl rfl rfl ?_
  exact zw_sub (ma_nd_of (ks := [0, 1]) rfl (by decide)) (ma_nd_of (ks := [1, 0]) rfl (by decide)) (ma_le_cons rfl (ma_le_cons rfl (ma_le_nil _))) h
theorem g_47_91_sz_2 {X : Nat × (Nat → Int32)} {d w : Nat} {S : ma_S} {Q : Option ma_V ⊕ Nat → ma_S → Prop} (l1 : Int32) (hd : 2 ≤ d) (hw : 89 ≤ w) (hS : zT S) (h : if (93 : Int32) ≤ l1 then (ma_wp X d w 47 52 [(0, .inr (.inr (some 91))), (1, .inl (0 : Int32))] [] S Q) else (if l1 = (mI S 91 5) then ((0 ≤ l1 ∧ l1.toNatClampNeg < 93) ∧ (ma_wp X d w 47 2 [(0, .inr (.inr (some 91))), (1, .inl (l1 + (1 : Int32)))] [] (ma_put S 93 l1.toNatClampNeg (.inl (0 : Int32))) Q)) else ((0 ≤ l1 ∧ l1.toNatClampNeg < 93) ∧ (if ((mI S 93 l1.toNatClampNeg) * (100 : Int32)) ≤ ((mI S 91 4) * (mI S 91 2)) then (ma_wp X d w 47 2 [(0, .inr (.inr (some 91))), (1, .inl (l1 + (1 : Int32)))] [] S Q) else ((0 ≤ l1 ∧ l1.toNatClampNeg < 93) ∧ (ma_wp X d w 47 2 [(0, .inr (.inr (some 91))), (1, .inl (l1 + (1 : Int32)))] [] (ma_put S 93 l1.toNatClampNeg (.inl (0 : Int32))) Q)))))) : ma_wp X d w 47 2 [(0, .inr (.inr (some 91))), (1, .inl l1)] [] S Q := by
  refine zw_push hm_47 dX4_chooseLeaving_2 (v := .inl l1) rfl ?_
  refine zw_push hm_47 dX4_chooseLeaving_3 (v := .inl (93 : Int32)) rfl ?_
  refine zw_if2 hm_47 dX4_chooseLeaving_5 (t := 50) rfl zc2_ge ?_ ?_
  · intro hc
    rw [if_pos hc] at h
    refine zw_push hm_47 dX4_chooseLeaving_50 (v := .inl (0 : Int32)) rfl ?_
    refine zw_sto hm_47 dX4_chooseLeaving_51 [(1, .inl (0 : Int32)), (0, .inr (.inr (some 91)))] rfl rfl rfl ?_
    exact zw_sub (ma_nd_of (ks := [0, 1]) rfl (by decide)) (ma_nd_of (ks := [1, 0]) rfl (by decide)) (ma_le_cons rfl (ma_le_cons rfl (ma_le_nil _))) h
  · intro hc
    rw [if_neg hc] at h
    refine zw_push hm_47 dX4_chooseLeaving_8 (v := .inl l1) rfl ?_
    refine zw_push hm_47 dX4_chooseLeaving_9 (v := .inr (.inr (some 91))) rfl ?_
    refine zw_gf hm_47 dX4_chooseLeaving_10 (v := .inl (mI S 91 5)) (zT_is hS s_91) (zT_t hS s_91) rfl f_4_34_4 rfl ?_
    refine zw_if2 hm_47 dX4_chooseLeaving_13 (t := 37) rfl zc2_eq ?_ ?_
    · intro hc
      rw [if_pos hc] at h
      refine zw_push hm_47 dX4_chooseLeaving_37 (v := .inr (.inr (some 91))) rfl ?_
      refine zw_gf hm_47 dX4_chooseLeaving_38 (v := .inr (.inr (some 93))) (zT_is hS s_91) (zT_t hS s_91) rfl f_4_15_4 (zT_f hS r_91_8) ?_
      refine zw_push hm_47 dX4_chooseLeaving_41 (v := .inl l1) rfl ?_
      refine zw_push hm_47 dX4_chooseLeaving_42 (v := .inl (0 : Int32)) rfl ?_
      obtain ⟨hg, h⟩ := h
      refine zw_ias hm_47 dX4_chooseLeaving_43 (zT_is hS s_93) (zT_h hS s_93) rfl hg ?_
      refine zw_sto hm_47 dX4_chooseLeaving_44 [(1, .inl (l1 + (1 : Int32))), (0, .inr (.inr (some 91)))] rfl rfl rfl ?_
      refine zw_goto hm_47 dX4_chooseLeaving_47 (t := 2) rfl ?_
      exact zw_sub (ma_nd_of (ks := [0, 1]) rfl (by decide)) (ma_nd_of (ks := [1, 0]) rfl (by decide)) (ma_le_cons rfl (ma_le_cons rfl (ma_le_nil _))) h
    · intro hc
      rw [if_neg hc] at h
      refine zw_push hm_47 dX4_chooseLeaving_16 (v := .inr (.inr (some 91))) rfl ?_
      refine zw_gf hm_47 dX4_chooseLeaving_17 (v := .inr (.inr (some 93))) (zT_is hS s_91) (zT_t hS s_91) rfl f_4_15_4 (zT_f hS r_91_8) ?_
      refine zw_push hm_47 dX4_chooseLeaving_20 (v := .inl l1) rfl ?_
      obtain ⟨hg, h⟩ := h
      refine zw_ia hm_47 dX4_chooseLeaving_21 (zT_is hS s_93) (zT_h hS s_93) rfl hg ?_
      show ma_wp X d w 47 22 [(0, .inr (.inr (some 91))), (1, .inl l1)] [.inl (mI S 93 l1.toNatClampNeg)] S _
      refine zw_push hm_47 dX4_chooseLeaving_22 (v := .inl (100 : Int32)) rfl ?_
      refine zw_stk hm_47 dX4_chooseLeaving_24 (st₉ := [.inl ((mI S 93 l1.toNatClampNeg) * (100 : Int32))]) rfl rfl ?_
      refine zw_push hm_47 dX4_chooseLeaving_25 (v := .inr (.inr (some 91))) rfl ?_
      refine zw_gf hm_47 dX4_chooseLeaving_26 (v := .inl (mI S 91 4)) (zT_is hS s_91) (zT_t hS s_91) rfl f_4_31_4 rfl ?_
      refine zw_push hm_47 dX4_chooseLeaving_29 (v := .inr (.inr (some 91))) rfl ?_
      refine zw_gf hm_47 dX4_chooseLeaving_30 (v := .inl (mI S 91 2)) (zT_is hS s_91) (zT_t hS s_91) rfl f_4_18_4 rfl ?_
      refine zw_stk hm_47 dX4_chooseLeaving_33 (st₉ := [.inl ((mI S 91 4) * (mI S 91 2)), .inl ((mI S 93 l1.toNatClampNeg) * (100 : Int32))]) rfl rfl ?_
      refine zw_if2 hm_47 dX4_chooseLeaving_34 (t := 44) rfl zc2_le ?_ ?_
      · intro hc
        rw [if_pos hc] at h
        refine zw_sto hm_47 dX4_chooseLeaving_44 [(1, .inl (l1 + (1 : Int32))), (0, .inr (.inr (some 91)))] rfl rfl rfl ?_
        refine zw_goto hm_47 dX4_chooseLeaving_47 (t := 2) rfl ?_
        exact zw_sub (ma_nd_of (ks := [0, 1]) rfl (by decide)) (ma_nd_of (ks := [1, 0]) rfl (by decide)) (ma_le_cons rfl (ma_le_cons rfl (ma_le_nil _))) h
      · intro hc
        rw [if_neg hc] at h
        refine zw_push hm_47 dX4_chooseLeaving_37 (v := .inr (.inr (some 91))) rfl ?_
        refine zw_gf hm_47 dX4_chooseLeaving_38 (v := .inr (.inr (some 93))) (zT_is hS s_91) (zT_t hS s_91) rfl f_4_15_4 (zT_f hS r_91_8) ?_
        refine zw_push hm_47 dX4_chooseLeaving_41 (v := .inl l1) rfl ?_
        refine zw_push hm_47 dX4_chooseLeaving_42 (v := .inl (0 : Int32)) rfl ?_
        obtain ⟨hg, h⟩ := h
        refine zw_ias hm_47 dX4_chooseLeaving_43 (zT_is hS s_93) (zT_h hS s_93) rfl hg ?_
        refine zw_sto hm_47 dX4_chooseLeaving_44 [(1, .inl (l1 + (1 : Int32))), (0, .inr (.inr (some 91)))] rfl rfl rfl ?_
        refine zw_goto hm_47 dX4_chooseLeaving_47 (t := 2) rfl ?_
        exact zw_sub (ma_nd_of (ks := [0, 1]) rfl (by decide)) (ma_nd_of (ks := [1, 0]) rfl (by decide)) (ma_le_cons rfl (ma_le_cons rfl (ma_le_nil _))) h
theorem g_47_91_sz_52 {X : Nat × (Nat → Int32)} {d w : Nat} {S : ma_S} {Q : Option ma_V ⊕ Nat → ma_S → Prop} (l1 : Int32) (hd : 2 ≤ d) (hw : 89 ≤ w) (hS : zT S) (h : if (mI S 69 6) ≤ l1 then (Q (.inl none) S) else (if l1 < 0 then (ma_wp X d w 47 52 [(0, .inr (.inr (some 91))), (1, .inl (l1 + (1 : Int32)))] [] S Q) else (if (512 : Int32) ≤ l1 then (ma_wp X d w 47 52 [(0, .inr (.inr (some 91))), (1, .inl (l1 + (1 : Int32)))] [] S Q) else ((0 ≤ l1 ∧ l1.toNatClampNeg < 512) ∧ (((mR S 70 l1.toNatClampNeg) = none → ma_wp X d w 47 52 [(0, .inr (.inr (some 91))), (1, .inl (l1 + (1 : Int32)))] [] S Q) ∧ (∀ c1, (mR S 70 l1.toNatClampNeg) = some c1 → (126 ≤ c1 ∧ c1 < mN S) ∧ (if (mI S c1 7) ≤ 0 then (ma_wp X d w 47 52 [(0, .inr (.inr (some 91))), (1, .inl (l1 + (1 : Int32)))] [] S Q) else (if (mI S 91 2) ≤ 0 then (ma_wp X d w 47 52 [(0, .inr (.inr (some 91))), (1, .inl (l1 + (1 : Int32)))] [] (ma_put S 93 0 (.inl (0 : Int32))) Q) else ((126 ≤ c1 ∧ c1 < mN S) ∧ ((mI S 91 2) ≠ 0 ∧ ((0 ≤ (if (92 : Int32) < ((mI S c1 4) / (mI S 91 2)) then (92 : Int32) else ((mI S c1 4) / (mI S 91 2))) ∧ (if (92 : Int32) < ((mI S c1 4) / (mI S 91 2)) then (92 : Int32) else ((mI S c1 4) / (mI S 91 2))).toNatClampNeg < 93) ∧ (ma_wp X d w 47 52 [(0, .inr (.inr (some 91))), (1, .inl (l1 + (1 : Int32)))] [] (ma_put S 93 (if (92 : Int32) < ((mI S c1 4) / (mI S 91 2)) then (92 : Int32) else ((mI S c1 4) / (mI S 91 2))).toNatClampNeg (.inl (0 : Int32))) Q)))))))))))) : ma_wp X d w 47 52 [(0, .inr (.inr (some 91))), (1, .inl l1)] [] S Q := by
  refine zw_push hm_47 dX4_chooseLeaving_52 (v := .inl l1) rfl ?_
  refine zw_push hm_47 dX4_chooseLeaving_53 (v := .inr (.inr (some 91))) rfl ?_
  refine zw_gf hm_47 dX4_chooseLeaving_54 (v := .inr (.inr (some 69))) (zT_is hS s_91) (zT_t hS s_91) rfl f_4_100_4 (zT_f hS r_91_0) ?_
  refine zw_gf hm_47 dX4_chooseLeaving_57 (v := .inl (mI S 69 6)) (zT_is hS s_69) (zT_t hS s_69) rfl f_4_104_7 rfl ?_
  refine zw_if2 hm_47 dX4_chooseLeaving_60 (t := 100) rfl zc2_ge ?_ ?_
  · intro hc
    rw [if_pos hc] at h
    exact zw_vret hm_47 dX4_chooseLeaving_100 h
  · intro hc
    rw [if_neg hc] at h
    refine zw_push hm_47 dX4_chooseLeaving_63 (v := .inr (.inr (some 91))) rfl ?_
    refine zw_gf hm_47 dX4_chooseLeaving_64 (v := .inr (.inr (some 69))) (zT_is hS s_91) (zT_t hS s_91) rfl f_4_100_4 (zT_f hS r_91_0) ?_
    refine zw_push hm_47 dX4_chooseLeaving_67 (v := .inl l1) rfl ?_
    refine zw_cv hm_47 dX4_chooseLeaving_68 v_4_109_7 hm_81 [.inl l1] [] rfl (zT_rt hS s_69 rfl) ⟨by omega, by omega⟩ rfl ?_
    show ma_wp X (d - 1) (w - 21) 81 0 [(0, .inr (.inr (some 69))), (1, .inl l1)] [] S _
    refine zw_push hm_81 dX7_thingAt_0 (v := .inl l1) rfl ?_
    refine zw_if0 hm_81 dX7_thingAt_1 (t := 20) rfl zc0_lt ?_ ?_
    · intro hc
      rw [if_pos hc] at h
      refine zw_push hm_81 dX7_thingAt_20 (v := .inr (.inr none)) rfl ?_
      refine zw_aret hm_81 dX7_thingAt_21 ?_
      show ma_wp X d w 47 71 [(0, .inr (.inr (some 91))), (1, .inl l1)] [.inr (.inr none)] S _
      refine zw_sto hm_47 dX4_chooseLeaving_71 [(2, .inr (.inr none)), (0, .inr (.inr (some 91))), (1, .inl l1)] rfl rfl rfl ?_
      refine zw_push hm_47 dX4_chooseLeaving_72 (v := .inr (.inr none)) rfl ?_
      refine zw_ifnull hm_47 dX4_chooseLeaving_73 (t := 94) rfl (fun _ => ?_) (fun _ z => by cases z)
      refine zw_sto hm_47 dX4_chooseLeaving_94 [(1, .inl (l1 + (1 : Int32))), (2, .inr (.inr none)), (0, .inr (.inr (some 91)))] rfl rfl rfl ?_
      refine zw_goto hm_47 dX4_chooseLeaving_97 (t := 52) rfl ?_
      exact zw_sub (ma_nd_of (ks := [0, 1]) rfl (by decide)) (ma_nd_of (ks := [1, 2, 0]) rfl (by decide)) (ma_le_cons rfl (ma_le_cons rfl (ma_le_nil _))) h
    · intro hc
      rw [if_neg hc] at h
      refine zw_push hm_81 dX7_thingAt_4 (v := .inl l1) rfl ?_
      refine zw_push hm_81 dX7_thingAt_5 (v := .inl (512 : Int32)) rfl ?_
      refine zw_if2 hm_81 dX7_thingAt_8 (t := 20) rfl zc2_ge ?_ ?_
      · intro hc
        rw [if_pos hc] at h
        refine zw_push hm_81 dX7_thingAt_20 (v := .inr (.inr none)) rfl ?_
        refine zw_aret hm_81 dX7_thingAt_21 ?_
        show ma_wp X d w 47 71 [(0, .inr (.inr (some 91))), (1, .inl l1)] [.inr (.inr none)] S _
        refine zw_sto hm_47 dX4_chooseLeaving_71 [(2, .inr (.inr none)), (0, .inr (.inr (some 91))), (1, .inl l1)] rfl rfl rfl ?_
        refine zw_push hm_47 dX4_chooseLeaving_72 (v := .inr (.inr none)) rfl ?_
        refine zw_ifnull hm_47 dX4_chooseLeaving_73 (t := 94) rfl (fun _ => ?_) (fun _ z => by cases z)
        refine zw_sto hm_47 dX4_chooseLeaving_94 [(1, .inl (l1 + (1 : Int32))), (2, .inr (.inr none)), (0, .inr (.inr (some 91)))] rfl rfl rfl ?_
        refine zw_goto hm_47 dX4_chooseLeaving_97 (t := 52) rfl ?_
        exact zw_sub (ma_nd_of (ks := [0, 1]) rfl (by decide)) (ma_nd_of (ks := [1, 2, 0]) rfl (by decide)) (ma_le_cons rfl (ma_le_cons rfl (ma_le_nil _))) h
      · intro hc
        rw [if_neg hc] at h
        refine zw_push hm_81 dX7_thingAt_11 (v := .inr (.inr (some 69))) rfl ?_
        refine zw_gf hm_81 dX7_thingAt_12 (v := .inr (.inr (some 70))) (zT_is hS s_69) (zT_t hS s_69) rfl f_7_11_7 (zT_f hS r_69_0) ?_
        refine zw_push hm_81 dX7_thingAt_15 (v := .inl l1) rfl ?_
        obtain ⟨hg, h⟩ := h
        refine zw_aa hm_81 dX7_thingAt_16 (zT_is hS s_70) (zT_h hS s_70) rfl rfl hg rfl ?_
        show ma_wp X (d - 1) (w - 21) 81 17 [(0, .inr (.inr (some 69))), (1, .inl l1)] [.inr (.inr (mR S 70 l1.toNatClampNeg))] S _
        refine zw_goto hm_81 dX7_thingAt_17 (t := 21) rfl ?_
        refine zw_aret hm_81 dX7_thingAt_21 ?_
        show ma_wp X d w 47 71 [(0, .inr (.inr (some 91))), (1, .inl l1)] [.inr (.inr (mR S 70 l1.toNatClampNeg))] S _
        refine zw_sto hm_47 dX4_chooseLeaving_71 [(2, .inr (.inr (mR S 70 l1.toNatClampNeg))), (0, .inr (.inr (some 91))), (1, .inl l1)] rfl rfl rfl ?_
        refine zw_push hm_47 dX4_chooseLeaving_72 (v := .inr (.inr (mR S 70 l1.toNatClampNeg))) rfl ?_
        refine zw_ifnull hm_47 dX4_chooseLeaving_73 (t := 94) rfl ?_ ?_
        · intro hc
          have h := h.1 hc
          (try rw [hc])
          show ma_wp X d w 47 94 [(2, .inr (.inr none)), (0, .inr (.inr (some 91))), (1, .inl l1)] [] S _
          refine zw_sto hm_47 dX4_chooseLeaving_94 [(1, .inl (l1 + (1 : Int32))), (2, .inr (.inr none)), (0, .inr (.inr (some 91)))] rfl rfl rfl ?_
          refine zw_goto hm_47 dX4_chooseLeaving_97 (t := 52) rfl ?_
          exact zw_sub (ma_nd_of (ks := [0, 1]) rfl (by decide)) (ma_nd_of (ks := [1, 2, 0]) rfl (by decide)) (ma_le_cons rfl (ma_le_cons rfl (ma_le_nil _))) h
        · intro c1 hc
          have h := h.2 c1 hc
          (try rw [hc])
          show ma_wp X d w 47 76 [(2, .inr (.inr (some c1))), (0, .inr (.inr (some 91))), (1, .inl l1)] [] S _
          refine zw_push hm_47 dX4_chooseLeaving_76 (v := .inr (.inr (some c1))) rfl ?_
          obtain ⟨hg, h⟩ := h
          refine zw_gf hm_47 dX4_chooseLeaving_77 (v := .inl (mI S c1 7)) (zT_tis hS hg) (zT_tt hS hg) rfl f_4_117_9 rfl ?_
          refine zw_if0 hm_47 dX4_chooseLeaving_80 (t := 94) rfl zc0_le ?_ ?_
          · intro hc
            rw [if_pos hc] at h
            refine zw_sto hm_47 dX4_chooseLeaving_94 [(1, .inl (l1 + (1 : Int32))), (2, .inr (.inr (some c1))), (0, .inr (.inr (some 91)))] rfl rfl rfl ?_
            refine zw_goto hm_47 dX4_chooseLeaving_97 (t := 52) rfl ?_
            exact zw_sub (ma_nd_of (ks := [0, 1]) rfl (by decide)) (ma_nd_of (ks := [1, 2, 0]) rfl (by decide)) (ma_le_cons rfl (ma_le_cons rfl (ma_le_nil _))) h
          · intro hc
            rw [if_neg hc] at h
            refine zw_push hm_47 dX4_chooseLeaving_83 (v := .inr (.inr (some 91))) rfl ?_
            refine zw_gf hm_47 dX4_chooseLeaving_84 (v := .inr (.inr (some 93))) (zT_is hS s_91) (zT_t hS s_91) rfl f_4_15_4 (zT_f hS r_91_8) ?_
            refine zw_push hm_47 dX4_chooseLeaving_87 (v := .inr (.inr (some 91))) rfl ?_
            refine zw_push hm_47 dX4_chooseLeaving_88 (v := .inr (.inr (some c1))) rfl ?_
            refine zw_cv hm_47 dX4_chooseLeaving_89 v_4_113_4 hm_45 [.inr (.inr (some c1))] [.inr (.inr (some 93))] rfl (zT_rt hS s_91 rfl) ⟨by omega, by omega⟩ rfl ?_
            show ma_wp X (d - 1) (w - 21) 45 0 [(0, .inr (.inr (some 91))), (1, .inr (.inr (some c1)))] [] S _
            refine zw_push hm_45 dX4_regionOf_0 (v := .inr (.inr (some 91))) rfl ?_
            refine zw_gf hm_45 dX4_regionOf_1 (v := .inl (mI S 91 2)) (zT_is hS s_91) (zT_t hS s_91) rfl f_4_18_4 rfl ?_
            refine zw_if0 hm_45 dX4_regionOf_4 (t := 24) rfl zc0_le ?_ ?_
            · intro hc
              rw [if_pos hc] at h
              refine zw_push hm_45 dX4_regionOf_24 (v := .inl (0 : Int32)) rfl ?_
              refine zw_iret hm_45 dX4_regionOf_25 ?_
              show ma_wp X d w 47 92 [(2, .inr (.inr (some c1))), (0, .inr (.inr (some 91))), (1, .inl l1)] [.inl (0 : Int32), .inr (.inr (some 93))] S _
              refine zw_push hm_47 dX4_chooseLeaving_92 (v := .inl (0 : Int32)) rfl ?_
              refine zw_ias hm_47 dX4_chooseLeaving_93 (zT_is hS s_93) (zT_h hS s_93) rfl ⟨by decide, by decide⟩ ?_
              refine zw_sto hm_47 dX4_chooseLeaving_94 [(1, .inl (l1 + (1 : Int32))), (2, .inr (.inr (some c1))), (0, .inr (.inr (some 91)))] rfl rfl rfl ?_
              refine zw_goto hm_47 dX4_chooseLeaving_97 (t := 52) rfl ?_
              exact zw_sub (ma_nd_of (ks := [0, 1]) rfl (by decide)) (ma_nd_of (ks := [1, 2, 0]) rfl (by decide)) (ma_le_cons rfl (ma_le_cons rfl (ma_le_nil _))) h
            · intro hc
              rw [if_neg hc] at h
              refine zw_push hm_45 dX4_regionOf_7 (v := .inr (.inr (some c1))) rfl ?_
              obtain ⟨hg, h⟩ := h
              refine zw_gf hm_45 dX4_regionOf_8 (v := .inl (mI S c1 4)) (zT_tis hS hg) (zT_tt hS hg) rfl f_4_97_9 rfl ?_
              refine zw_push hm_45 dX4_regionOf_11 (v := .inr (.inr (some 91))) rfl ?_
              refine zw_gf hm_45 dX4_regionOf_12 (v := .inl (mI S 91 2)) (zT_is hS s_91) (zT_t hS s_91) rfl f_4_18_4 rfl ?_
              obtain ⟨hg, h⟩ := h
              refine zw_stk hm_45 dX4_regionOf_15 (st₉ := [.inl ((mI S c1 4) / (mI S 91 2))]) rfl (if_neg hg) ?_
              refine zw_push hm_45 dX4_regionOf_16 (v := .inl (92 : Int32)) rfl ?_
              refine zw_min hm_45 dX4_regionOf_18 pr_4_22 (by omega) (by show 0 + 13 ≤ (w - 21); omega) (fun _ _ _ _ z => by cases z) ?_
              refine zw_goto hm_45 dX4_regionOf_21 (t := 25) rfl ?_
              refine zw_iret hm_45 dX4_regionOf_25 ?_
              show ma_wp X d w 47 92 [(2, .inr (.inr (some c1))), (0, .inr (.inr (some 91))), (1, .inl l1)] [.inl (if (92 : Int32) < ((mI S c1 4) / (mI S 91 2)) then (92 : Int32) else ((mI S c1 4) / (mI S 91 2))), .inr (.inr (some 93))] S _
              refine zw_push hm_47 dX4_chooseLeaving_92 (v := .inl (0 : Int32)) rfl ?_
              obtain ⟨hg, h⟩ := h
              refine zw_ias hm_47 dX4_chooseLeaving_93 (zT_is hS s_93) (zT_h hS s_93) rfl hg ?_
              refine zw_sto hm_47 dX4_chooseLeaving_94 [(1, .inl (l1 + (1 : Int32))), (2, .inr (.inr (some c1))), (0, .inr (.inr (some 91)))] rfl rfl rfl ?_
              refine zw_goto hm_47 dX4_chooseLeaving_97 (t := 52) rfl ?_
              exact zw_sub (ma_nd_of (ks := [0, 1]) rfl (by decide)) (ma_nd_of (ks := [1, 2, 0]) rfl (by decide)) (ma_le_cons rfl (ma_le_cons rfl (ma_le_nil _))) h
theorem lp_47_91_sz_52 {X : Nat × (Nat → Int32)} {d w : Nat} {f : Nat → Nat → Int32} {r : Nat → Nat → Option Nat} {C Z N : Nat} {Q : Option ma_V ⊕ Nat → ma_S → Prop} {ab : Nat→Nat→Int32} (hd : 2 ≤ d) (hw : 89 ≤ w) (K : ∀ S₉, zL91 f r C Z N S₉ → (xB S₉ (mR S₉ 70)) → (aZ S₉ = rCb (rCa ab 93) 512) → Q (.inl none) S₉) : ∀ (n : Nat) (S : ma_S) (l1 : Int32), (512 - l1.toInt).toNat = n → zL91 f r C Z N S → (0 ≤ l1.toInt) → (l1.toInt ≤ 512) → (xB S (mR S 70)) → ((0 ≤ (ab 87 5).toInt ∧ (ab 87 5).toInt ≤ 100) ∧ (1 ≤ (ab 87 3).toInt ∧ (ab 87 3).toInt ≤ 256) ∧ (∀ n, xAl ab n → (ab 130 n).toInt / (ab 87 3).toInt < 93) ∧ qI ab) → (aZ S = rCb (rCa ab 93) l1.toNatClampNeg) → ma_wp X d w 47 52 [(0, .inr (.inr (some 91))), (1, .inl l1)] [] S Q := by
  intro n
  induction n using Nat.strongRecOn with
  | _ n IH =>
    intro S l1 hmu hI  hi0 hi1 hi2 hi3 hi4
    refine g_47_91_sz_52 l1 (by omega) (by omega) (zG_T hI) ?_
    have f1 := zG_s hI (0) (512) (c := 69) (k := 6) (by decide)
    have b2 := i_bd l1
    refine zd (fun h3 => ?_) (fun h3 => ?_)
    · skip
      have g4 := i_le h3
      exact K _ hI (show xB S (mR S 70) from by first | (exact xB_x (xC_o (W := 75) hi2).2)) (show aZ S = rCb (rCa ab 93) 512 from by first | (rw [hi4]; have r6 := congrArg Int32.toInt (show rCa ab 93 69 6 = mI S 69 6 from ((Cb_r hi4 (by decide) (by decide) (by decide)).symm.trans (aS_I rfl rfl))); have tc := tn_cast (x := l1) (by omega); exact (Cb_g (Ca_I hi3.2.2.2) _ _ (by omega) (by omega) (by omega)).symm))
    · skip
      have g5 := i_nle h3
      have li6 : (0 : Int32).toInt = 0 := rfl
      refine zd (fun h7 => ?_) (fun h7 => ?_)
      · skip
        have g8 := i_lt h7
        first | have e9 : (l1 + (1 : Int32)).toInt = l1.toInt + (1) := i_addk rfl (by omega) (by omega) | have b10 := i_bd (l1 + (1 : Int32))
        exact IH _ (by omega) _ ((l1 + (1 : Int32))) rfl hI (by omega) (by omega) (show xB S (mR S 70) from by first | (exact xB_x (xC_o (W := 75) hi2).2)) (show (0 ≤ (ab 87 5).toInt ∧ (ab 87 5).toInt ≤ 100) ∧ (1 ≤ (ab 87 3).toInt ∧ (ab 87 3).toInt ≤ 256) ∧ (∀ n, xAl ab n → (ab 130 n).toInt / (ab 87 3).toInt < 93) ∧ qI ab from by first | (exact hi3)) (show aZ S = rCb (rCa ab 93) ((l1 + (1 : Int32))).toNatClampNeg from by first | (exfalso; omega))
      · skip
        have g11 := i_nlt h7
        have li12 : (512 : Int32).toInt = 512 := rfl
        refine zd (fun h13 => ?_) (fun h13 => ?_)
        · skip
          have g14 := i_le h13
          first | have e15 : (l1 + (1 : Int32)).toInt = l1.toInt + (1) := i_addk rfl (by omega) (by omega) | have b16 := i_bd (l1 + (1 : Int32))
          exact IH _ (by omega) _ ((l1 + (1 : Int32))) rfl hI (by omega) (by omega) (show xB S (mR S 70) from by first | (exact xB_x (xC_o (W := 75) hi2).2)) (show (0 ≤ (ab 87 5).toInt ∧ (ab 87 5).toInt ≤ 100) ∧ (1 ≤ (ab 87 3).toInt ∧ (ab 87 3).toInt ≤ 256) ∧ (∀ n, xAl ab n → (ab 130 n).toInt / (ab 87 3).toInt < 93) ∧ qI ab from by first | (exact hi3)) (show aZ S = rCb (rCa ab 93) ((l1 + (1 : Int32))).toNatClampNeg from by first | (exfalso; omega))
        · skip
          have g17 := i_nle h13
          refine ⟨i_ix (by omega) (by omega), ?_⟩
          refine ⟨fun hc => ?_, fun c1 hc => ?_⟩
          · skip
            have rn_c1 : zTa (mR S 70) l1 = none := (ta_rd (y := l1) hi2 (by omega) (by omega)).symm.trans hc
            first | have e18 : (l1 + (1 : Int32)).toInt = l1.toInt + (1) := i_addk rfl (by omega) (by omega) | have b19 := i_bd (l1 + (1 : Int32))
            exact IH _ (by omega) _ ((l1 + (1 : Int32))) rfl hI (by omega) (by omega) (show xB S (mR S 70) from by first | (exact xB_x (xC_o (W := 75) hi2).2)) (show (0 ≤ (ab 87 5).toInt ∧ (ab 87 5).toInt ≤ 100) ∧ (1 ≤ (ab 87 3).toInt ∧ (ab 87 3).toInt ≤ 256) ∧ (∀ n, xAl ab n → (ab 130 n).toInt / (ab 87 3).toInt < 93) ∧ qI ab from by first | (exact hi3)) (show aZ S = rCb (rCa ab 93) ((l1 + (1 : Int32))).toNatClampNeg from by first | (exact Cb_no hi4 hi2 rn_c1 (by omega) (by omega) (by omega)))
          · skip
            have th_c1 := (fun _ z => zG_70 hI (c := 70) (by decide) z) c1 hc
            have rg_c1 : zTa (mR S 70) l1 = some c1 := (ta_rd (y := l1) hi2 (by omega) (by omega)).symm.trans hc
            refine ⟨zG_n hI th_c1, ?_⟩
            have b20 := i_bd (mI S c1 7)
            refine zd (fun h21 => ?_) (fun h21 => ?_)
            · skip
              have g22 := i_le h21
              first | have e23 : (l1 + (1 : Int32)).toInt = l1.toInt + (1) := i_addk rfl (by omega) (by omega) | have b24 := i_bd (l1 + (1 : Int32))
              exact IH _ (by omega) _ ((l1 + (1 : Int32))) rfl hI (by omega) (by omega) (show xB S (mR S 70) from by first | (exact xB_x (xC_o (W := 75) hi2).2)) (show (0 ≤ (ab 87 5).toInt ∧ (ab 87 5).toInt ≤ 100) ∧ (1 ≤ (ab 87 3).toInt ∧ (ab 87 3).toInt ≤ 256) ∧ (∀ n, xAl ab n → (ab 130 n).toInt / (ab 87 3).toInt < 93) ∧ qI ab from by first | (exact hi3)) (show aZ S = rCb (rCa ab 93) ((l1 + (1 : Int32))).toNatClampNeg from by first | (exact Cb_n0 hi4 hi2 rg_c1 (by omega) (by omega)) | (exfalso; omega))
            · skip
              have g25 := i_nle h21
              have f26 := zG_s hI (0) (1500) (c := 91) (k := 2) (by decide)
              refine zd (fun h27 => ?_) (fun h27 => ?_)
              · skip
                have g28 := i_le h27
                have hI29 : zL91 f r C Z N (ma_put S 93 0 (.inl (0 : Int32))) := zG_fr hI rfl (by decide) (by decide) (by decide) trivial
                first | have e30 : (l1 + (1 : Int32)).toInt = l1.toInt + (1) := i_addk rfl (by omega) (by omega) | have b31 := i_bd (l1 + (1 : Int32))
                exact IH _ (by omega) _ ((l1 + (1 : Int32))) rfl hI29 (by omega) (by omega) (show xB (ma_put S 93 0 (.inl (0 : Int32))) (mR (ma_put S 93 0 (.inl (0 : Int32))) 70) from by first | (exact xB_x (xC_n (c := 93) (k := 0) (x := (0 : Int32)) (xC_o (W := 75) hi2) ⟨by decide, Or.inl ⟨rfl, rfl⟩⟩).2)) (show (0 ≤ (ab 87 5).toInt ∧ (ab 87 5).toInt ≤ 100) ∧ (1 ≤ (ab 87 3).toInt ∧ (ab 87 3).toInt ≤ 256) ∧ (∀ n, xAl ab n → (ab 130 n).toInt / (ab 87 3).toInt < 93) ∧ qI ab from by first | (exact hi3)) (show aZ (ma_put S 93 0 (.inl (0 : Int32))) = rCb (rCa ab 93) ((l1 + (1 : Int32))).toNatClampNeg from by first | (rw [((Z_p9 (c := 93) (n := 0) (x := (0 : Int32)) (xC_o (W := 75) hi2).2 (by decide)).trans (congrArg (fun q => ma_u q 93 0 (0 : Int32)) (show aZ S = aZ S from rfl)))]; exact Cb_go hi4 (Ca_hv hi3) (Ca_I hi3.2.2.2) (Ca_1 hi3.2.1.1) hi2 rg_c1 (by omega) (by omega)) | (exfalso; have e3 := congrArg Int32.toInt (show mI S 91 2 = ab 87 3 from (congrFun (congrFun hi4 87) 3).trans ((Cb_o (by decide) _).trans (Ca_o (by decide)))); have r3 := hi3.2.1; omega))
              · skip
                have g32 := i_nle h27
                refine ⟨zG_n hI th_c1, ?_⟩
                refine ⟨i_nz (by omega), ?_⟩
                have f33 := zG_th hI th_c1
                first | have f34 := i_div (x := (mI S c1 4)) (y := (mI S 91 2)) (by omega) (by omega) | have b35 := i_bd ((mI S c1 4) / (mI S 91 2))
                have li36 : (92 : Int32).toInt = 92 := rfl
                have f37 := i_min ((mI S c1 4) / (mI S 91 2)) (92 : Int32)
                refine ⟨i_ix (by omega) (by omega), ?_⟩
                have hI38 : zL91 f r C Z N (ma_put S 93 (if (92 : Int32) < ((mI S c1 4) / (mI S 91 2)) then (92 : Int32) else ((mI S c1 4) / (mI S 91 2))).toNatClampNeg (.inl (0 : Int32))) := zG_fa hI rfl (by decide) (by decide) (by decide) trivial
                first | have e39 : (l1 + (1 : Int32)).toInt = l1.toInt + (1) := i_addk rfl (by omega) (by omega) | have b40 := i_bd (l1 + (1 : Int32))
                exact IH _ (by omega) _ ((l1 + (1 : Int32))) rfl hI38 (by omega) (by omega) (show xB (ma_put S 93 (if (92 : Int32) < ((mI S c1 4) / (mI S 91 2)) then (92 : Int32) else ((mI S c1 4) / (mI S 91 2))).toNatClampNeg (.inl (0 : Int32))) (mR (ma_put S 93 (if (92 : Int32) < ((mI S c1 4) / (mI S 91 2)) then (92 : Int32) else ((mI S c1 4) / (mI S 91 2))).toNatClampNeg (.inl (0 : Int32))) 70) from by first | (exact xB_x (xC_n (c := 93) (k := (if (92 : Int32) < ((mI S c1 4) / (mI S 91 2)) then (92 : Int32) else ((mI S c1 4) / (mI S 91 2))).toNatClampNeg) (x := (0 : Int32)) (xC_o (W := 75) hi2) ⟨by decide, Or.inl ⟨rfl, rfl⟩⟩).2)) (show (0 ≤ (ab 87 5).toInt ∧ (ab 87 5).toInt ≤ 100) ∧ (1 ≤ (ab 87 3).toInt ∧ (ab 87 3).toInt ≤ 256) ∧ (∀ n, xAl ab n → (ab 130 n).toInt / (ab 87 3).toInt < 93) ∧ qI ab from by first | (exact hi3)) (show aZ (ma_put S 93 (if (92 : Int32) < ((mI S c1 4) / (mI S 91 2)) then (92 : Int32) else ((mI S c1 4) / (mI S 91 2))).toNatClampNeg (.inl (0 : Int32))) = rCb (rCa ab 93) ((l1 + (1 : Int32))).toNatClampNeg from by first | (rw [((Z_p9 (c := 93) (n := (if (92 : Int32) < ((mI S c1 4) / (mI S 91 2)) then (92 : Int32) else ((mI S c1 4) / (mI S 91 2))).toNatClampNeg) (x := (0 : Int32)) (xC_o (W := 75) hi2).2 (by decide)).trans (congrArg (fun q => ma_u q 93 (if (92 : Int32) < ((mI S c1 4) / (mI S 91 2)) then (92 : Int32) else ((mI S c1 4) / (mI S 91 2))).toNatClampNeg (0 : Int32)) (show aZ S = aZ S from rfl)))]; exact Cb_go hi4 (Ca_hv hi3) (Ca_I hi3.2.2.2) (Ca_1 hi3.2.1.1) hi2 rg_c1 (by omega) (by omega)) | (exfalso; have e3 := congrArg Int32.toInt (show mI S 91 2 = ab 87 3 from (congrFun (congrFun hi4 87) 3).trans ((Cb_o (by decide) _).trans (Ca_o (by decide)))); have r3 := hi3.2.1; omega))
theorem lp_47_91_sz_2 {X : Nat × (Nat → Int32)} {d w : Nat} {f : Nat → Nat → Int32} {r : Nat → Nat → Option Nat} {C Z N : Nat} {Q : Option ma_V ⊕ Nat → ma_S → Prop} {ab : Nat→Nat→Int32} (hd : 2 ≤ d) (hw : 89 ≤ w) (K : ∀ S₉, zL91 f r C Z N S₉ → (xB S₉ (mR S₉ 70)) → (aZ S₉ = rCb (rCa ab 93) 512) → Q (.inl none) S₉) : ∀ (n : Nat) (S : ma_S) (l1 : Int32), (93 - l1.toInt).toNat = n → zL91 f r C Z N S → (0 ≤ l1.toInt) → (l1.toInt ≤ 93) → (xB S (mR S 70)) → (qLb ab) → ((0 ≤ (ab 87 5).toInt ∧ (ab 87 5).toInt ≤ 100) ∧ (1 ≤ (ab 87 3).toInt ∧ (ab 87 3).toInt ≤ 256) ∧ (∀ n, xAl ab n → (ab 130 n).toInt / (ab 87 3).toInt < 93) ∧ qI ab) → (aZ S = rCa ab l1.toNatClampNeg) → ma_wp X d w 47 2 [(0, .inr (.inr (some 91))), (1, .inl l1)] [] S Q := by
  intro n
  induction n using Nat.strongRecOn with
  | _ n IH =>
    intro S l1 hmu hI  hi0 hi1 hi2 hi3 hi4 hi5
    refine g_47_91_sz_2 l1 (by omega) (by omega) (zG_T hI) ?_
    have li1 : (93 : Int32).toInt = 93 := rfl
    have b2 := i_bd l1
    refine zd (fun h3 => ?_) (fun h3 => ?_)
    · skip
      have g4 := i_le h3
      have li5 : (0 : Int32).toInt = 0 := rfl
      exact lp_47_91_sz_52 (by omega) (by omega) K _ _ ((0 : Int32)) rfl hI (by omega) (by omega) (show xB S (mR S 70) from by first | (exact xB_x (xC_o (W := 75) hi2).2)) (show (0 ≤ (ab 87 5).toInt ∧ (ab 87 5).toInt ≤ 100) ∧ (1 ≤ (ab 87 3).toInt ∧ (ab 87 3).toInt ≤ 256) ∧ (∀ n, xAl ab n → (ab 130 n).toInt / (ab 87 3).toInt < 93) ∧ qI ab from by first | (exact hi4)) (show aZ S = rCb (rCa ab 93) ((0 : Int32)).toNatClampNeg from by first | (rw [hi5, show l1.toNatClampNeg = 93 from by have := tn_cast (x := l1) (by omega); omega]; rfl))
    · skip
      have g6 := i_nle h3
      have f7 := zG_s hI (0) (92) (c := 91) (k := 5) (by decide)
      refine zd (fun h8 => ?_) (fun h8 => ?_)
      · skip
        have g9 := i_eq h8
        refine ⟨i_ix (by omega) (by omega), ?_⟩
        have hI10 : zL91 f r C Z N (ma_put S 93 l1.toNatClampNeg (.inl (0 : Int32))) := zG_fa hI rfl (by decide) (by decide) (by decide) trivial
        first | have e11 : (l1 + (1 : Int32)).toInt = l1.toInt + (1) := i_addk rfl (by omega) (by omega) | have b12 := i_bd (l1 + (1 : Int32))
        exact IH _ (by omega) _ ((l1 + (1 : Int32))) rfl hI10 (by omega) (by omega) (show xB (ma_put S 93 l1.toNatClampNeg (.inl (0 : Int32))) (mR (ma_put S 93 l1.toNatClampNeg (.inl (0 : Int32))) 70) from by first | (exact xB_x (xC_n (c := 93) (k := l1.toNatClampNeg) (x := (0 : Int32)) (xC_o (W := 75) hi2) ⟨by decide, Or.inl ⟨rfl, rfl⟩⟩).2)) (show qLb ab from by first | (exact hi3)) (show (0 ≤ (ab 87 5).toInt ∧ (ab 87 5).toInt ≤ 100) ∧ (1 ≤ (ab 87 3).toInt ∧ (ab 87 3).toInt ≤ 256) ∧ (∀ n, xAl ab n → (ab 130 n).toInt / (ab 87 3).toInt < 93) ∧ qI ab from by first | (exact hi4)) (show aZ (ma_put S 93 l1.toNatClampNeg (.inl (0 : Int32))) = rCa ab ((l1 + (1 : Int32))).toNatClampNeg from by first | (have e5 := congrArg Int32.toInt (show ab 87 5 = mI S 91 4 from (Ca_7 hi5).symm); have e3 := congrArg Int32.toInt (show ab 87 3 = mI S 91 2 from (Ca_7 hi5).symm); have hs := hi4.1; have hs2 := hi4.2.1; rw [((Z_p9 (c := 93) (n := l1.toNatClampNeg) (x := (0 : Int32)) (xC_o (W := 75) hi2).2 (by decide)).trans (congrArg (fun q => ma_u q 93 l1.toNatClampNeg (0 : Int32)) (show aZ S = aZ S from rfl)))]; exact Ca_go hi5 hi3 (by omega) (by omega) (by omega) (by omega) (Or.inl (by omega)) (by omega)) | (have e5 := congrArg Int32.toInt (show ab 87 5 = mI S 91 4 from (Ca_7 hi5).symm); have e3 := congrArg Int32.toInt (show ab 87 3 = mI S 91 2 from (Ca_7 hi5).symm); have hs := hi4.1; have hs2 := hi4.2.1; rw [((Z_p9 (c := 93) (n := l1.toNatClampNeg) (x := (0 : Int32)) (xC_o (W := 75) hi2).2 (by decide)).trans (congrArg (fun q => ma_u q 93 l1.toNatClampNeg (0 : Int32)) (show aZ S = aZ S from rfl)))]; exact Ca_go hi5 hi3 (by omega) (by omega) (by omega) (by omega) (Or.inr (by omega)) (by omega)))
      · skip
        have g13 := i_ne h8
        refine ⟨i_ix (by omega) (by omega), ?_⟩
        have b14 := i_bd (mI S 93 l1.toNatClampNeg)
        have li15 : (100 : Int32).toInt = 100 := rfl
        first | have e16 : ((mI S 93 l1.toNatClampNeg) * (100 : Int32)).toInt = (mI S 93 l1.toNatClampNeg).toInt * 100 := i_mulk rfl (by omega) (by omega) | have b17 := i_bd ((mI S 93 l1.toNatClampNeg) * (100 : Int32))
        have b18 := i_bd (mI S 91 4)
        have f19 := zG_s hI (0) (1500) (c := 91) (k := 2) (by decide)
        first | have f20 := i_muln (x := (mI S 91 4)) (y := (mI S 91 2)) (by omega) (by omega) (by omega) (by omega) | have b21 := i_bd ((mI S 91 4) * (mI S 91 2))
        refine zd (fun h22 => ?_) (fun h22 => ?_)
        · skip
          have g23 := i_le h22
          first | have e24 : (l1 + (1 : Int32)).toInt = l1.toInt + (1) := i_addk rfl (by omega) (by omega) | have b25 := i_bd (l1 + (1 : Int32))
          exact IH _ (by omega) _ ((l1 + (1 : Int32))) rfl hI (by omega) (by omega) (show xB S (mR S 70) from by first | (exact xB_x (xC_o (W := 75) hi2).2)) (show qLb ab from by first | (exact hi3)) (show (0 ≤ (ab 87 5).toInt ∧ (ab 87 5).toInt ≤ 100) ∧ (1 ≤ (ab 87 3).toInt ∧ (ab 87 3).toInt ≤ 256) ∧ (∀ n, xAl ab n → (ab 130 n).toInt / (ab 87 3).toInt < 93) ∧ qI ab from by first | (exact hi4)) (show aZ S = rCa ab ((l1 + (1 : Int32))).toNatClampNeg from by first | (have e5 := congrArg Int32.toInt (show ab 87 5 = mI S 91 4 from (Ca_7 hi5).symm); have e3 := congrArg Int32.toInt (show ab 87 3 = mI S 91 2 from (Ca_7 hi5).symm); have hs := hi4.1; have hs2 := hi4.2.1; exact Ca_no hi5 hi3 (by omega) (by omega) (by omega) (by omega) (by omega) (by omega)))
        · skip
          have g26 := i_nle h22
          refine ⟨i_ix (by omega) (by omega), ?_⟩
          have hI27 : zL91 f r C Z N (ma_put S 93 l1.toNatClampNeg (.inl (0 : Int32))) := zG_fa hI rfl (by decide) (by decide) (by decide) trivial
          first | have e28 : (l1 + (1 : Int32)).toInt = l1.toInt + (1) := i_addk rfl (by omega) (by omega) | have b29 := i_bd (l1 + (1 : Int32))
          exact IH _ (by omega) _ ((l1 + (1 : Int32))) rfl hI27 (by omega) (by omega) (show xB (ma_put S 93 l1.toNatClampNeg (.inl (0 : Int32))) (mR (ma_put S 93 l1.toNatClampNeg (.inl (0 : Int32))) 70) from by first | (exact xB_x (xC_n (c := 93) (k := l1.toNatClampNeg) (x := (0 : Int32)) (xC_o (W := 75) hi2) ⟨by decide, Or.inl ⟨rfl, rfl⟩⟩).2)) (show qLb ab from by first | (exact hi3)) (show (0 ≤ (ab 87 5).toInt ∧ (ab 87 5).toInt ≤ 100) ∧ (1 ≤ (ab 87 3).toInt ∧ (ab 87 3).toInt ≤ 256) ∧ (∀ n, xAl ab n → (ab 130 n).toInt / (ab 87 3).toInt < 93) ∧ qI ab from by first | (exact hi4)) (show aZ (ma_put S 93 l1.toNatClampNeg (.inl (0 : Int32))) = rCa ab ((l1 + (1 : Int32))).toNatClampNeg from by first | (have e5 := congrArg Int32.toInt (show ab 87 5 = mI S 91 4 from (Ca_7 hi5).symm); have e3 := congrArg Int32.toInt (show ab 87 3 = mI S 91 2 from (Ca_7 hi5).symm); have hs := hi4.1; have hs2 := hi4.2.1; rw [((Z_p9 (c := 93) (n := l1.toNatClampNeg) (x := (0 : Int32)) (xC_o (W := 75) hi2).2 (by decide)).trans (congrArg (fun q => ma_u q 93 l1.toNatClampNeg (0 : Int32)) (show aZ S = aZ S from rfl)))]; exact Ca_go hi5 hi3 (by omega) (by omega) (by omega) (by omega) (Or.inl (by omega)) (by omega)) | (have e5 := congrArg Int32.toInt (show ab 87 5 = mI S 91 4 from (Ca_7 hi5).symm); have e3 := congrArg Int32.toInt (show ab 87 3 = mI S 91 2 from (Ca_7 hi5).symm); have hs := hi4.1; have hs2 := hi4.2.1; rw [((Z_p9 (c := 93) (n := l1.toNatClampNeg) (x := (0 : Int32)) (xC_o (W := 75) hi2).2 (by decide)).trans (congrArg (fun q => ma_u q 93 l1.toNatClampNeg (0 : Int32)) (show aZ S = aZ S from rfl)))]; exact Ca_go hi5 hi3 (by omega) (by omega) (by omega) (by omega) (Or.inr (by omega)) (by omega)))
theorem sp_47_91_sz {X : Nat × (Nat → Int32)} {d w : Nat} {f : Nat → Nat → Int32} {r : Nat → Nat → Option Nat} {C Z N : Nat} {Q : Option ma_V ⊕ Nat → ma_S → Prop} {ab : Nat→Nat→Int32} {S : ma_S}  (hd : 2 ≤ d) (hw : 89 ≤ w) (hI : zL91 f r C Z N S) (hpre0 : xB S (mR S 70)) (hpre1 : aZ S = ab) (hpre2 : qLb ab) (hpre3 : (0 ≤ (ab 87 5).toInt ∧ (ab 87 5).toInt ≤ 100) ∧ (1 ≤ (ab 87 3).toInt ∧ (ab 87 3).toInt ≤ 256) ∧ (∀ n, xAl ab n → (ab 130 n).toInt / (ab 87 3).toInt < 93) ∧ qI ab) (K : ∀ S₉, zL91 f r C Z N S₉ → (xB S₉ (mR S₉ 70)) → (aZ S₉ = rCb (rCa ab 93) 512) → Q (.inl none) S₉) : ma_wp X d w 47 0 [(0, .inr (.inr (some 91)))] [] S Q := by
  refine g_47_91_sz_0  (by omega) (by omega) (zG_T hI) ?_
  have li1 : (0 : Int32).toInt = 0 := rfl
  exact lp_47_91_sz_2 (by omega) (by omega) K _ _ ((0 : Int32)) rfl hI (by omega) (by omega) (show xB S (mR S 70) from by first | (exact xB_x (xC_o (W := 75) hpre0).2)) (show qLb ab from by first | (exact hpre2)) (show (0 ≤ (ab 87 5).toInt ∧ (ab 87 5).toInt ≤ 100) ∧ (1 ≤ (ab 87 3).toInt ∧ (ab 87 3).toInt ≤ 256) ∧ (∀ n, xAl ab n → (ab 130 n).toInt / (ab 87 3).toInt < 93) ∧ qI ab from by first | (exact hpre3)) (show aZ S = rCa ab ((0 : Int32)).toNatClampNeg from by first | (rw [hpre1]; exact Ca_0.symm))

/-! from 95.s16 -/
/-! REGIONS, the class (written by wip/tools/gen15z.py) -/
theorem g_48_91_sz_0 {X : Nat × (Nat → Int32)} {d w : Nat} {S : ma_S} {Q : Option ma_V ⊕ Nat → ma_S → Prop}  (hd : 0 ≤ d) (hw : 0 ≤ w) (hS : zT S) (h : ma_wp X d w 48 4 [(0, .inr (.inr (some 91))), (1, .inl (-1 : Int32)), (2, .inl (0 : Int32))] [] S Q) : ma_wp X d w 48 0 [(0, .inr (.inr (some 91)))] [] S Q := by
  refine zw_push hm_48 dX4_fewestLeaving_0 (v := .inl (-1 : Int32)) rfl ?_
  refine zw_sto hm_48 dX4_fewestLeaving_1 [(1, .inl (-1 : Int32)), (0, .inr (.inr (some 91)))] rfl rfl rfl ?_
  refine zw_push hm_48 dX4_fewestLeaving_2 (v := .inl (0 : Int32)) rfl ?_
  refine zw_sto hm_48 dX4_fewestLeaving_3 [(2, .inl (0 : Int32)), (1, .inl (-1 : Int32)), (0, .inr (.inr (some 91)))] rfl rfl rfl ?_
  exact zw_sub (ma_nd_of (ks := [0, 1, 2]) rfl (by decide)) (ma_nd_of (ks := [2, 1, 0]) rfl (by decide)) (ma_le_cons rfl (ma_le_cons rfl (ma_le_cons rfl (ma_le_nil _)))) h
theorem g_48_91_sz_4 {X : Nat × (Nat → Int32)} {d w : Nat} {S : ma_S} {Q : Option ma_V ⊕ Nat → ma_S → Prop} (l1 : Int32) (l2 : Int32) (hd : 0 ≤ d) (hw : 0 ≤ w) (hS : zT S) (h : if (93 : Int32) ≤ l2 then (Q (.inl (some (.inl l1))) S) else ((0 ≤ l2 ∧ l2.toNatClampNeg < 93) ∧ (if (mI S 93 l2.toNatClampNeg) ≤ 0 then (ma_wp X d w 48 4 [(0, .inr (.inr (some 91))), (1, .inl l1), (2, .inl (l2 + (1 : Int32)))] [] S Q) else (if l1 = (-1 : Int32) then (ma_wp X d w 48 4 [(0, .inr (.inr (some 91))), (1, .inl l2), (2, .inl (l2 + (1 : Int32)))] [] S Q) else ((0 ≤ l2 ∧ l2.toNatClampNeg < 93) ∧ ((0 ≤ l1 ∧ l1.toNatClampNeg < 93) ∧ (if (mI S 93 l1.toNatClampNeg) ≤ (mI S 93 l2.toNatClampNeg) then (ma_wp X d w 48 4 [(0, .inr (.inr (some 91))), (1, .inl l1), (2, .inl (l2 + (1 : Int32)))] [] S Q) else (ma_wp X d w 48 4 [(0, .inr (.inr (some 91))), (1, .inl l2), (2, .inl (l2 + (1 : Int32)))] [] S Q)))))))) : ma_wp X d w 48 4 [(0, .inr (.inr (some 91))), (1, .inl l1), (2, .inl l2)] [] S Q := by
  refine zw_push hm_48 dX4_fewestLeaving_4 (v := .inl l2) rfl ?_
  refine zw_push hm_48 dX4_fewestLeaving_5 (v := .inl (93 : Int32)) rfl ?_
  refine zw_if2 hm_48 dX4_fewestLeaving_7 (t := 47) rfl zc2_ge ?_ ?_
  · intro hc
    rw [if_pos hc] at h
    refine zw_push hm_48 dX4_fewestLeaving_47 (v := .inl l1) rfl ?_
    exact zw_iret hm_48 dX4_fewestLeaving_48 h
  · intro hc
    rw [if_neg hc] at h
    refine zw_push hm_48 dX4_fewestLeaving_10 (v := .inr (.inr (some 91))) rfl ?_
    refine zw_gf hm_48 dX4_fewestLeaving_11 (v := .inr (.inr (some 93))) (zT_is hS s_91) (zT_t hS s_91) rfl f_4_15_4 (zT_f hS r_91_8) ?_
    refine zw_push hm_48 dX4_fewestLeaving_14 (v := .inl l2) rfl ?_
    obtain ⟨hg, h⟩ := h
    refine zw_ia hm_48 dX4_fewestLeaving_15 (zT_is hS s_93) (zT_h hS s_93) rfl hg ?_
    show ma_wp X d w 48 16 [(0, .inr (.inr (some 91))), (1, .inl l1), (2, .inl l2)] [.inl (mI S 93 l2.toNatClampNeg)] S _
    refine zw_if0 hm_48 dX4_fewestLeaving_16 (t := 41) rfl zc0_le ?_ ?_
    · intro hc
      rw [if_pos hc] at h
      refine zw_sto hm_48 dX4_fewestLeaving_41 [(2, .inl (l2 + (1 : Int32))), (0, .inr (.inr (some 91))), (1, .inl l1)] rfl rfl rfl ?_
      refine zw_goto hm_48 dX4_fewestLeaving_44 (t := 4) rfl ?_
      exact zw_sub (ma_nd_of (ks := [0, 1, 2]) rfl (by decide)) (ma_nd_of (ks := [2, 0, 1]) rfl (by decide)) (ma_le_cons rfl (ma_le_cons rfl (ma_le_cons rfl (ma_le_nil _)))) h
    · intro hc
      rw [if_neg hc] at h
      refine zw_push hm_48 dX4_fewestLeaving_19 (v := .inl l1) rfl ?_
      refine zw_push hm_48 dX4_fewestLeaving_20 (v := .inl (-1 : Int32)) rfl ?_
      refine zw_if2 hm_48 dX4_fewestLeaving_21 (t := 39) rfl zc2_eq ?_ ?_
      · intro hc
        rw [if_pos hc] at h
        refine zw_push hm_48 dX4_fewestLeaving_39 (v := .inl l2) rfl ?_
        refine zw_sto hm_48 dX4_fewestLeaving_40 [(1, .inl l2), (0, .inr (.inr (some 91))), (2, .inl l2)] rfl rfl rfl ?_
        refine zw_sto hm_48 dX4_fewestLeaving_41 [(2, .inl (l2 + (1 : Int32))), (1, .inl l2), (0, .inr (.inr (some 91)))] rfl rfl rfl ?_
        refine zw_goto hm_48 dX4_fewestLeaving_44 (t := 4) rfl ?_
        exact zw_sub (ma_nd_of (ks := [0, 1, 2]) rfl (by decide)) (ma_nd_of (ks := [2, 1, 0]) rfl (by decide)) (ma_le_cons rfl (ma_le_cons rfl (ma_le_cons rfl (ma_le_nil _)))) h
      · intro hc
        rw [if_neg hc] at h
        refine zw_push hm_48 dX4_fewestLeaving_24 (v := .inr (.inr (some 91))) rfl ?_
        refine zw_gf hm_48 dX4_fewestLeaving_25 (v := .inr (.inr (some 93))) (zT_is hS s_91) (zT_t hS s_91) rfl f_4_15_4 (zT_f hS r_91_8) ?_
        refine zw_push hm_48 dX4_fewestLeaving_28 (v := .inl l2) rfl ?_
        obtain ⟨hg, h⟩ := h
        refine zw_ia hm_48 dX4_fewestLeaving_29 (zT_is hS s_93) (zT_h hS s_93) rfl hg ?_
        show ma_wp X d w 48 30 [(0, .inr (.inr (some 91))), (1, .inl l1), (2, .inl l2)] [.inl (mI S 93 l2.toNatClampNeg)] S _
        refine zw_push hm_48 dX4_fewestLeaving_30 (v := .inr (.inr (some 91))) rfl ?_
        refine zw_gf hm_48 dX4_fewestLeaving_31 (v := .inr (.inr (some 93))) (zT_is hS s_91) (zT_t hS s_91) rfl f_4_15_4 (zT_f hS r_91_8) ?_
        refine zw_push hm_48 dX4_fewestLeaving_34 (v := .inl l1) rfl ?_
        obtain ⟨hg, h⟩ := h
        refine zw_ia hm_48 dX4_fewestLeaving_35 (zT_is hS s_93) (zT_h hS s_93) rfl hg ?_
        show ma_wp X d w 48 36 [(0, .inr (.inr (some 91))), (1, .inl l1), (2, .inl l2)] [.inl (mI S 93 l1.toNatClampNeg), .inl (mI S 93 l2.toNatClampNeg)] S _
        refine zw_if2 hm_48 dX4_fewestLeaving_36 (t := 41) rfl zc2_ge ?_ ?_
        · intro hc
          rw [if_pos hc] at h
          refine zw_sto hm_48 dX4_fewestLeaving_41 [(2, .inl (l2 + (1 : Int32))), (0, .inr (.inr (some 91))), (1, .inl l1)] rfl rfl rfl ?_
          refine zw_goto hm_48 dX4_fewestLeaving_44 (t := 4) rfl ?_
          exact zw_sub (ma_nd_of (ks := [0, 1, 2]) rfl (by decide)) (ma_nd_of (ks := [2, 0, 1]) rfl (by decide)) (ma_le_cons rfl (ma_le_cons rfl (ma_le_cons rfl (ma_le_nil _)))) h
        · intro hc
          rw [if_neg hc] at h
          refine zw_push hm_48 dX4_fewestLeaving_39 (v := .inl l2) rfl ?_
          refine zw_sto hm_48 dX4_fewestLeaving_40 [(1, .inl l2), (0, .inr (.inr (some 91))), (2, .inl l2)] rfl rfl rfl ?_
          refine zw_sto hm_48 dX4_fewestLeaving_41 [(2, .inl (l2 + (1 : Int32))), (1, .inl l2), (0, .inr (.inr (some 91)))] rfl rfl rfl ?_
          refine zw_goto hm_48 dX4_fewestLeaving_44 (t := 4) rfl ?_
          exact zw_sub (ma_nd_of (ks := [0, 1, 2]) rfl (by decide)) (ma_nd_of (ks := [2, 1, 0]) rfl (by decide)) (ma_le_cons rfl (ma_le_cons rfl (ma_le_cons rfl (ma_le_nil _)))) h
theorem lp_48_91_sz_4 {X : Nat × (Nat → Int32)} {d w : Nat} {f : Nat → Nat → Int32} {r : Nat → Nat → Option Nat} {C Z N : Nat} {Q : Option ma_V ⊕ Nat → ma_S → Prop} {S : ma_S} (hd : 0 ≤ d) (hw : 0 ≤ w) (K : ∀ v S₉, S₉ = S → (-1 ≤ v.toInt ∧ v.toInt ≤ 92) → (v.toInt = rFw (aZ S)) → Q (.inl (some (.inl v))) S₉) : ∀ (n : Nat) (l1 : Int32) (l2 : Int32), (93 - l2.toInt).toNat = n → zL91 f r C Z N S → (0 ≤ l2.toInt) → (l2.toInt ≤ 93) → (-1 ≤ l1.toInt) → (l1.toInt ≤ 92) → (l1.toInt = rFg (fun k => (aZ S 93 k).toInt) l2.toNatClampNeg) → ma_wp X d w 48 4 [(0, .inr (.inr (some 91))), (1, .inl l1), (2, .inl l2)] [] S Q := by
  intro n
  induction n using Nat.strongRecOn with
  | _ n IH =>
    intro l1 l2 hmu hI  hi0 hi1 hi2 hi3 hi4
    refine g_48_91_sz_4 l1 l2 (by omega) (by omega) (zG_T hI) ?_
    have li1 : (93 : Int32).toInt = 93 := rfl
    have b2 := i_bd l2
    refine zd (fun h3 => ?_) (fun h3 => ?_)
    · skip
      have g4 := i_le h3
      have b5 := i_bd l1
      exact K (l1) _ rfl (by omega) (show l1.toInt = rFw (aZ S) from by first | (have q := hi4; rw [show l2.toNatClampNeg = 93 from by have := tn_cast (x := l2) (by omega); omega] at q; exact q))
    · skip
      have g6 := i_nle h3
      refine ⟨i_ix (by omega) (by omega), ?_⟩
      have b7 := i_bd (mI S 93 l2.toNatClampNeg)
      have li8 : (0 : Int32).toInt = 0 := rfl
      refine zd (fun h9 => ?_) (fun h9 => ?_)
      · skip
        have g10 := i_le h9
        have b11 := i_bd l1
        first | have e12 : (l2 + (1 : Int32)).toInt = l2.toInt + (1) := i_addk rfl (by omega) (by omega) | have b13 := i_bd (l2 + (1 : Int32))
        exact IH _ (by omega) (l1) ((l2 + (1 : Int32))) rfl hI (by omega) (by omega) (by omega) (by omega) (show (l1).toInt = rFg (fun k => (aZ S 93 k).toInt) ((l2 + (1 : Int32))).toNatClampNeg from by first | (exact Fw_s hi4 (by omega) (by omega) (Or.inr ⟨by omega, rfl⟩)) | (exact Fw_s hi4 (by omega) (by omega) (Or.inl ⟨by omega, by omega, rfl⟩)))
      · skip
        have g14 := i_nle h9
        have b15 := i_bd l1
        have li16 : (-1 : Int32).toInt = -1 := rfl
        refine zd (fun h17 => ?_) (fun h17 => ?_)
        · skip
          have g18 := i_eq h17
          first | have e19 : (l2 + (1 : Int32)).toInt = l2.toInt + (1) := i_addk rfl (by omega) (by omega) | have b20 := i_bd (l2 + (1 : Int32))
          exact IH _ (by omega) (l2) ((l2 + (1 : Int32))) rfl hI (by omega) (by omega) (by omega) (by omega) (show (l2).toInt = rFg (fun k => (aZ S 93 k).toInt) ((l2 + (1 : Int32))).toNatClampNeg from by first | (exact Fw_s hi4 (by omega) (by omega) (Or.inr ⟨by omega, rfl⟩)) | (exact Fw_s hi4 (by omega) (by omega) (Or.inl ⟨by omega, by omega, rfl⟩)))
        · skip
          have g21 := i_ne h17
          refine ⟨i_ix (by omega) (by omega), ?_⟩
          refine ⟨i_ix (by omega) (by omega), ?_⟩
          have b22 := i_bd (mI S 93 l1.toNatClampNeg)
          refine zd (fun h23 => ?_) (fun h23 => ?_)
          · skip
            have g24 := i_le h23
            first | have e25 : (l2 + (1 : Int32)).toInt = l2.toInt + (1) := i_addk rfl (by omega) (by omega) | have b26 := i_bd (l2 + (1 : Int32))
            exact IH _ (by omega) (l1) ((l2 + (1 : Int32))) rfl hI (by omega) (by omega) (by omega) (by omega) (show (l1).toInt = rFg (fun k => (aZ S 93 k).toInt) ((l2 + (1 : Int32))).toNatClampNeg from by first | (exact Fw_s hi4 (by omega) (by omega) (Or.inr ⟨by omega, rfl⟩)) | (exact Fw_s hi4 (by omega) (by omega) (Or.inl ⟨by omega, by omega, rfl⟩)))
          · skip
            have g27 := i_nle h23
            first | have e28 : (l2 + (1 : Int32)).toInt = l2.toInt + (1) := i_addk rfl (by omega) (by omega) | have b29 := i_bd (l2 + (1 : Int32))
            exact IH _ (by omega) (l2) ((l2 + (1 : Int32))) rfl hI (by omega) (by omega) (by omega) (by omega) (show (l2).toInt = rFg (fun k => (aZ S 93 k).toInt) ((l2 + (1 : Int32))).toNatClampNeg from by first | (exact Fw_s hi4 (by omega) (by omega) (Or.inr ⟨by omega, rfl⟩)) | (exact Fw_s hi4 (by omega) (by omega) (Or.inl ⟨by omega, by omega, rfl⟩)))
theorem sp_48_91_sz {X : Nat × (Nat → Int32)} {d w : Nat} {f : Nat → Nat → Int32} {r : Nat → Nat → Option Nat} {C Z N : Nat} {Q : Option ma_V ⊕ Nat → ma_S → Prop} {S : ma_S}  (hd : 0 ≤ d) (hw : 0 ≤ w) (hI : zL91 f r C Z N S)  (K : ∀ v S₉, S₉ = S → (-1 ≤ v.toInt ∧ v.toInt ≤ 92) → (v.toInt = rFw (aZ S)) → Q (.inl (some (.inl v))) S₉) : ma_wp X d w 48 0 [(0, .inr (.inr (some 91)))] [] S Q := by
  refine g_48_91_sz_0  (by omega) (by omega) (zG_T hI) ?_
  have li1 : (-1 : Int32).toInt = -1 := rfl
  have li2 : (0 : Int32).toInt = 0 := rfl
  exact lp_48_91_sz_4 (by omega) (by omega) K _ ((-1 : Int32)) ((0 : Int32)) rfl hI (by omega) (by omega) (by omega) (by omega) (show ((-1 : Int32)).toInt = rFg (fun k => (aZ S 93 k).toInt) ((0 : Int32)).toNatClampNeg from by first | (exact rfl))

