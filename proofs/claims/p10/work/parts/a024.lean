/-! from 95.h40 -/
/-! the reference by numbers (written by wip/tools/gen18r.py) -/
set_option maxHeartbeats 8000000 in
theorem lp_183r_142 {X : Nat × (Nat → Int32)} {P : Option ma_V → (Nat → Nat → Int32) → Prop} {T : Nat} {aa : Nat→Nat→Int32} {LL : Int64} {kk : Int32} {nn : Int32} {r1 : Int32} {m0 : Nat → Nat → Int32} (h0 : zV m0) (K : ∀ v m₉, zF wr_183 m0 m₉ → zV m₉ → (zW (m₉ 94 7) (m₉ 98) (m₉ 101) (m₉ 102) (m₉ 108)) → (zGW (T + 1) (m₉ 94 55) (m₉ 109)) → (zGU (T + 1) (m₉ 94 46) (m₉ 99)) → (zOw (m₉ 99) (m₉ 103) (m₉ 111)) → (zGG (m₉ 94 58) (m₉ 94 56) (m₉ 94 57) (m₉ 106)) → (qRB (m₉ 99) (m₉ 100) (m₉ 98) (m₉ 101) (m₉ 102) (m₉ 103) (m₉ 107) (m₉ 108) (m₉ 109) (m₉ 111) (m₉ 112) (m₉ 113) (m₉ 114) (m₉ 94 55) (m₉ 94 46) (m₉ 94 11) (m₉ 94 12) (m₉ 94 62) (m₉ 94 17) (m₉ 94 9) (aMk aa kk nn LL r1)) → (qI (aMk aa kk nn LL r1)) → (qMG (m₉ 94 58) (m₉ 106) (m₉ 115) (m₉ 94 57) (m₉ 94 56) (m₉ 99) (m₉ 100) (aMk aa kk nn LL r1)) → ((aMk aa kk nn LL r1) 87 8 = (m₉ 94 58)) → ((m₉ 94 45).toInt = sm (zbU (m₉ 99)) (m₉ 102) 3100) → (v = aMn aa nn) → P (some (.inl v)) m₉) : ∀ (n : Nat) (m : Nat → Nat → Int32) (l2 : Int32) (l3 : Int32) (l4 : Int32) (l5 : Int32) (l6 : Int32), (61 - l6.toInt).toNat = n → zF wr_183 m0 m → zV m → (l2.toInt = nn.toInt) → (0 ≤ l2.toInt) → (l2.toInt ≤ 60) → (0 ≤ l3.toInt) → (l3.toInt ≤ 15) → (0 ≤ l4.toInt) → (l4.toInt ≤ 1500) → (0 ≤ l5.toInt) → (l5.toInt ≤ 3099) → (T + 1 ≤ 512) → (0 ≤ l6.toInt) → ((m 94 10).toInt = 5) → ((m 94 8).toInt = 1) → ((m 94 46).toInt ≤ 511) → (l2 = nn) → (l3 = r1) → (qEq l4.toInt (aRp aa (nn + (1 : Int32)).toInt)) → ((m 102 l5.toNatClampNeg).toInt = l2.toInt) → ((m 99) l5.toNatClampNeg ≠ 0) → (zGUp T (m 94 46) (m 99)) → (zOw (m 99) (m 103) (m 111)) → (zGG (m 94 58) (m 94 56) (m 94 57) (m 106)) → (qI (aRs aa (nn + (1 : Int32)).toInt)) → (qNs (m 99) (m 100) (m 98) (m 101) (m 102) (m 103) (m 107) (m 108) (m 109) (m 111) (m 112) (m 113) (m 114) (m 94 55) (m 94 46) (m 94 11) (m 94 12) (m 94 62) (m 94 17) (m 94 9) (aRs aa (nn + (1 : Int32)).toInt) l5.toNatClampNeg (m 94 46) kk nn l4) → (qMG (m 94 58) (m 106) (m 115) (m 94 57) (m 94 56) (zmk (m 99) l5.toNatClampNeg) (m 100) (aRs aa (nn + (1 : Int32)).toInt)) → ((aRs aa (nn + (1 : Int32)).toInt) 87 8 = (m 94 58)) → ((m 94 45).toInt = sm (zbU (zmk (m 99) l5.toNatClampNeg)) (m 102) 3100) → (∀ j : Nat, (j : Int) < nn.toInt → (zbit LL (Int32.ofNat j) ≠ 0 ↔ (kk = 16 ∨ (kk < 16 ∧ (((m 98) kk.toNatClampNeg >>> (Int32.ofNat j &&& 31)) &&& 1) = 1)))) → ((aa 69 6).toInt < 512) → (zWn (m 94 7) (m 98) (m 101) (m 102) (m 108) l5.toNatClampNeg l6.toNatClampNeg) → (zGW (T + 1) (m 94 55) (m 109)) → (qCo (m 94 58) (m 106) l5.toNatClampNeg) → ((m 107) l5.toNatClampNeg = 0) → ((m 109) l5.toNatClampNeg = 0) → zm X 9 198 183 142 [(0, .inr (.inr (some 94))), (2, .inl l2), (3, .inl l3), (4, .inl l4), (5, .inl l5), (6, .inl l6)] m P := by
  intro n
  induction n using Nat.strongRecOn with
  | _ n IH =>
    intro m l2 l3 l4 l5 l6 hmu hF hV hi0 hi1 hi2 hi3 hi4 hi5 hi6 hi7 hi8 hi9 hi10 hi11 hi12 hi13 r_L2n r_L3r r_PLq hi17 r_USn r_GUp r_OW r_GG r_QIb r_NS r_MGz r_MKb r_WTz r_BTS r_N6 r_WN r_GW r_COs r_HOs r_WIs
    refine g_183_142 l2 l3 l4 l5 l6 ?_
    have f1 : 0 ≤ (m 94 10).toInt ∧ (m 94 10).toInt ≤ 6 := rs_94_10 (m := m) hV
    have f2 : 0 ≤ (m 94 8).toInt ∧ (m 94 8).toInt ≤ 1 := rs_94_8 (m := m) hV
    have f3 : 0 ≤ (m 94 46).toInt ∧ (m 94 46).toInt ≤ 100000 := rs_94_46 (m := m) hV
    have b4 := i_bd l5
    first | have f5 : 0 ≤ (m 102 l5.toNatClampNeg).toInt ∧ (m 102 l5.toNatClampNeg).toInt ≤ 60 := ra_102 (m := m) hV (k := l5.toNatClampNeg) (i_ix (n := 3100) (by omega) (by omega)).2 | have b6 := i_bd (m 102 l5.toNatClampNeg)
    have b7 := i_bd l2
    have b8 := i_bd l6
    refine zd (fun (h9 : l2 ≤ l6) => ?_) (fun (h9 : ¬ l2 ≤ l6) => ?_)
    · skip
      have g10 := i_le h9
      have b11 := i_bd l3
      first | have e13 : ((m 94 46) + (1 : Int32)).toInt = (m 94 46).toInt + (1) := i_addk rfl (by omega) (by omega) | have b14 := i_bd ((m 94 46) + (1 : Int32))
      have hV12 : zV (ma_u m 94 46 ((m 94 46) + (1 : Int32))) := us_94_46 hV (by omega) (by omega)
      have hV15 : zV (ma_u (ma_u m 94 46 ((m 94 46) + (1 : Int32))) 94 44 ((m 94 44) + (1 : Int32))) := uf_94_44 hV12
      have hV16 : zV (ma_u (ma_u (ma_u m 94 46 ((m 94 46) + (1 : Int32))) 94 44 ((m 94 44) + (1 : Int32))) 94 45 ((m 94 45) + (l2 + (1 : Int32)))) := uf_94_45 hV15
      have b18 := i_bd l4
      first | have e19 : (l4 + l2).toInt = l4.toInt + l2.toInt := i_add (by omega) (by omega) | have b20 := i_bd (l4 + l2)
      first | have e21 : ((l4 + l2) + (1 : Int32)).toInt = (l4 + l2).toInt + (1) := i_addk rfl (by omega) (by omega) | have b22 := i_bd ((l4 + l2) + (1 : Int32))
      have hV17 : zV (ma_u (ma_u (ma_u (ma_u m 94 46 ((m 94 46) + (1 : Int32))) 94 44 ((m 94 44) + (1 : Int32))) 94 45 ((m 94 45) + (l2 + (1 : Int32)))) 94 62 ((l4 + l2) + (1 : Int32))) := us_94_62 hV16 (by omega) (by omega)
      refine sp_238r (T := (T + 1)) (aa := (aMd (aAd (aRs aa (nn + (1 : Int32)).toInt) (m 94 46) (zFn (m 94 46) kk (nn + (1 : Int32)) l4) LL) (m 94 46))) (l3) (l5) hV17 (by omega) (by omega) (by omega) (by omega) (show (m 94 10).toInt = 5 from by omega) (show zW (m 94 7) (m 98) (m 101) (m 102) (m 108) from by first | (exact Wn_end r_WN (by rw [tn_cast (x := l6) (by omega)]; omega)) | (exfalso; omega; done) | (exfalso; contradiction; done)) r_GW (show zGU (T + 1) ((m 94 46) + (1 : Int32)) (m 99) from by first | (exact GUp_end r_GUp (by omega)) | (exfalso; omega; done) | (exfalso; contradiction; done)) r_OW r_GG (show qRB (m 99) (m 100) (m 98) (m 101) (m 102) (m 103) (m 107) (m 108) (m 109) (m 111) (m 112) (m 113) (m 114) (m 94 55) ((m 94 46) + (1 : Int32)) (m 94 11) (m 94 12) ((l4 + l2) + (1 : Int32)) (m 94 17) (m 94 9) (aMd (aAd (aRs aa (nn + (1 : Int32)).toInt) (m 94 46) (zFn (m 94 46) kk (nn + (1 : Int32)) l4) LL) (m 94 46)) from by first | (exact RB_ns r_NS (Ne_of r_QIb r_PLq (by omega) (by omega) (by omega) r_NS.1.2.2.2.2.2.2.2.1 (by omega)) (Ad_of (b := (aRs aa (nn + (1 : Int32)).toInt)) (y := (m 94 46)) (kk := kk) (w := nn) (pl := l4) (L := LL) (by omega) (by omega) (by omega) (by omega) (by omega)) (tn_lt (by omega) (by omega)) r_HOs r_WIs (fun j hj => r_WN.2.1 j (by have := tn_cast (x := l6) (by omega); omega)) (fun j hj => (r_BTS j hj).trans (by unfold qIr; rw [r_NS.2.2.2.1])) rfl (by rw [r_L2n, Int32.add_assoc])) | (exfalso; omega; done) | (exfalso; contradiction; done)) (show qI (aMd (aAd (aRs aa (nn + (1 : Int32)).toInt) (m 94 46) (zFn (m 94 46) kk (nn + (1 : Int32)) l4) LL) (m 94 46)) from by first | (exact I_ad (Ne_of r_QIb r_PLq (by omega) (by omega) (by omega) r_NS.1.2.2.2.2.2.2.2.1 (by omega)) (Ad_of (b := (aRs aa (nn + (1 : Int32)).toInt)) (y := (m 94 46)) (kk := kk) (w := nn) (pl := l4) (L := LL) (by omega) (by omega) (by omega) (by omega) (by omega))) | (exfalso; omega; done) | (exfalso; contradiction; done)) (show qMG (m 94 58) (m 106) (m 115) (m 94 57) (m 94 56) (m 99) (m 100) (aMd (aAd (aRs aa (nn + (1 : Int32)).toInt) (m 94 46) (zFn (m 94 46) kk (nn + (1 : Int32)) l4) LL) (m 94 46)) from by first | (exact MG_ad r_NS (Ne_of r_QIb r_PLq (by omega) (by omega) (by omega) r_NS.1.2.2.2.2.2.2.2.1 (by omega)) (Ad_of (b := (aRs aa (nn + (1 : Int32)).toInt)) (y := (m 94 46)) (kk := kk) (w := nn) (pl := l4) (L := LL) (by omega) (by omega) (by omega) (by omega) (by omega)) A7_of r_MKb r_MGz r_COs) | (exfalso; omega; done) | (exfalso; contradiction; done)) (show (aMd (aAd (aRs aa (nn + (1 : Int32)).toInt) (m 94 46) (zFn (m 94 46) kk (nn + (1 : Int32)) l4) LL) (m 94 46)) 87 8 = (m 94 58) from by first | (exact ((Ad_of (b := (aRs aa (nn + (1 : Int32)).toInt)) (y := (m 94 46)) (kk := kk) (w := nn) (pl := l4) (L := LL) (by omega) (by omega) (by omega) (by omega) (by omega)).2.2.2.2.2.2.1 8 (by decide)).trans r_MKb) | (exfalso; omega; done) | (exfalso; contradiction; done)) (show ((m 94 45) + (l2 + (1 : Int32))).toInt = sm (zbU (m 99)) (m 102) 3100 from by first | (have q := WT_ad r_WTz (tn_lt (by omega) (by omega)) r_USn (fun t ht => ra_102 hV ht); rw [r_NS.2.2.2.2.1, ← r_L2n] at q; exact q; done) | (exfalso; omega; done) | (exfalso; contradiction; done)) (show qU (m 99) l5 from by first | (exact Or.inr ⟨by omega, r_USn⟩) | (assumption; done) | (exact ow5.1) | (exact ow3.1) | (exfalso; omega; done) | (exfalso; contradiction; done)) (show qMS (m 94 58) (aMd (aAd (aRs aa (nn + (1 : Int32)).toInt) (m 94 46) (zFn (m 94 46) kk (nn + (1 : Int32)) l4) LL) (m 94 46)) (qNo (m 100) l5) from by first | (rw [No_y (by omega), r_NS.2.2.1]; exact MS_ad (Ne_of r_QIb r_PLq (by omega) (by omega) (by omega) r_NS.1.2.2.2.2.2.2.2.1 (by omega)) A7_of r_MKb; done) | (exfalso; omega; done) | (exfalso; contradiction; done)) (fun m1 hV_m1 p0_m1 p1_m1 p2_m1 p3_m1 p4_m1 p5_m1 p6_m1 p7_m1 p8_m1 => zmv_n ?_)
      have p0_m1 : zGW (T + 1) (m1 94 55) (m1 109) := p0_m1
      have p1_m1 : zGU (T + 1) ((m 94 46) + (1 : Int32)) (m1 99) := p1_m1
      have p2_m1 : zOw (m1 99) (m 103) (m1 111) := p2_m1
      have p3_m1 : zGG (m 94 58) (m1 94 56) (m 94 57) (m1 106) := p3_m1
      have p4_m1 : qRB (m1 99) (m 100) (m 98) (m 101) (m 102) (m 103) (m 107) (m 108) (m1 109) (m1 111) (m1 112) (m1 113) (m1 114) (m1 94 55) ((m 94 46) + (1 : Int32)) (m 94 11) (m 94 12) ((l4 + l2) + (1 : Int32)) (m 94 17) (m 94 9) (aRt (aMd (aAd (aRs aa (nn + (1 : Int32)).toInt) (m 94 46) (zFn (m 94 46) kk (nn + (1 : Int32)) l4) LL) (m 94 46)) l3 (qNo (m 100) l5)) := p4_m1
      have p5_m1 : qI (aRt (aMd (aAd (aRs aa (nn + (1 : Int32)).toInt) (m 94 46) (zFn (m 94 46) kk (nn + (1 : Int32)) l4) LL) (m 94 46)) l3 (qNo (m 100) l5)) := p5_m1
      have p6_m1 : qMG (m 94 58) (m1 106) (m1 115) (m 94 57) (m1 94 56) (m1 99) (m 100) (aRt (aMd (aAd (aRs aa (nn + (1 : Int32)).toInt) (m 94 46) (zFn (m 94 46) kk (nn + (1 : Int32)) l4) LL) (m 94 46)) l3 (qNo (m 100) l5)) := p6_m1
      have p7_m1 : (aRt (aMd (aAd (aRs aa (nn + (1 : Int32)).toInt) (m 94 46) (zFn (m 94 46) kk (nn + (1 : Int32)) l4) LL) (m 94 46)) l3 (qNo (m 100) l5)) 87 8 = (m 94 58) := p7_m1
      have p8_m1 : (m1 94 45).toInt = sm (zbU (m1 99)) (m 102) 3100 := p8_m1
      have hg23 : (0 ≤ l5 ∧ l5.toNatClampNeg < 3100) := i_ix (by omega) (by omega)
      refine ⟨hg23, ?_⟩
      try have e21 : (l2 + (1 : Int32)).toInt = l2.toInt + 1 := i_addk rfl (by omega) (by omega)
      try have gun := GU_nu p1_m1
      first | have f24 : 0 ≤ (m 100 l5.toNatClampNeg).toInt ∧ (m 100 l5.toNatClampNeg).toInt ≤ 100000 := ra_100 (m := m) hV (k := l5.toNatClampNeg) (i_ix (n := 3100) (by omega) (by omega)).2 | have b25 := i_bd (m 100 l5.toNatClampNeg)
      exact K ((m 100 l5.toNatClampNeg)) _ (zF_zov (zF_u (zF_u (zF_u (zF_u hF rfl) rfl) rfl) rfl) ws_238_183) hV_m1 (show zW (m 94 7) (m 98) (m 101) (m 102) (m 108) from by first | (exact Wn_end r_WN (by rw [tn_cast (x := l6) (by omega)]; omega)) | (exfalso; omega; done) | (exfalso; contradiction; done)) p0_m1 p1_m1 p2_m1 p3_m1 (show qRB (m1 99) (m 100) (m 98) (m 101) (m 102) (m 103) (m 107) (m 108) (m1 109) (m1 111) (m1 112) (m1 113) (m1 114) (m1 94 55) ((m 94 46) + (1 : Int32)) (m 94 11) (m 94 12) ((l4 + l2) + (1 : Int32)) (m 94 17) (m 94 9) (aMk aa kk nn LL r1) from by first | (have e := p4_m1; rw [No_y (by omega), r_NS.2.2.1, r_L3r] at e; rw [(aMk_2 (a := aa) (b := (aRs aa (nn + (1 : Int32)).toInt)) (kd := kk) (wd := nn) (rt := r1) (L := LL) (pl := l4) (y := (m 94 46)) r_N6 rfl (qE r_PLq) (by omega) r_NS.1.2.2.2.2.2.2.2.1.symm).1]; exact e; done) | (exfalso; omega; done) | (exfalso; contradiction; done)) (show qI (aMk aa kk nn LL r1) from by first | (have e := p5_m1; rw [No_y (by omega), r_NS.2.2.1, r_L3r] at e; rw [(aMk_2 (a := aa) (b := (aRs aa (nn + (1 : Int32)).toInt)) (kd := kk) (wd := nn) (rt := r1) (L := LL) (pl := l4) (y := (m 94 46)) r_N6 rfl (qE r_PLq) (by omega) r_NS.1.2.2.2.2.2.2.2.1.symm).1]; exact e; done) | (exfalso; omega; done) | (exfalso; contradiction; done)) (show qMG (m 94 58) (m1 106) (m1 115) (m 94 57) (m1 94 56) (m1 99) (m 100) (aMk aa kk nn LL r1) from by first | (have e := p6_m1; rw [No_y (by omega), r_NS.2.2.1, r_L3r] at e; rw [(aMk_2 (a := aa) (b := (aRs aa (nn + (1 : Int32)).toInt)) (kd := kk) (wd := nn) (rt := r1) (L := LL) (pl := l4) (y := (m 94 46)) r_N6 rfl (qE r_PLq) (by omega) r_NS.1.2.2.2.2.2.2.2.1.symm).1]; exact e; done) | (exfalso; omega; done) | (exfalso; contradiction; done)) (show (aMk aa kk nn LL r1) 87 8 = (m 94 58) from by first | (have e := p7_m1; rw [No_y (by omega), r_NS.2.2.1, r_L3r] at e; rw [(aMk_2 (a := aa) (b := (aRs aa (nn + (1 : Int32)).toInt)) (kd := kk) (wd := nn) (rt := r1) (L := LL) (pl := l4) (y := (m 94 46)) r_N6 rfl (qE r_PLq) (by omega) r_NS.1.2.2.2.2.2.2.2.1.symm).1]; exact e; done) | (exfalso; omega; done) | (exfalso; contradiction; done)) p8_m1 (show (m 100 l5.toNatClampNeg) = aMn aa nn from by first | (rw [r_NS.2.2.1]; exact (aMk_2 (a := aa) (b := (aRs aa (nn + (1 : Int32)).toInt)) (kd := kk) (wd := nn) (rt := r1) (L := LL) (pl := l4) (y := (m 94 46)) r_N6 rfl (qE r_PLq) (by omega) r_NS.1.2.2.2.2.2.2.2.1.symm).2.symm; done) | (exfalso; omega; done) | (exfalso; contradiction; done))
    · skip
      have g26 := i_nle h9
      have hg27 : (0 ≤ l5 ∧ l5.toNatClampNeg < 3100) := i_ix (by omega) (by omega)
      refine ⟨hg27, ?_⟩
      first | have f28 : 0 ≤ (m 101 l5.toNatClampNeg).toInt ∧ (m 101 l5.toNatClampNeg).toInt ≤ 17 := ra_101 (m := m) hV (k := l5.toNatClampNeg) (i_ix (n := 3100) (by omega) (by omega)).2 | have b29 := i_bd (m 101 l5.toNatClampNeg)
      have li30 : (16 : Int32).toInt = 16 := rfl
      refine zd (fun (h31 : (m 101 l5.toNatClampNeg) = (16 : Int32)) => ?_) (fun (h31 : ¬ (m 101 l5.toNatClampNeg) = (16 : Int32)) => ?_)
      · skip
        have g32 := i_eq h31
        have li33 : (60 : Int32).toInt = 60 := rfl
        first | have e34 : (l5 * (60 : Int32)).toInt = l5.toInt * 60 := i_mulk rfl (by omega) (by omega) | have b35 := i_bd (l5 * (60 : Int32))
        first | have e36 : ((l5 * (60 : Int32)) + l6).toInt = (l5 * (60 : Int32)).toInt + l6.toInt := i_add (by omega) (by omega) | have b37 := i_bd ((l5 * (60 : Int32)) + l6)
        have hg38 : (0 ≤ ((l5 * (60 : Int32)) + l6) ∧ ((l5 * (60 : Int32)) + l6).toNatClampNeg < 186000) := i_ix (by omega) (by omega)
        refine ⟨hg38, ?_⟩
        try have e21 : (l2 + (1 : Int32)).toInt = l2.toInt + 1 := i_addk rfl (by omega) (by omega)
        have hV39 : zV (ma_u m 108 ((l5 * (60 : Int32)) + l6).toNatClampNeg (-1 : Int32)) := ua_108 hV
        have b40 := i_bd l3
        have b41 := i_bd l4
        first | have e42 : (l6 + (1 : Int32)).toInt = l6.toInt + (1) := i_addk rfl (by omega) (by omega) | have b43 := i_bd (l6 + (1 : Int32))
        exact IH (61 - (l6 + (1 : Int32)).toInt).toNat (by omega) _ (l2) (l3) (l4) (l5) ((l6 + (1 : Int32))) rfl (zF_u hF rfl) hV39 (by omega) (by omega) (by omega) (by omega) (by omega) (by omega) (by omega) (by omega) (by omega) (by omega) (by omega) (show (m 94 10).toInt = 5 from by omega) (show (m 94 8).toInt = 1 from by omega) (show (m 94 46).toInt ≤ 511 from by omega) r_L2n r_L3r r_PLq (show (m 102 l5.toNatClampNeg).toInt = l2.toInt from by omega) r_USn r_GUp r_OW r_GG r_QIb (show qNs (m 99) (m 100) (m 98) (m 101) (m 102) (m 103) (m 107) ((ma_u m 108 ((l5 * (60 : Int32)) + l6).toNatClampNeg (-1 : Int32)) 108) (m 109) (m 111) (m 112) (m 113) (m 114) (m 94 55) (m 94 46) (m 94 11) (m 94 12) (m 94 62) (m 94 17) (m 94 9) (aRs aa (nn + (1 : Int32)).toInt) l5.toNatClampNeg (m 94 46) kk nn l4 from by first | (exact NS_h r_NS (fun _ _ => rfl) (fun _ _ => rfl) (fun t ht hne i hi => (zrf_oth (ix_word (by omega) (by omega) (by omega) (by omega)) (by rw [tn_eq]; omega) (fun t ht => (ra_102 hV ht).2)) t i hne ht hi)) | (exfalso; omega; done) | (exfalso; contradiction; done)) r_MGz r_MKb r_WTz r_BTS r_N6 (show zWn (m 94 7) (m 98) (m 101) (m 102) ((ma_u m 108 ((l5 * (60 : Int32)) + l6).toNatClampNeg (-1 : Int32)) 108) l5.toNatClampNeg (l6 + (1 : Int32)).toNatClampNeg from by first | (exact Wn_put r_WN (zrf_oth (ix_word (by omega) (by omega) (by omega) (by omega)) (by rw [tn_eq]; omega) (fun t ht => (ra_102 hV ht).2)) (zrf_bef (ix_word (by omega) (by omega) (by omega) (by omega))) (zrf_m1 (ix_word (by omega) (by omega) (by omega) (by omega)) rfl) (tn_succ (by omega) (by omega))) | (exact Wn_put r_WN (zrf_oth (ix_word (by omega) (by omega) (by omega) (by omega)) (by rw [tn_eq]; omega) (fun t ht => (ra_102 hV ht).2)) (zrf_bef (ix_word (by omega) (by omega) (by omega) (by omega))) (zrf_nr rfl (by omega) (by assumption) (fun z => by first | exact absurd (Int32.lt_iff_toInt_lt.mp z.1) (by omega) | exact absurd z.2 (by assumption))) (tn_succ (by omega) (by omega))) | (exfalso; omega; done) | (exfalso; contradiction; done)) r_GW r_COs r_HOs r_WIs
      · skip
        have g44 := i_ne h31
        have hg45 : (0 ≤ l5 ∧ l5.toNatClampNeg < 3100) := i_ix (by omega) (by omega)
        refine ⟨hg45, ?_⟩
        refine zd (fun (h46 : (16 : Int32) ≤ (m 101 l5.toNatClampNeg)) => ?_) (fun (h46 : ¬ (16 : Int32) ≤ (m 101 l5.toNatClampNeg)) => ?_)
        · skip
          have g47 := i_le h46
          have li48 : (60 : Int32).toInt = 60 := rfl
          first | have e49 : (l5 * (60 : Int32)).toInt = l5.toInt * 60 := i_mulk rfl (by omega) (by omega) | have b50 := i_bd (l5 * (60 : Int32))
          first | have e51 : ((l5 * (60 : Int32)) + l6).toInt = (l5 * (60 : Int32)).toInt + l6.toInt := i_add (by omega) (by omega) | have b52 := i_bd ((l5 * (60 : Int32)) + l6)
          have hg53 : (0 ≤ ((l5 * (60 : Int32)) + l6) ∧ ((l5 * (60 : Int32)) + l6).toNatClampNeg < 186000) := i_ix (by omega) (by omega)
          refine ⟨hg53, ?_⟩
          try have e21 : (l2 + (1 : Int32)).toInt = l2.toInt + 1 := i_addk rfl (by omega) (by omega)
          have hV54 : zV (ma_u m 108 ((l5 * (60 : Int32)) + l6).toNatClampNeg (0 : Int32)) := ua_108 hV
          have b55 := i_bd l3
          have b56 := i_bd l4
          first | have e57 : (l6 + (1 : Int32)).toInt = l6.toInt + (1) := i_addk rfl (by omega) (by omega) | have b58 := i_bd (l6 + (1 : Int32))
          exact IH (61 - (l6 + (1 : Int32)).toInt).toNat (by omega) _ (l2) (l3) (l4) (l5) ((l6 + (1 : Int32))) rfl (zF_u hF rfl) hV54 (by omega) (by omega) (by omega) (by omega) (by omega) (by omega) (by omega) (by omega) (by omega) (by omega) (by omega) (show (m 94 10).toInt = 5 from by omega) (show (m 94 8).toInt = 1 from by omega) (show (m 94 46).toInt ≤ 511 from by omega) r_L2n r_L3r r_PLq (show (m 102 l5.toNatClampNeg).toInt = l2.toInt from by omega) r_USn r_GUp r_OW r_GG r_QIb (show qNs (m 99) (m 100) (m 98) (m 101) (m 102) (m 103) (m 107) ((ma_u m 108 ((l5 * (60 : Int32)) + l6).toNatClampNeg (0 : Int32)) 108) (m 109) (m 111) (m 112) (m 113) (m 114) (m 94 55) (m 94 46) (m 94 11) (m 94 12) (m 94 62) (m 94 17) (m 94 9) (aRs aa (nn + (1 : Int32)).toInt) l5.toNatClampNeg (m 94 46) kk nn l4 from by first | (exact NS_h r_NS (fun _ _ => rfl) (fun _ _ => rfl) (fun t ht hne i hi => (zrf_oth (ix_word (by omega) (by omega) (by omega) (by omega)) (by rw [tn_eq]; omega) (fun t ht => (ra_102 hV ht).2)) t i hne ht hi)) | (exfalso; omega; done) | (exfalso; contradiction; done)) r_MGz r_MKb r_WTz r_BTS r_N6 (show zWn (m 94 7) (m 98) (m 101) (m 102) ((ma_u m 108 ((l5 * (60 : Int32)) + l6).toNatClampNeg (0 : Int32)) 108) l5.toNatClampNeg (l6 + (1 : Int32)).toNatClampNeg from by first | (exact Wn_put r_WN (zrf_oth (ix_word (by omega) (by omega) (by omega) (by omega)) (by rw [tn_eq]; omega) (fun t ht => (ra_102 hV ht).2)) (zrf_bef (ix_word (by omega) (by omega) (by omega) (by omega))) (zrf_m1 (ix_word (by omega) (by omega) (by omega) (by omega)) rfl) (tn_succ (by omega) (by omega))) | (exact Wn_put r_WN (zrf_oth (ix_word (by omega) (by omega) (by omega) (by omega)) (by rw [tn_eq]; omega) (fun t ht => (ra_102 hV ht).2)) (zrf_bef (ix_word (by omega) (by omega) (by omega) (by omega))) (zrf_nr rfl (by omega) (by assumption) (fun z => by first | exact absurd (Int32.lt_iff_toInt_lt.mp z.1) (by omega) | exact absurd z.2 (by assumption))) (tn_succ (by omega) (by omega))) | (exfalso; omega; done) | (exfalso; contradiction; done)) r_GW r_COs r_HOs r_WIs
        · skip
          have g59 := i_nle h46
          have hg60 : (0 ≤ l5 ∧ l5.toNatClampNeg < 3100) := i_ix (by omega) (by omega)
          refine ⟨hg60, ?_⟩
          have hg61 : (0 ≤ (m 101 l5.toNatClampNeg) ∧ (m 101 l5.toNatClampNeg).toNatClampNeg < 16) := i_ix (by omega) (by omega)
          refine ⟨hg61, ?_⟩
          have b62 := i_bd (((m 98 (m 101 l5.toNatClampNeg).toNatClampNeg) >>> (l6 &&& 31)) &&& (1 : Int32))
          have li63 : (1 : Int32).toInt = 1 := rfl
          refine zd (fun (h64 : (((m 98 (m 101 l5.toNatClampNeg).toNatClampNeg) >>> (l6 &&& 31)) &&& (1 : Int32)) = (1 : Int32)) => ?_) (fun (h64 : ¬ (((m 98 (m 101 l5.toNatClampNeg).toNatClampNeg) >>> (l6 &&& 31)) &&& (1 : Int32)) = (1 : Int32)) => ?_)
          · skip
            have g65 := i_eq h64
            have li66 : (60 : Int32).toInt = 60 := rfl
            first | have e67 : (l5 * (60 : Int32)).toInt = l5.toInt * 60 := i_mulk rfl (by omega) (by omega) | have b68 := i_bd (l5 * (60 : Int32))
            first | have e69 : ((l5 * (60 : Int32)) + l6).toInt = (l5 * (60 : Int32)).toInt + l6.toInt := i_add (by omega) (by omega) | have b70 := i_bd ((l5 * (60 : Int32)) + l6)
            have hg71 : (0 ≤ ((l5 * (60 : Int32)) + l6) ∧ ((l5 * (60 : Int32)) + l6).toNatClampNeg < 186000) := i_ix (by omega) (by omega)
            refine ⟨hg71, ?_⟩
            try have e21 : (l2 + (1 : Int32)).toInt = l2.toInt + 1 := i_addk rfl (by omega) (by omega)
            have hV72 : zV (ma_u m 108 ((l5 * (60 : Int32)) + l6).toNatClampNeg (-1 : Int32)) := ua_108 hV
            have b73 := i_bd l3
            have b74 := i_bd l4
            first | have e75 : (l6 + (1 : Int32)).toInt = l6.toInt + (1) := i_addk rfl (by omega) (by omega) | have b76 := i_bd (l6 + (1 : Int32))
            exact IH (61 - (l6 + (1 : Int32)).toInt).toNat (by omega) _ (l2) (l3) (l4) (l5) ((l6 + (1 : Int32))) rfl (zF_u hF rfl) hV72 (by omega) (by omega) (by omega) (by omega) (by omega) (by omega) (by omega) (by omega) (by omega) (by omega) (by omega) (show (m 94 10).toInt = 5 from by omega) (show (m 94 8).toInt = 1 from by omega) (show (m 94 46).toInt ≤ 511 from by omega) r_L2n r_L3r r_PLq (show (m 102 l5.toNatClampNeg).toInt = l2.toInt from by omega) r_USn r_GUp r_OW r_GG r_QIb (show qNs (m 99) (m 100) (m 98) (m 101) (m 102) (m 103) (m 107) ((ma_u m 108 ((l5 * (60 : Int32)) + l6).toNatClampNeg (-1 : Int32)) 108) (m 109) (m 111) (m 112) (m 113) (m 114) (m 94 55) (m 94 46) (m 94 11) (m 94 12) (m 94 62) (m 94 17) (m 94 9) (aRs aa (nn + (1 : Int32)).toInt) l5.toNatClampNeg (m 94 46) kk nn l4 from by first | (exact NS_h r_NS (fun _ _ => rfl) (fun _ _ => rfl) (fun t ht hne i hi => (zrf_oth (ix_word (by omega) (by omega) (by omega) (by omega)) (by rw [tn_eq]; omega) (fun t ht => (ra_102 hV ht).2)) t i hne ht hi)) | (exfalso; omega; done) | (exfalso; contradiction; done)) r_MGz r_MKb r_WTz r_BTS r_N6 (show zWn (m 94 7) (m 98) (m 101) (m 102) ((ma_u m 108 ((l5 * (60 : Int32)) + l6).toNatClampNeg (-1 : Int32)) 108) l5.toNatClampNeg (l6 + (1 : Int32)).toNatClampNeg from by first | (exact Wn_put r_WN (zrf_oth (ix_word (by omega) (by omega) (by omega) (by omega)) (by rw [tn_eq]; omega) (fun t ht => (ra_102 hV ht).2)) (zrf_bef (ix_word (by omega) (by omega) (by omega) (by omega))) (zrf_m1 (ix_word (by omega) (by omega) (by omega) (by omega)) rfl) (tn_succ (by omega) (by omega))) | (exact Wn_put r_WN (zrf_oth (ix_word (by omega) (by omega) (by omega) (by omega)) (by rw [tn_eq]; omega) (fun t ht => (ra_102 hV ht).2)) (zrf_bef (ix_word (by omega) (by omega) (by omega) (by omega))) (zrf_nr rfl (by omega) (by assumption) (fun z => by first | exact absurd (Int32.lt_iff_toInt_lt.mp z.1) (by omega) | exact absurd z.2 (by assumption))) (tn_succ (by omega) (by omega))) | (exfalso; omega; done) | (exfalso; contradiction; done)) r_GW r_COs r_HOs r_WIs
          · skip
            have g77 := i_ne h64
            have li78 : (60 : Int32).toInt = 60 := rfl
            first | have e79 : (l5 * (60 : Int32)).toInt = l5.toInt * 60 := i_mulk rfl (by omega) (by omega) | have b80 := i_bd (l5 * (60 : Int32))
            first | have e81 : ((l5 * (60 : Int32)) + l6).toInt = (l5 * (60 : Int32)).toInt + l6.toInt := i_add (by omega) (by omega) | have b82 := i_bd ((l5 * (60 : Int32)) + l6)
            have hg83 : (0 ≤ ((l5 * (60 : Int32)) + l6) ∧ ((l5 * (60 : Int32)) + l6).toNatClampNeg < 186000) := i_ix (by omega) (by omega)
            refine ⟨hg83, ?_⟩
            try have e21 : (l2 + (1 : Int32)).toInt = l2.toInt + 1 := i_addk rfl (by omega) (by omega)
            have hV84 : zV (ma_u m 108 ((l5 * (60 : Int32)) + l6).toNatClampNeg (0 : Int32)) := ua_108 hV
            have b85 := i_bd l3
            have b86 := i_bd l4
            first | have e87 : (l6 + (1 : Int32)).toInt = l6.toInt + (1) := i_addk rfl (by omega) (by omega) | have b88 := i_bd (l6 + (1 : Int32))
            exact IH (61 - (l6 + (1 : Int32)).toInt).toNat (by omega) _ (l2) (l3) (l4) (l5) ((l6 + (1 : Int32))) rfl (zF_u hF rfl) hV84 (by omega) (by omega) (by omega) (by omega) (by omega) (by omega) (by omega) (by omega) (by omega) (by omega) (by omega) (show (m 94 10).toInt = 5 from by omega) (show (m 94 8).toInt = 1 from by omega) (show (m 94 46).toInt ≤ 511 from by omega) r_L2n r_L3r r_PLq (show (m 102 l5.toNatClampNeg).toInt = l2.toInt from by omega) r_USn r_GUp r_OW r_GG r_QIb (show qNs (m 99) (m 100) (m 98) (m 101) (m 102) (m 103) (m 107) ((ma_u m 108 ((l5 * (60 : Int32)) + l6).toNatClampNeg (0 : Int32)) 108) (m 109) (m 111) (m 112) (m 113) (m 114) (m 94 55) (m 94 46) (m 94 11) (m 94 12) (m 94 62) (m 94 17) (m 94 9) (aRs aa (nn + (1 : Int32)).toInt) l5.toNatClampNeg (m 94 46) kk nn l4 from by first | (exact NS_h r_NS (fun _ _ => rfl) (fun _ _ => rfl) (fun t ht hne i hi => (zrf_oth (ix_word (by omega) (by omega) (by omega) (by omega)) (by rw [tn_eq]; omega) (fun t ht => (ra_102 hV ht).2)) t i hne ht hi)) | (exfalso; omega; done) | (exfalso; contradiction; done)) r_MGz r_MKb r_WTz r_BTS r_N6 (show zWn (m 94 7) (m 98) (m 101) (m 102) ((ma_u m 108 ((l5 * (60 : Int32)) + l6).toNatClampNeg (0 : Int32)) 108) l5.toNatClampNeg (l6 + (1 : Int32)).toNatClampNeg from by first | (exact Wn_put r_WN (zrf_oth (ix_word (by omega) (by omega) (by omega) (by omega)) (by rw [tn_eq]; omega) (fun t ht => (ra_102 hV ht).2)) (zrf_bef (ix_word (by omega) (by omega) (by omega) (by omega))) (zrf_m1 (ix_word (by omega) (by omega) (by omega) (by omega)) rfl) (tn_succ (by omega) (by omega))) | (exact Wn_put r_WN (zrf_oth (ix_word (by omega) (by omega) (by omega) (by omega)) (by rw [tn_eq]; omega) (fun t ht => (ra_102 hV ht).2)) (zrf_bef (ix_word (by omega) (by omega) (by omega) (by omega))) (zrf_nr rfl (by omega) (by assumption) (fun z => by first | exact absurd (Int32.lt_iff_toInt_lt.mp z.1) (by omega) | exact absurd z.2 (by assumption))) (tn_succ (by omega) (by omega))) | (exfalso; omega; done) | (exfalso; contradiction; done)) r_GW r_COs r_HOs r_WIs
set_option maxHeartbeats 8000000 in
theorem lp_183r_123 {X : Nat × (Nat → Int32)} {P : Option ma_V → (Nat → Nat → Int32) → Prop} {T : Nat} {aa : Nat→Nat→Int32} {LL : Int64} {kk : Int32} {nn : Int32} {r1 : Int32} {m0 : Nat → Nat → Int32} (h0 : zV m0) (K : ∀ v m₉, zF wr_183 m0 m₉ → zV m₉ → (zW (m₉ 94 7) (m₉ 98) (m₉ 101) (m₉ 102) (m₉ 108)) → (zGW (T + 1) (m₉ 94 55) (m₉ 109)) → (zGU (T + 1) (m₉ 94 46) (m₉ 99)) → (zOw (m₉ 99) (m₉ 103) (m₉ 111)) → (zGG (m₉ 94 58) (m₉ 94 56) (m₉ 94 57) (m₉ 106)) → (qRB (m₉ 99) (m₉ 100) (m₉ 98) (m₉ 101) (m₉ 102) (m₉ 103) (m₉ 107) (m₉ 108) (m₉ 109) (m₉ 111) (m₉ 112) (m₉ 113) (m₉ 114) (m₉ 94 55) (m₉ 94 46) (m₉ 94 11) (m₉ 94 12) (m₉ 94 62) (m₉ 94 17) (m₉ 94 9) (aMk aa kk nn LL r1)) → (qI (aMk aa kk nn LL r1)) → (qMG (m₉ 94 58) (m₉ 106) (m₉ 115) (m₉ 94 57) (m₉ 94 56) (m₉ 99) (m₉ 100) (aMk aa kk nn LL r1)) → ((aMk aa kk nn LL r1) 87 8 = (m₉ 94 58)) → ((m₉ 94 45).toInt = sm (zbU (m₉ 99)) (m₉ 102) 3100) → (v = aMn aa nn) → P (some (.inl v)) m₉) : ∀ (n : Nat) (m : Nat → Nat → Int32) (l2 : Int32) (l3 : Int32) (l4 : Int32) (l5 : Int32), ((0 : Int)).toNat = n → zF wr_183 m0 m → zV m → (l2.toInt = nn.toInt) → (0 ≤ l2.toInt) → (l2.toInt ≤ 60) → (0 ≤ l3.toInt) → (l3.toInt ≤ 15) → (0 ≤ l4.toInt) → (l4.toInt ≤ 1500) → (0 ≤ l5.toInt) → (l5.toInt ≤ 3099) → (T + 1 ≤ 512) → ((m 94 10).toInt = 5) → ((m 94 8).toInt = 1) → ((m 94 46).toInt ≤ 511) → (l2 = nn) → (l3 = r1) → (qEq l4.toInt (aRp aa (nn + (1 : Int32)).toInt)) → ((m 102 l5.toNatClampNeg).toInt = l2.toInt) → ((m 99) l5.toNatClampNeg ≠ 0) → (zGUp T (m 94 46) (m 99)) → (zOw (m 99) (m 103) (m 111)) → (zGG (m 94 58) (m 94 56) (m 94 57) (m 106)) → (qI (aRs aa (nn + (1 : Int32)).toInt)) → (qNs (m 99) (m 100) (m 98) (m 101) (m 102) (m 103) (m 107) (m 108) (m 109) (m 111) (m 112) (m 113) (m 114) (m 94 55) (m 94 46) (m 94 11) (m 94 12) (m 94 62) (m 94 17) (m 94 9) (aRs aa (nn + (1 : Int32)).toInt) l5.toNatClampNeg (m 94 46) kk nn l4) → (qMG (m 94 58) (m 106) (m 115) (m 94 57) (m 94 56) (zmk (m 99) l5.toNatClampNeg) (m 100) (aRs aa (nn + (1 : Int32)).toInt)) → ((aRs aa (nn + (1 : Int32)).toInt) 87 8 = (m 94 58)) → ((m 94 45).toInt = sm (zbU (zmk (m 99) l5.toNatClampNeg)) (m 102) 3100) → (∀ j : Nat, (j : Int) < nn.toInt → (zbit LL (Int32.ofNat j) ≠ 0 ↔ (kk = 16 ∨ (kk < 16 ∧ (((m 98) kk.toNatClampNeg >>> (Int32.ofNat j &&& 31)) &&& 1) = 1)))) → ((aa 69 6).toInt < 512) → (zWn (m 94 7) (m 98) (m 101) (m 102) (m 108) l5.toNatClampNeg (0 : Int32).toNatClampNeg) → (zGW T (m 94 55) (m 109)) → (qCo (m 94 58) (m 106) l5.toNatClampNeg) → zm X 9 198 183 123 [(0, .inr (.inr (some 94))), (2, .inl l2), (3, .inl l3), (4, .inl l4), (5, .inl l5)] m P := by
  intro n
  induction n using Nat.strongRecOn with
  | _ n IH =>
    intro m l2 l3 l4 l5 hmu hF hV hi0 hi1 hi2 hi3 hi4 hi5 hi6 hi7 hi8 hi9 hi10 hi11 hi12 r_L2n r_L3r r_PLq hi16 r_USn r_GUp r_OW r_GG r_QIb r_NS r_MGz r_MKb r_WTz r_BTS r_N6 r_WN r_GW r_COs
    refine g_183_123 l2 l3 l4 l5 ?_
    have f1 : 0 ≤ (m 94 10).toInt ∧ (m 94 10).toInt ≤ 6 := rs_94_10 (m := m) hV
    have f2 : 0 ≤ (m 94 8).toInt ∧ (m 94 8).toInt ≤ 1 := rs_94_8 (m := m) hV
    have f3 : 0 ≤ (m 94 46).toInt ∧ (m 94 46).toInt ≤ 100000 := rs_94_46 (m := m) hV
    have b4 := i_bd l5
    first | have f5 : 0 ≤ (m 102 l5.toNatClampNeg).toInt ∧ (m 102 l5.toNatClampNeg).toInt ≤ 60 := ra_102 (m := m) hV (k := l5.toNatClampNeg) (i_ix (n := 3100) (by omega) (by omega)).2 | have b6 := i_bd (m 102 l5.toNatClampNeg)
    have hg7 : (0 ≤ l5 ∧ l5.toNatClampNeg < 3100) := i_ix (by omega) (by omega)
    refine ⟨hg7, ?_⟩
    have hg8 : (0 ≤ l5 ∧ l5.toNatClampNeg < 3100) := i_ix (by omega) (by omega)
    refine ⟨hg8, ?_⟩
    try have e21 : (l2 + (1 : Int32)).toInt = l2.toInt + 1 := i_addk rfl (by omega) (by omega)
    have hV9 : zV (ma_u m 107 l5.toNatClampNeg (0 : Int32)) := ua_107 hV
    have li11 : (0 : Int32).toInt = 0 := rfl
    have hV10 : zV (ma_u (ma_u m 107 l5.toNatClampNeg (0 : Int32)) 109 l5.toNatClampNeg (0 : Int32)) := ua_109 hV9 (by omega) (by omega)
    have b12 := i_bd l2
    have b13 := i_bd l3
    have b14 := i_bd l4
    exact lp_183r_142 (kk := kk) (nn := nn) (r1 := r1) h0 K _ _ (l2) (l3) (l4) (l5) ((0 : Int32)) rfl (zF_u (zF_u hF rfl) rfl) hV10 (by omega) (by omega) (by omega) (by omega) (by omega) (by omega) (by omega) (by omega) (by omega) (by omega) (by omega) (show (m 94 10).toInt = 5 from by omega) (show (m 94 8).toInt = 1 from by omega) (show (m 94 46).toInt ≤ 511 from by omega) r_L2n r_L3r r_PLq (show (m 102 l5.toNatClampNeg).toInt = l2.toInt from by omega) r_USn r_GUp r_OW r_GG r_QIb (show qNs (m 99) (m 100) (m 98) (m 101) (m 102) (m 103) ((ma_u m 107 l5.toNatClampNeg (0 : Int32)) 107) (m 108) ((ma_u m 109 l5.toNatClampNeg (0 : Int32)) 109) (m 111) (m 112) (m 113) (m 114) (m 94 55) (m 94 46) (m 94 11) (m 94 12) (m 94 62) (m 94 17) (m 94 9) (aRs aa (nn + (1 : Int32)).toInt) l5.toNatClampNeg (m 94 46) kk nn l4 from by first | (exact NS_h r_NS (fun t ht => mu_ne ht) (fun t ht => mu_ne ht) (fun _ _ _ _ _ => rfl)) | (exfalso; omega; done) | (exfalso; contradiction; done)) r_MGz r_MKb r_WTz r_BTS r_N6 r_WN (show zGW (T + 1) (m 94 55) ((ma_u m 109 l5.toNatClampNeg (0 : Int32)) 109) from by first | (exact GW_up (GW_0 r_GW) (by omega)) | (exfalso; omega; done) | (exfalso; contradiction; done)) r_COs (show ((ma_u m 107 l5.toNatClampNeg (0 : Int32)) 107) l5.toNatClampNeg = 0 from by first | (exact mu_self) | (exfalso; omega; done) | (exfalso; contradiction; done)) (show ((ma_u m 109 l5.toNatClampNeg (0 : Int32)) 109) l5.toNatClampNeg = 0 from by first | (exact mu_self) | (exfalso; omega; done) | (exfalso; contradiction; done))
set_option maxHeartbeats 8000000 in
theorem lp_183r_88 {X : Nat × (Nat → Int32)} {P : Option ma_V → (Nat → Nat → Int32) → Prop} {T : Nat} {aa : Nat→Nat→Int32} {LL : Int64} {kk : Int32} {nn : Int32} {r1 : Int32} {m0 : Nat → Nat → Int32} (h0 : zV m0) (K : ∀ v m₉, zF wr_183 m0 m₉ → zV m₉ → (zW (m₉ 94 7) (m₉ 98) (m₉ 101) (m₉ 102) (m₉ 108)) → (zGW (T + 1) (m₉ 94 55) (m₉ 109)) → (zGU (T + 1) (m₉ 94 46) (m₉ 99)) → (zOw (m₉ 99) (m₉ 103) (m₉ 111)) → (zGG (m₉ 94 58) (m₉ 94 56) (m₉ 94 57) (m₉ 106)) → (qRB (m₉ 99) (m₉ 100) (m₉ 98) (m₉ 101) (m₉ 102) (m₉ 103) (m₉ 107) (m₉ 108) (m₉ 109) (m₉ 111) (m₉ 112) (m₉ 113) (m₉ 114) (m₉ 94 55) (m₉ 94 46) (m₉ 94 11) (m₉ 94 12) (m₉ 94 62) (m₉ 94 17) (m₉ 94 9) (aMk aa kk nn LL r1)) → (qI (aMk aa kk nn LL r1)) → (qMG (m₉ 94 58) (m₉ 106) (m₉ 115) (m₉ 94 57) (m₉ 94 56) (m₉ 99) (m₉ 100) (aMk aa kk nn LL r1)) → ((aMk aa kk nn LL r1) 87 8 = (m₉ 94 58)) → ((m₉ 94 45).toInt = sm (zbU (m₉ 99)) (m₉ 102) 3100) → (v = aMn aa nn) → P (some (.inl v)) m₉) : ∀ (n : Nat) (m : Nat → Nat → Int32) (l2 : Int32) (l3 : Int32) (l4 : Int32) (l5 : Int32), ((0 : Int)).toNat = n → zF wr_183 m0 m → zV m → (l2.toInt = nn.toInt) → (0 ≤ l2.toInt) → (l2.toInt ≤ 60) → (0 ≤ l3.toInt) → (l3.toInt ≤ 15) → (0 ≤ l4.toInt) → (l4.toInt ≤ 1500) → (0 ≤ l5.toInt) → (l5.toInt ≤ 3099) → (T + 1 ≤ 512) → ((m 94 10).toInt = 5) → ((m 94 8).toInt = 1) → ((m 94 46).toInt ≤ 511) → (l2 = nn) → (l3 = r1) → (qEq l4.toInt (aRp aa (nn + (1 : Int32)).toInt)) → ((m 102 l5.toNatClampNeg).toInt = l2.toInt) → ((m 99) l5.toNatClampNeg ≠ 0) → (zGUp T (m 94 46) (m 99)) → (zOw (m 99) (m 103) (m 111)) → (zGG (m 94 58) (m 94 56) (m 94 57) (m 106)) → (qI (aRs aa (nn + (1 : Int32)).toInt)) → (qNs (m 99) (m 100) (m 98) (m 101) (m 102) (m 103) (m 107) (m 108) (m 109) (m 111) (m 112) (m 113) (m 114) (m 94 55) (m 94 46) (m 94 11) (m 94 12) (m 94 62) (m 94 17) (m 94 9) (aRs aa (nn + (1 : Int32)).toInt) l5.toNatClampNeg (m 94 46) kk nn l4) → (qMG (m 94 58) (m 106) (m 115) (m 94 57) (m 94 56) (zmk (m 99) l5.toNatClampNeg) (m 100) (aRs aa (nn + (1 : Int32)).toInt)) → ((aRs aa (nn + (1 : Int32)).toInt) 87 8 = (m 94 58)) → ((m 94 45).toInt = sm (zbU (zmk (m 99) l5.toNatClampNeg)) (m 102) 3100) → (∀ j : Nat, (j : Int) < nn.toInt → (zbit LL (Int32.ofNat j) ≠ 0 ↔ (kk = 16 ∨ (kk < 16 ∧ (((m 98) kk.toNatClampNeg >>> (Int32.ofNat j &&& 31)) &&& 1) = 1)))) → ((aa 69 6).toInt < 512) → (zWn (m 94 7) (m 98) (m 101) (m 102) (m 108) l5.toNatClampNeg (0 : Int32).toNatClampNeg) → (zGW T (m 94 55) (m 109)) → zm X 9 198 183 88 [(0, .inr (.inr (some 94))), (2, .inl l2), (3, .inl l3), (4, .inl l4), (5, .inl l5)] m P := by
  intro n
  induction n using Nat.strongRecOn with
  | _ n IH =>
    intro m l2 l3 l4 l5 hmu hF hV hi0 hi1 hi2 hi3 hi4 hi5 hi6 hi7 hi8 hi9 hi10 hi11 hi12 r_L2n r_L3r r_PLq hi16 r_USn r_GUp r_OW r_GG r_QIb r_NS r_MGz r_MKb r_WTz r_BTS r_N6 r_WN r_GW
    refine g_183_88 l2 l3 l4 l5 ?_
    have f1 : 0 ≤ (m 94 10).toInt ∧ (m 94 10).toInt ≤ 6 := rs_94_10 (m := m) hV
    have f2 : 0 ≤ (m 94 8).toInt ∧ (m 94 8).toInt ≤ 1 := rs_94_8 (m := m) hV
    have f3 : 0 ≤ (m 94 46).toInt ∧ (m 94 46).toInt ≤ 100000 := rs_94_46 (m := m) hV
    have b4 := i_bd l5
    first | have f5 : 0 ≤ (m 102 l5.toNatClampNeg).toInt ∧ (m 102 l5.toNatClampNeg).toInt ≤ 60 := ra_102 (m := m) hV (k := l5.toNatClampNeg) (i_ix (n := 3100) (by omega) (by omega)).2 | have b6 := i_bd (m 102 l5.toNatClampNeg)
    have hg7 : (0 ≤ l5 ∧ l5.toNatClampNeg < 3100) := i_ix (by omega) (by omega)
    refine ⟨hg7, ?_⟩
    have hg8 : (0 ≤ l5 ∧ l5.toNatClampNeg < 3100) := i_ix (by omega) (by omega)
    refine ⟨hg8, ?_⟩
    have f9 : 0 ≤ (m 94 58).toInt ∧ (m 94 58).toInt ≤ 1 := rs_94_58 (m := m) hV
    have li10 : (0 : Int32).toInt = 0 := rfl
    refine zd (fun (h11 : (m 94 58) = (0 : Int32)) => ?_) (fun (h11 : ¬ (m 94 58) = (0 : Int32)) => ?_)
    · skip
      have g12 := i_eq h11
      have hg13 : (0 ≤ l5 ∧ l5.toNatClampNeg < 3100) := i_ix (by omega) (by omega)
      refine ⟨hg13, ?_⟩
      try have e21 : (l2 + (1 : Int32)).toInt = l2.toInt + 1 := i_addk rfl (by omega) (by omega)
      have hV14 : zV (ma_u m 104 l5.toNatClampNeg (0 : Int32)) := ua_104 hV
      have hV15 : zV (ma_u (ma_u m 104 l5.toNatClampNeg (0 : Int32)) 105 l5.toNatClampNeg (0 : Int32)) := ua_105 hV14
      have hV16 : zV (ma_u (ma_u (ma_u m 104 l5.toNatClampNeg (0 : Int32)) 105 l5.toNatClampNeg (0 : Int32)) 106 l5.toNatClampNeg (0 : Int32)) := ua_106 hV15
      have b17 := i_bd l2
      have b18 := i_bd l3
      have b19 := i_bd l4
      exact lp_183r_123 (kk := kk) (nn := nn) (r1 := r1) h0 K _ _ (l2) (l3) (l4) (l5) rfl (zF_u (zF_u (zF_u hF rfl) rfl) rfl) hV16 (by omega) (by omega) (by omega) (by omega) (by omega) (by omega) (by omega) (by omega) (by omega) (by omega) (show (m 94 10).toInt = 5 from by omega) (show (m 94 8).toInt = 1 from by omega) (show (m 94 46).toInt ≤ 511 from by omega) r_L2n r_L3r r_PLq (show (m 102 l5.toNatClampNeg).toInt = l2.toInt from by omega) r_USn r_GUp r_OW (show zGG (m 94 58) (m 94 56) (m 94 57) ((ma_u m 106 l5.toNatClampNeg (0 : Int32)) 106) from by first | (exact fun z => G1_dark0 (r_GG z) (by decide)) | (exact fun z => absurd z (by omega)) | (exact fun z => absurd z (by decide)) | (exact fun z => absurd z (by omega)) | (exfalso; omega; done) | (exfalso; contradiction; done)) r_QIb r_NS (show qMG (m 94 58) ((ma_u m 106 l5.toNatClampNeg (0 : Int32)) 106) (m 115) (m 94 57) (m 94 56) (zmk (m 99) l5.toNatClampNeg) (m 100) (aRs aa (nn + (1 : Int32)).toInt) from by first | (exact MG_1 r_MGz (fun t ht => mu_ne ht)) | (exfalso; omega; done) | (exfalso; contradiction; done)) r_MKb r_WTz r_BTS r_N6 r_WN r_GW (show qCo (m 94 58) ((ma_u m 106 l5.toNatClampNeg (0 : Int32)) 106) l5.toNatClampNeg from by first | (exact fun z => absurd (by omega) z) | (exact fun _ => mu_self) | (exfalso; omega; done) | (exfalso; contradiction; done))
    · skip
      have g20 := i_ne h11
      have hg21 : (0 ≤ l5 ∧ l5.toNatClampNeg < 3100) := i_ix (by omega) (by omega)
      refine ⟨hg21, ?_⟩
      try have e21 : (l2 + (1 : Int32)).toInt = l2.toInt + 1 := i_addk rfl (by omega) (by omega)
      have hV22 : zV (ma_u m 104 l5.toNatClampNeg (0 : Int32)) := ua_104 hV
      have hV23 : zV (ma_u (ma_u m 104 l5.toNatClampNeg (0 : Int32)) 105 l5.toNatClampNeg (0 : Int32)) := ua_105 hV22
      have hV24 : zV (ma_u (ma_u (ma_u m 104 l5.toNatClampNeg (0 : Int32)) 105 l5.toNatClampNeg (0 : Int32)) 106 l5.toNatClampNeg (2 : Int32)) := ua_106 hV23
      have b25 := i_bd l2
      have b26 := i_bd l3
      have b27 := i_bd l4
      exact lp_183r_123 (kk := kk) (nn := nn) (r1 := r1) h0 K _ _ (l2) (l3) (l4) (l5) rfl (zF_u (zF_u (zF_u hF rfl) rfl) rfl) hV24 (by omega) (by omega) (by omega) (by omega) (by omega) (by omega) (by omega) (by omega) (by omega) (by omega) (show (m 94 10).toInt = 5 from by omega) (show (m 94 8).toInt = 1 from by omega) (show (m 94 46).toInt ≤ 511 from by omega) r_L2n r_L3r r_PLq (show (m 102 l5.toNatClampNeg).toInt = l2.toInt from by omega) r_USn r_GUp r_OW (show zGG (m 94 58) (m 94 56) (m 94 57) ((ma_u m 106 l5.toNatClampNeg (2 : Int32)) 106) from by first | (exact fun z => G1_dark0 (r_GG z) (by decide)) | (exact fun z => absurd z (by omega)) | (exact fun z => absurd z (by decide)) | (exact fun z => absurd z (by omega)) | (exfalso; omega; done) | (exfalso; contradiction; done)) r_QIb r_NS (show qMG (m 94 58) ((ma_u m 106 l5.toNatClampNeg (2 : Int32)) 106) (m 115) (m 94 57) (m 94 56) (zmk (m 99) l5.toNatClampNeg) (m 100) (aRs aa (nn + (1 : Int32)).toInt) from by first | (exact MG_1 r_MGz (fun t ht => mu_ne ht)) | (exfalso; omega; done) | (exfalso; contradiction; done)) r_MKb r_WTz r_BTS r_N6 r_WN r_GW (show qCo (m 94 58) ((ma_u m 106 l5.toNatClampNeg (2 : Int32)) 106) l5.toNatClampNeg from by first | (exact fun z => absurd (by omega) z) | (exact fun _ => mu_self) | (exfalso; omega; done) | (exfalso; contradiction; done))
set_option maxHeartbeats 8000000 in
theorem lp_183r_19 {X : Nat × (Nat → Int32)} {P : Option ma_V → (Nat → Nat → Int32) → Prop} {T : Nat} {aa : Nat→Nat→Int32} {LL : Int64} {kk : Int32} {nn : Int32} {r1 : Int32} {m0 : Nat → Nat → Int32} (h0 : zV m0) (K : ∀ v m₉, zF wr_183 m0 m₉ → zV m₉ → (zW (m₉ 94 7) (m₉ 98) (m₉ 101) (m₉ 102) (m₉ 108)) → (zGW (T + 1) (m₉ 94 55) (m₉ 109)) → (zGU (T + 1) (m₉ 94 46) (m₉ 99)) → (zOw (m₉ 99) (m₉ 103) (m₉ 111)) → (zGG (m₉ 94 58) (m₉ 94 56) (m₉ 94 57) (m₉ 106)) → (qRB (m₉ 99) (m₉ 100) (m₉ 98) (m₉ 101) (m₉ 102) (m₉ 103) (m₉ 107) (m₉ 108) (m₉ 109) (m₉ 111) (m₉ 112) (m₉ 113) (m₉ 114) (m₉ 94 55) (m₉ 94 46) (m₉ 94 11) (m₉ 94 12) (m₉ 94 62) (m₉ 94 17) (m₉ 94 9) (aMk aa kk nn LL r1)) → (qI (aMk aa kk nn LL r1)) → (qMG (m₉ 94 58) (m₉ 106) (m₉ 115) (m₉ 94 57) (m₉ 94 56) (m₉ 99) (m₉ 100) (aMk aa kk nn LL r1)) → ((aMk aa kk nn LL r1) 87 8 = (m₉ 94 58)) → ((m₉ 94 45).toInt = sm (zbU (m₉ 99)) (m₉ 102) 3100) → (v = aMn aa nn) → P (some (.inl v)) m₉) : ∀ (n : Nat) (m : Nat → Nat → Int32) (l1 : Int32) (l2 : Int32) (l3 : Int32) (l4 : Int32) (l5 : Int32), (3100 - l5.toInt).toNat = n → zF wr_183 m0 m → zV m → (l2.toInt = nn.toInt) → (0 ≤ l5.toInt) → (l5.toInt ≤ 3100) → (0 ≤ l4.toInt) → (l4.toInt ≤ 1500) → (0 ≤ l2.toInt) → (l2.toInt ≤ 60) → (0 ≤ l3.toInt) → (l3.toInt ≤ 15) → (0 ≤ l1.toInt) → (l1.toInt ≤ 17) → (T + 1 ≤ 512) → (16 ≤ l1.toInt ∨ l1.toInt < (m 94 7).toInt) → (zW (m 94 7) (m 98) (m 101) (m 102) (m 108)) → (zGW T (m 94 55) (m 109)) → (zGU T (m 94 46) (m 99)) → (zOw (m 99) (m 103) (m 111)) → (zGG (m 94 58) (m 94 56) (m 94 57) (m 106)) → ((m 94 10).toInt = 5) → ((m 94 8).toInt = 1) → (qRB (m 99) (m 100) (m 98) (m 101) (m 102) (m 103) (m 107) (m 108) (m 109) (m 111) (m 112) (m 113) (m 114) (m 94 55) (m 94 46) (m 94 11) (m 94 12) (m 94 62) (m 94 17) (m 94 9) (aRs aa (nn + (1 : Int32)).toInt)) → (qI (aRs aa (nn + (1 : Int32)).toInt)) → (qMG (m 94 58) (m 106) (m 115) (m 94 57) (m 94 56) (m 99) (m 100) (aRs aa (nn + (1 : Int32)).toInt)) → ((aRs aa (nn + (1 : Int32)).toInt) 87 8 = (m 94 58)) → ((m 94 45).toInt = sm (zbU (m 99)) (m 102) 3100) → (∀ j : Nat, (j : Int) < l5.toInt → (m 99) j ≠ 0) → (l1 = kk) → (l2 = nn) → (l3 = r1) → (qEq l4.toInt (aRp aa (nn + (1 : Int32)).toInt)) → (∀ j : Nat, (j : Int) < nn.toInt → (zbit LL (Int32.ofNat j) ≠ 0 ↔ (kk = 16 ∨ (kk < 16 ∧ (((m 98) kk.toNatClampNeg >>> (Int32.ofNat j &&& 31)) &&& 1) = 1)))) → ((aa 69 6).toInt < 512) → zm X 9 198 183 19 [(0, .inr (.inr (some 94))), (1, .inl l1), (2, .inl l2), (3, .inl l3), (4, .inl l4), (5, .inl l5)] m P := by
  intro n
  induction n using Nat.strongRecOn with
  | _ n IH =>
    intro m l1 l2 l3 l4 l5 hmu hF hV hi0 hi1 hi2 hi3 hi4 hi5 hi6 hi7 hi8 hi9 hi10 hi11 hi12 r_W r_GW r_GU r_OW r_GG hi18 hi19 r_RB r_QI r_MG r_MK r_WTS r_AU r_L1k r_L2n r_L3r r_PLq r_BTS r_N6
    refine g_183_19 l1 l2 l3 l4 l5 ?_
    have f1 : 0 ≤ (m 94 7).toInt ∧ (m 94 7).toInt ≤ 16 := rs_94_7 (m := m) hV
    have f2 : 0 ≤ (m 94 10).toInt ∧ (m 94 10).toInt ≤ 6 := rs_94_10 (m := m) hV
    have f3 : 0 ≤ (m 94 8).toInt ∧ (m 94 8).toInt ≤ 1 := rs_94_8 (m := m) hV
    have b4 := i_bd l5
    try have gk := AU_room r_AU r_GU (by omega)
    have hg5 : (0 ≤ l5 ∧ l5.toNatClampNeg < 3100) := i_ix (by omega) (by omega)
    refine ⟨hg5, ?_⟩
    first | have f6 : 0 ≤ (m 99 l5.toNatClampNeg).toInt ∧ (m 99 l5.toNatClampNeg).toInt ≤ 1 := ra_99 (m := m) hV (k := l5.toNatClampNeg) (i_ix (n := 3100) (by omega) (by omega)).2 | have b7 := i_bd (m 99 l5.toNatClampNeg)
    have li8 : (0 : Int32).toInt = 0 := rfl
    refine zd (fun (h9 : (m 99 l5.toNatClampNeg) = (0 : Int32)) => ?_) (fun (h9 : ¬ (m 99 l5.toNatClampNeg) = (0 : Int32)) => ?_)
    · skip
      have g10 := i_eq h9
      try have gk := AU_room r_AU r_GU (by omega)
      have hg11 : (0 ≤ l5 ∧ l5.toNatClampNeg < 3100) := i_ix (by omega) (by omega)
      refine ⟨hg11, ?_⟩
      have hg12 : (0 ≤ l5 ∧ l5.toNatClampNeg < 3100) := i_ix (by omega) (by omega)
      refine ⟨hg12, ?_⟩
      have hg13 : (0 ≤ l5 ∧ l5.toNatClampNeg < 3100) := i_ix (by omega) (by omega)
      refine ⟨hg13, ?_⟩
      have hg14 : (0 ≤ l5 ∧ l5.toNatClampNeg < 3100) := i_ix (by omega) (by omega)
      refine ⟨hg14, ?_⟩
      have hg15 : (0 ≤ l5 ∧ l5.toNatClampNeg < 3100) := i_ix (by omega) (by omega)
      refine ⟨hg15, ?_⟩
      have b16 := i_bd l4
      have hg17 : (0 ≤ l4 ∧ l4.toNatClampNeg < 4600) := i_ix (by omega) (by omega)
      refine ⟨hg17, ?_⟩
      try have gk := AU_room r_AU r_GU (by omega)
      try have e21 : (l2 + (1 : Int32)).toInt = l2.toInt + 1 := i_addk rfl (by omega) (by omega)
      try have gun := GU_nu r_GU
      have li19 : (1 : Int32).toInt = 1 := rfl
      have hV18 : zV (ma_u m 99 l5.toNatClampNeg (1 : Int32)) := ua_99 hV (by omega) (by omega)
      have f21 : 0 ≤ (m 94 46).toInt ∧ (m 94 46).toInt ≤ 100000 := rs_94_46 (m := m) hV
      have hV20 : zV (ma_u (ma_u m 99 l5.toNatClampNeg (1 : Int32)) 100 l5.toNatClampNeg (m 94 46)) := ua_100 hV18 (by omega) (by omega)
      have b23 := i_bd l1
      have hV22 : zV (ma_u (ma_u (ma_u m 99 l5.toNatClampNeg (1 : Int32)) 100 l5.toNatClampNeg (m 94 46)) 101 l5.toNatClampNeg l1) := ua_101 hV20 (by omega) (by omega)
      have b25 := i_bd l2
      have hV24 : zV (ma_u (ma_u (ma_u (ma_u m 99 l5.toNatClampNeg (1 : Int32)) 100 l5.toNatClampNeg (m 94 46)) 101 l5.toNatClampNeg l1) 102 l5.toNatClampNeg l2) := ua_102 hV22 (by omega) (by omega)
      have hV26 : zV (ma_u (ma_u (ma_u (ma_u (ma_u m 99 l5.toNatClampNeg (1 : Int32)) 100 l5.toNatClampNeg (m 94 46)) 101 l5.toNatClampNeg l1) 102 l5.toNatClampNeg l2) 103 l5.toNatClampNeg l4) := ua_103 hV24 (by omega) (by omega)
      have hV27 : zV (ma_u (ma_u (ma_u (ma_u (ma_u (ma_u m 99 l5.toNatClampNeg (1 : Int32)) 100 l5.toNatClampNeg (m 94 46)) 101 l5.toNatClampNeg l1) 102 l5.toNatClampNeg l2) 103 l5.toNatClampNeg l4) 111 l4.toNatClampNeg l5) := ua_111 hV26 (by omega) (by omega)
      have b28 := i_bd l3
      have q29 : ((ma_u m 102 l5.toNatClampNeg l2) 102 l5.toNatClampNeg).toInt = l2.toInt := congrArg Int32.toInt mu_self
      first | have f30 : 0 ≤ ((ma_u m 102 l5.toNatClampNeg l2) 102 l5.toNatClampNeg).toInt ∧ ((ma_u m 102 l5.toNatClampNeg l2) 102 l5.toNatClampNeg).toInt ≤ 60 := ra_102 (m := (ma_u (ma_u (ma_u (ma_u m 99 l5.toNatClampNeg (1 : Int32)) 100 l5.toNatClampNeg (m 94 46)) 101 l5.toNatClampNeg l1) 102 l5.toNatClampNeg l2)) hV24 (k := l5.toNatClampNeg) (i_ix (n := 3100) (by omega) (by omega)).2 | have b31 := i_bd ((ma_u m 102 l5.toNatClampNeg l2) 102 l5.toNatClampNeg)
      exact lp_183r_88 (kk := kk) (nn := nn) (r1 := r1) h0 K _ _ (l2) (l3) (l4) (l5) rfl (zF_u (zF_u (zF_u (zF_u (zF_u (zF_u hF rfl) rfl) rfl) rfl) rfl) rfl) hV27 (by omega) (by omega) (by omega) (by omega) (by omega) (by omega) (by omega) (by omega) (by omega) (by omega) (show (m 94 10).toInt = 5 from by omega) (show (m 94 8).toInt = 1 from by omega) (show (m 94 46).toInt ≤ 511 from by omega) r_L2n r_L3r r_PLq (show ((ma_u m 102 l5.toNatClampNeg l2) 102 l5.toNatClampNeg).toInt = l2.toInt from by omega) (show ((ma_u m 99 l5.toNatClampNeg (1 : Int32)) 99) l5.toNatClampNeg ≠ 0 from by first | (rw [mu_self]; decide; done) | (exfalso; omega; done) | (exfalso; contradiction; done)) (show zGUp T (m 94 46) ((ma_u m 99 l5.toNatClampNeg (1 : Int32)) 99) from by first | (exact GUp_0 r_GU (by omega)) | (exfalso; omega; done) | (exfalso; contradiction; done)) (show zOw ((ma_u m 99 l5.toNatClampNeg (1 : Int32)) 99) ((ma_u m 103 l5.toNatClampNeg l4) 103) ((ma_u m 111 l4.toNatClampNeg l5) 111) from by first | (exact Ow_new r_OW (by assumption) (fun t ht => mu_ne ht) (by rw [mu_self]; decide) (fun t ht => mu_ne ht) mu_self (by omega) (fun t ht => mu_ne ht) (by rw [mu_self])) | (exact Ow_rm r_OW (by decide) (tn_cast (by omega)).symm) | (exfalso; omega; done) | (exfalso; contradiction; done)) r_GG (show qI (aRs aa (nn + (1 : Int32)).toInt) from by first | (exact r_QI) | (exfalso; omega; done) | (exfalso; contradiction; done)) (show qNs ((ma_u m 99 l5.toNatClampNeg (1 : Int32)) 99) ((ma_u m 100 l5.toNatClampNeg (m 94 46)) 100) (m 98) ((ma_u m 101 l5.toNatClampNeg l1) 101) ((ma_u m 102 l5.toNatClampNeg l2) 102) ((ma_u m 103 l5.toNatClampNeg l4) 103) (m 107) (m 108) (m 109) ((ma_u m 111 l4.toNatClampNeg l5) 111) (m 112) (m 113) (m 114) (m 94 55) (m 94 46) (m 94 11) (m 94 12) (m 94 62) (m 94 17) (m 94 9) (aRs aa (nn + (1 : Int32)).toInt) l5.toNatClampNeg (m 94 46) kk nn l4 from by first | (exact NS_0 r_RB r_QI (z := nn.toInt + 1) (by omega) (Ne_of r_QI r_PLq (by omega) (by omega) (by omega) r_RB.2.2.2.2.2.2.2.1 (by have gun := GU_nu r_GU; omega)).2.2.2.2 (by assumption) (by rw [mu_self]; decide) (fun t ht => mu_ne ht) mu_self (fun t ht => mu_ne ht) (mu_self.trans r_L1k) (fun t ht => mu_ne ht) (mu_self.trans r_L2n) (fun t ht => mu_ne ht) mu_self (fun t ht => mu_ne ht) (mu_self.trans (ofN_tn (by omega)).symm) (fun t ht => mu_ne ht)) | (exfalso; omega; done) | (exfalso; contradiction; done)) (show qMG (m 94 58) (m 106) (m 115) (m 94 57) (m 94 56) (zmk ((ma_u m 99 l5.toNatClampNeg (1 : Int32)) 99) l5.toNatClampNeg) ((ma_u m 100 l5.toNatClampNeg (m 94 46)) 100) (aRs aa (nn + (1 : Int32)).toInt) from by first | (exact MG_0 r_MG (by assumption) (fun t ht => mu_ne ht) (fun t ht => mu_ne ht) (fun _ _ => rfl)) | (exfalso; omega; done) | (exfalso; contradiction; done)) (show (aRs aa (nn + (1 : Int32)).toInt) 87 8 = (m 94 58) from by first | (exact r_MK) | (exfalso; omega; done) | (exfalso; contradiction; done)) (show (m 94 45).toInt = sm (zbU (zmk ((ma_u m 99 l5.toNatClampNeg (1 : Int32)) 99) l5.toNatClampNeg)) ((ma_u m 102 l5.toNatClampNeg l2) 102) 3100 from by first | (exact WT_0 r_WTS (by assumption) (fun t ht => mu_ne ht) (fun t ht => mu_ne ht)) | (exfalso; omega; done) | (exfalso; contradiction; done)) r_BTS r_N6 (show zWn (m 94 7) (m 98) ((ma_u m 101 l5.toNatClampNeg l1) 101) ((ma_u m 102 l5.toNatClampNeg l2) 102) (m 108) l5.toNatClampNeg (0 : Int32).toNatClampNeg from by first | (exact Wn_0 r_W (fun t ht => mu_ne ht) (fun t ht => mu_ne ht) (by rw [mu_self]; assumption) rfl) | (exfalso; omega; done) | (exfalso; contradiction; done)) r_GW
    · skip
      have g32 := i_ne h9
      try have gk := AU_room r_AU r_GU (by omega)
      try have e21 : (l2 + (1 : Int32)).toInt = l2.toInt + 1 := i_addk rfl (by omega) (by omega)
      try have gun := GU_nu r_GU
      have b33 := i_bd l1
      have b34 := i_bd l2
      have b35 := i_bd l3
      have b36 := i_bd l4
      first | have e37 : (l5 + (1 : Int32)).toInt = l5.toInt + (1) := i_addk rfl (by omega) (by omega) | have b38 := i_bd (l5 + (1 : Int32))
      exact IH (3100 - (l5 + (1 : Int32)).toInt).toNat (by omega) _ (l1) (l2) (l3) (l4) ((l5 + (1 : Int32))) rfl hF hV (by omega) (by omega) (by omega) (by omega) (by omega) (by omega) (by omega) (by omega) (by omega) (by omega) (by omega) (by omega) (show 16 ≤ l1.toInt ∨ l1.toInt < (m 94 7).toInt from by omega) r_W r_GW r_GU r_OW r_GG (show (m 94 10).toInt = 5 from by omega) (show (m 94 8).toInt = 1 from by omega) r_RB r_QI r_MG r_MK r_WTS (show ∀ j : Nat, (j : Int) < (l5 + (1 : Int32)).toInt → (m 99) j ≠ 0 from by first | (exact AU_step r_AU (by omega) (by assumption) (by omega)) | (exfalso; omega; done) | (exfalso; contradiction; done)) r_L1k r_L2n r_L3r r_PLq r_BTS r_N6
set_option maxHeartbeats 8000000 in
theorem sp_183r {X : Nat × (Nat → Int32)} {P : Option ma_V → (Nat → Nat → Int32) → Prop} {T : Nat} {aa : Nat→Nat→Int32} {LL : Int64} {m : Nat → Nat → Int32} (kk : Int32) (nn : Int32) (r1 : Int32) (hV : zV m) (hpre0 : 0 ≤ nn.toInt) (hpre1 : nn.toInt ≤ 60) (hpre2 : 0 ≤ r1.toInt) (hpre3 : r1.toInt ≤ 15) (hpre4 : 0 ≤ kk.toInt) (hpre5 : kk.toInt ≤ 17) (hpre6 : T + 1 ≤ 512) (hpre7 : 16 ≤ kk.toInt ∨ kk.toInt < (m 94 7).toInt) (hpre8 : T ≤ 512) (r_W : zW (m 94 7) (m 98) (m 101) (m 102) (m 108)) (r_GW : zGW T (m 94 55) (m 109)) (r_GU : zGU T (m 94 46) (m 99)) (r_OW : zOw (m 99) (m 103) (m 111)) (r_GG : zGG (m 94 58) (m 94 56) (m 94 57) (m 106)) (hpre14 : (m 94 10).toInt = 5) (hpre15 : (m 94 8).toInt = 1) (r_RB : qRB (m 99) (m 100) (m 98) (m 101) (m 102) (m 103) (m 107) (m 108) (m 109) (m 111) (m 112) (m 113) (m 114) (m 94 55) (m 94 46) (m 94 11) (m 94 12) (m 94 62) (m 94 17) (m 94 9) aa) (r_QI : qI aa) (r_MG : qMG (m 94 58) (m 106) (m 115) (m 94 57) (m 94 56) (m 99) (m 100) aa) (r_MK : aa 87 8 = (m 94 58)) (r_WTS : (m 94 45).toInt = sm (zbU (m 99)) (m 102) 3100) (r_BTS : ∀ j : Nat, (j : Int) < nn.toInt → (zbit LL (Int32.ofNat j) ≠ 0 ↔ (kk = 16 ∨ (kk < 16 ∧ (((m 98) kk.toNatClampNeg >>> (Int32.ofNat j &&& 31)) &&& 1) = 1)))) (KZ : ∀ v m₉, zV (zov wr_183 m m₉) → (zW (m 94 7) (m 98) (m₉ 101) (m₉ 102) (m₉ 108)) → (zGW (T + 1) (m₉ 94 55) (m₉ 109)) → (zGU (T + 1) (m₉ 94 46) (m₉ 99)) → (zOw (m₉ 99) (m₉ 103) (m₉ 111)) → (zGG (m₉ 94 58) (m₉ 94 56) (m₉ 94 57) (m₉ 106)) → (qRB (m₉ 99) (m₉ 100) (m 98) (m₉ 101) (m₉ 102) (m₉ 103) (m₉ 107) (m₉ 108) (m₉ 109) (m₉ 111) (m₉ 112) (m₉ 113) (m₉ 114) (m₉ 94 55) (m₉ 94 46) (m 94 11) (m 94 12) (m₉ 94 62) (m 94 17) (m 94 9) (aMk aa kk nn LL r1)) → (qI (aMk aa kk nn LL r1)) → (qMG (m₉ 94 58) (m₉ 106) (m₉ 115) (m₉ 94 57) (m₉ 94 56) (m₉ 99) (m₉ 100) (aMk aa kk nn LL r1)) → ((aMk aa kk nn LL r1) 87 8 = (m₉ 94 58)) → ((m₉ 94 45).toInt = sm (zbU (m₉ 99)) (m₉ 102) 3100) → (v = aMn aa nn) → P (some (.inl v)) (zov wr_183 m m₉)) : zm X 9 198 183 0 [(0, .inr (.inr (some 94))), (1, .inl kk), (2, .inl nn), (3, .inl r1)] m P := by
  have K : ∀ v m₉, zF wr_183 m m₉ → zV m₉ → (zW (m₉ 94 7) (m₉ 98) (m₉ 101) (m₉ 102) (m₉ 108)) → (zGW (T + 1) (m₉ 94 55) (m₉ 109)) → (zGU (T + 1) (m₉ 94 46) (m₉ 99)) → (zOw (m₉ 99) (m₉ 103) (m₉ 111)) → (zGG (m₉ 94 58) (m₉ 94 56) (m₉ 94 57) (m₉ 106)) → (qRB (m₉ 99) (m₉ 100) (m₉ 98) (m₉ 101) (m₉ 102) (m₉ 103) (m₉ 107) (m₉ 108) (m₉ 109) (m₉ 111) (m₉ 112) (m₉ 113) (m₉ 114) (m₉ 94 55) (m₉ 94 46) (m₉ 94 11) (m₉ 94 12) (m₉ 94 62) (m₉ 94 17) (m₉ 94 9) (aMk aa kk nn LL r1)) → (qI (aMk aa kk nn LL r1)) → (qMG (m₉ 94 58) (m₉ 106) (m₉ 115) (m₉ 94 57) (m₉ 94 56) (m₉ 99) (m₉ 100) (aMk aa kk nn LL r1)) → ((aMk aa kk nn LL r1) 87 8 = (m₉ 94 58)) → ((m₉ 94 45).toInt = sm (zbU (m₉ 99)) (m₉ 102) 3100) → (v = aMn aa nn) → P (some (.inl v)) m₉ := by
    intro v m₉ hf z q0 q1 q2 q3 q4 q5 q6 q7 q8 q9 q10
    have e := zov_eq hf
    rw [e] at z ⊢
    try rw [e] at q0
    try rw [e] at q1
    try rw [e] at q2
    try rw [e] at q3
    try rw [e] at q4
    try rw [e] at q5
    try rw [e] at q6
    try rw [e] at q7
    try rw [e] at q8
    try rw [e] at q9
    try rw [e] at q10
    exact KZ v m₉ z q0 q1 q2 q3 q4 q5 q6 q7 q8 q9 q10
  refine g_183_0 kk nn r1 ?_
  have f1 : 0 ≤ (m 94 7).toInt ∧ (m 94 7).toInt ≤ 16 := rs_94_7 (m := m) hV
  have f2 : 0 ≤ (m 94 10).toInt ∧ (m 94 10).toInt ≤ 6 := rs_94_10 (m := m) hV
  have f3 : 0 ≤ (m 94 8).toInt ∧ (m 94 8).toInt ≤ 1 := rs_94_8 (m := m) hV
  have b4 := i_bd nn
  first | have e5 : (nn + (1 : Int32)).toInt = nn.toInt + (1) := i_addk rfl (by omega) (by omega) | have b6 := i_bd (nn + (1 : Int32))
  refine sp_184r (aa := aa) ((nn + (1 : Int32))) hV (by omega) r_W r_GW r_GU r_OW r_GG (show (m 94 10).toInt = 5 from by omega) r_RB r_QI r_MG r_MK r_WTS (fun v2 m1 hV_m1 p0_m1 p1_m1 p2_m1 p3_m1 p4_m1 p5_m1 p6_m1 p7_m1 p8_m1 p9_m1 p10_m1 => zmi_n ?_)
  have p0_m1 : zGW T (m1 94 55) (m1 109) := p0_m1
  have p1_m1 : zGU T (m 94 46) (m1 99) := p1_m1
  have p2_m1 : zOw (m1 99) (m1 103) (m1 111) := p2_m1
  have p3_m1 : zGG (m1 94 58) (m1 94 56) (m1 94 57) (m1 106) := p3_m1
  have p4_m1 : -1 ≤ v2.toInt ∧ v2.toInt ≤ 1500 := p4_m1
  have p5_m1 : qRB (m1 99) (m 100) (m 98) (m 101) (m 102) (m1 103) (m 107) (m 108) (m1 109) (m1 111) (m 112) (m1 113) (m1 114) (m1 94 55) (m 94 46) (m 94 11) (m 94 12) (m 94 62) (m 94 17) (m 94 9) (aRs aa (nn + (1 : Int32)).toInt) := p5_m1
  have p6_m1 : qI (aRs aa (nn + (1 : Int32)).toInt) := p6_m1
  have p7_m1 : qMG (m1 94 58) (m1 106) (m1 115) (m1 94 57) (m1 94 56) (m1 99) (m 100) (aRs aa (nn + (1 : Int32)).toInt) := p7_m1
  have p8_m1 : (aRs aa (nn + (1 : Int32)).toInt) 87 8 = (m1 94 58) := p8_m1
  have p9_m1 : (m1 94 45).toInt = sm (zbU (m1 99)) (m 102) 3100 := p9_m1
  have p10_m1 : qEq v2.toInt (aRp aa (nn + (1 : Int32)).toInt) := p10_m1
  have li7 : (0 : Int32).toInt = 0 := rfl
  have b8 := i_bd v2
  refine zd (fun (h9 : (0 : Int32) ≤ v2) => ?_) (fun (h9 : ¬ (0 : Int32) ≤ v2) => ?_)
  · skip
    have g10 := i_le h9
    try have e21 : (l2 + (1 : Int32)).toInt = l2.toInt + 1 := i_addk rfl (by omega) (by omega)
    try have gun := GU_nu p1_m1
    have b11 := i_bd kk
    have b12 := i_bd r1
    exact lp_183r_19 (kk := kk) (nn := nn) (r1 := r1) hV K _ _ (kk) (nn) (r1) (v2) ((0 : Int32)) rfl (zF_zov zF_rfl ws_184_183) hV_m1 (by omega) (by omega) (by omega) (by omega) (by omega) (by omega) (by omega) (by omega) (by omega) (by omega) (by omega) (by omega) (show 16 ≤ kk.toInt ∨ kk.toInt < (m 94 7).toInt from by omega) r_W p0_m1 p1_m1 p2_m1 p3_m1 (show (m 94 10).toInt = 5 from by omega) (show (m 94 8).toInt = 1 from by omega) p5_m1 p6_m1 p7_m1 p8_m1 p9_m1 (show ∀ j : Nat, (j : Int) < (0 : Int32).toInt → (m1 99) j ≠ 0 from by first | (intro j hj; omega; done) | (exfalso; omega; done) | (exfalso; contradiction; done)) (show kk = kk from by first | (exact rfl) | (exfalso; omega; done) | (exfalso; contradiction; done)) (show nn = nn from by first | (exact rfl) | (exfalso; omega; done) | (exfalso; contradiction; done)) (show r1 = r1 from by first | (exact rfl) | (exfalso; omega; done) | (exfalso; contradiction; done)) (show qEq v2.toInt (aRp aa (nn + (1 : Int32)).toInt) from by first | (exact p10_m1) | (exfalso; omega; done) | (exfalso; contradiction; done)) r_BTS (show (aa 69 6).toInt < 512 from by first | (exact (show (aa 69 6).toInt < 512 from by rw [r_RB.2.2.2.2.2.2.2.1]; have gun := GU_nu r_GU; omega)) | (exfalso; omega; done) | (exfalso; contradiction; done))
  · skip
    have g13 := i_nle h9
    try have e21 : (l2 + (1 : Int32)).toInt = l2.toInt + 1 := i_addk rfl (by omega) (by omega)
    try have gun := GU_nu p1_m1
    have li14 : (-1 : Int32).toInt = -1 := rfl
    exact K ((-1 : Int32)) _ (zF_zov zF_rfl ws_184_183) hV_m1 r_W (show zGW (T + 1) (m1 94 55) (m1 109) from by first | (exact GW_up p0_m1 (by omega)) | (exfalso; omega; done) | (exfalso; contradiction; done)) (show zGU (T + 1) (m 94 46) (m1 99) from by first | (exact GU_up p1_m1 (by omega)) | (exact GU_0 p1_m1) | (exfalso; omega; done) | (exfalso; contradiction; done)) p2_m1 p3_m1 (show qRB (m1 99) (m 100) (m 98) (m 101) (m 102) (m1 103) (m 107) (m 108) (m1 109) (m1 111) (m 112) (m1 113) (m1 114) (m1 94 55) (m 94 46) (m 94 11) (m 94 12) (m 94 62) (m 94 17) (m 94 9) (aMk aa kk nn LL r1) from by first | (rw [(aMk_1 (a := aa) (kd := kk) (wd := nn) (rt := r1) (L := LL) (show (aa 69 6).toInt < 512 from by rw [r_RB.2.2.2.2.2.2.2.1]; have gun := GU_nu r_GU; omega) ((qE p10_m1).symm.trans (by omega))).1]; exact p5_m1; done) | (exfalso; omega; done) | (exfalso; contradiction; done)) (show qI (aMk aa kk nn LL r1) from by first | (rw [(aMk_1 (a := aa) (kd := kk) (wd := nn) (rt := r1) (L := LL) (show (aa 69 6).toInt < 512 from by rw [r_RB.2.2.2.2.2.2.2.1]; have gun := GU_nu r_GU; omega) ((qE p10_m1).symm.trans (by omega))).1]; exact p6_m1; done) | (exfalso; omega; done) | (exfalso; contradiction; done)) (show qMG (m1 94 58) (m1 106) (m1 115) (m1 94 57) (m1 94 56) (m1 99) (m 100) (aMk aa kk nn LL r1) from by first | (rw [(aMk_1 (a := aa) (kd := kk) (wd := nn) (rt := r1) (L := LL) (show (aa 69 6).toInt < 512 from by rw [r_RB.2.2.2.2.2.2.2.1]; have gun := GU_nu r_GU; omega) ((qE p10_m1).symm.trans (by omega))).1]; exact p7_m1; done) | (exfalso; omega; done) | (exfalso; contradiction; done)) (show (aMk aa kk nn LL r1) 87 8 = (m1 94 58) from by first | (rw [(aMk_1 (a := aa) (kd := kk) (wd := nn) (rt := r1) (L := LL) (show (aa 69 6).toInt < 512 from by rw [r_RB.2.2.2.2.2.2.2.1]; have gun := GU_nu r_GU; omega) ((qE p10_m1).symm.trans (by omega))).1]; exact p8_m1; done) | (exfalso; omega; done) | (exfalso; contradiction; done)) p9_m1 (show (-1 : Int32) = aMn aa nn from by first | (exact (aMk_1 (a := aa) (kd := kk) (wd := nn) (rt := r1) (L := LL) (show (aa 69 6).toInt < 512 from by rw [r_RB.2.2.2.2.2.2.2.1]; have gun := GU_nu r_GU; omega) ((qE p10_m1).symm.trans (by omega))).2.symm) | (exfalso; omega; done) | (exfalso; contradiction; done))

/-! from 95.h41 -/
/-! the reference by numbers (written by wip/tools/gen18r.py) -/
set_option maxHeartbeats 8000000 in
theorem sp_181r {X : Nat × (Nat → Int32)} {P : Option ma_V → (Nat → Nat → Int32) → Prop} {T : Nat} {aa : Nat→Nat→Int32} {LL : Int64} {m : Nat → Nat → Int32} (kk : Int32) (r1 : Int32) (hV : zV m) (hpre0 : T + 1 ≤ 512) (hpre1 : T ≤ 512) (r_W : zW (m 94 7) (m 98) (m 101) (m 102) (m 108)) (r_GW : zGW T (m 94 55) (m 109)) (r_GU : zGU T (m 94 46) (m 99)) (r_OW : zOw (m 99) (m 103) (m 111)) (r_GG : zGG (m 94 58) (m 94 56) (m 94 57) (m 106)) (hpre7 : (m 94 10).toInt = 5) (hpre8 : (m 94 8).toInt = 1) (r_RB : qRB (m 99) (m 100) (m 98) (m 101) (m 102) (m 103) (m 107) (m 108) (m 109) (m 111) (m 112) (m 113) (m 114) (m 94 55) (m 94 46) (m 94 11) (m 94 12) (m 94 62) (m 94 17) (m 94 9) aa) (r_QI : qI aa) (r_MG : qMG (m 94 58) (m 106) (m 115) (m 94 57) (m 94 56) (m 99) (m 100) aa) (r_MK : aa 87 8 = (m 94 58)) (r_WTS : (m 94 45).toInt = sm (zbU (m 99)) (m 102) 3100) (r_BT1 : (0 ≤ kk.toInt ∧ kk.toInt < (m 94 7).toInt) → ∀ j : Nat, (j : Int) < ((m 97) kk.toNatClampNeg).toInt → (zbit LL (Int32.ofNat j) ≠ 0 ↔ (kk = 16 ∨ (kk < 16 ∧ (((m 98) kk.toNatClampNeg >>> (Int32.ofNat j &&& 31)) &&& 1) = 1)))) (KZ : ∀ v m₉, zV (zov wr_181 m m₉) → (zW (m 94 7) (m 98) (m₉ 101) (m₉ 102) (m₉ 108)) → (zGW (T + 1) (m₉ 94 55) (m₉ 109)) → (zGU (T + 1) (m₉ 94 46) (m₉ 99)) → (zOw (m₉ 99) (m₉ 103) (m₉ 111)) → (zGG (m₉ 94 58) (m₉ 94 56) (m₉ 94 57) (m₉ 106)) → (qRB (m₉ 99) (m₉ 100) (m 98) (m₉ 101) (m₉ 102) (m₉ 103) (m₉ 107) (m₉ 108) (m₉ 109) (m₉ 111) (m₉ 112) (m₉ 113) (m₉ 114) (m₉ 94 55) (m₉ 94 46) (m 94 11) (m 94 12) (m₉ 94 62) (m 94 17) (m 94 9) (qIf (0 ≤ kk.toInt ∧ kk.toInt < (m 94 7).toInt ∧ zSl r1) (aMk aa kk ((m 97) kk.toNatClampNeg) LL r1) aa)) → (qI (qIf (0 ≤ kk.toInt ∧ kk.toInt < (m 94 7).toInt ∧ zSl r1) (aMk aa kk ((m 97) kk.toNatClampNeg) LL r1) aa)) → (qMG (m₉ 94 58) (m₉ 106) (m₉ 115) (m₉ 94 57) (m₉ 94 56) (m₉ 99) (m₉ 100) (qIf (0 ≤ kk.toInt ∧ kk.toInt < (m 94 7).toInt ∧ zSl r1) (aMk aa kk ((m 97) kk.toNatClampNeg) LL r1) aa)) → ((qIf (0 ≤ kk.toInt ∧ kk.toInt < (m 94 7).toInt ∧ zSl r1) (aMk aa kk ((m 97) kk.toNatClampNeg) LL r1) aa) 87 8 = (m₉ 94 58)) → ((m₉ 94 45).toInt = sm (zbU (m₉ 99)) (m₉ 102) 3100) → P (some (.inl v)) (zov wr_181 m m₉)) : zm X 10 224 181 0 [(0, .inr (.inr (some 94))), (1, .inl kk), (2, .inl r1)] m P := by
  have K : ∀ v m₉, zF wr_181 m m₉ → zV m₉ → (zW (m₉ 94 7) (m₉ 98) (m₉ 101) (m₉ 102) (m₉ 108)) → (zGW (T + 1) (m₉ 94 55) (m₉ 109)) → (zGU (T + 1) (m₉ 94 46) (m₉ 99)) → (zOw (m₉ 99) (m₉ 103) (m₉ 111)) → (zGG (m₉ 94 58) (m₉ 94 56) (m₉ 94 57) (m₉ 106)) → (qRB (m₉ 99) (m₉ 100) (m₉ 98) (m₉ 101) (m₉ 102) (m₉ 103) (m₉ 107) (m₉ 108) (m₉ 109) (m₉ 111) (m₉ 112) (m₉ 113) (m₉ 114) (m₉ 94 55) (m₉ 94 46) (m₉ 94 11) (m₉ 94 12) (m₉ 94 62) (m₉ 94 17) (m₉ 94 9) (qIf (0 ≤ kk.toInt ∧ kk.toInt < (m₉ 94 7).toInt ∧ zSl r1) (aMk aa kk ((m₉ 97) kk.toNatClampNeg) LL r1) aa)) → (qI (qIf (0 ≤ kk.toInt ∧ kk.toInt < (m₉ 94 7).toInt ∧ zSl r1) (aMk aa kk ((m₉ 97) kk.toNatClampNeg) LL r1) aa)) → (qMG (m₉ 94 58) (m₉ 106) (m₉ 115) (m₉ 94 57) (m₉ 94 56) (m₉ 99) (m₉ 100) (qIf (0 ≤ kk.toInt ∧ kk.toInt < (m₉ 94 7).toInt ∧ zSl r1) (aMk aa kk ((m₉ 97) kk.toNatClampNeg) LL r1) aa)) → ((qIf (0 ≤ kk.toInt ∧ kk.toInt < (m₉ 94 7).toInt ∧ zSl r1) (aMk aa kk ((m₉ 97) kk.toNatClampNeg) LL r1) aa) 87 8 = (m₉ 94 58)) → ((m₉ 94 45).toInt = sm (zbU (m₉ 99)) (m₉ 102) 3100) → P (some (.inl v)) m₉ := by
    intro v m₉ hf z q0 q1 q2 q3 q4 q5 q6 q7 q8 q9
    have e := zov_eq hf
    rw [e] at z ⊢
    try rw [e] at q0
    try rw [e] at q1
    try rw [e] at q2
    try rw [e] at q3
    try rw [e] at q4
    try rw [e] at q5
    try rw [e] at q6
    try rw [e] at q7
    try rw [e] at q8
    try rw [e] at q9
    exact KZ v m₉ z q0 q1 q2 q3 q4 q5 q6 q7 q8 q9
  refine g_181_0 kk r1 ?_
  have f1 : 0 ≤ (m 94 10).toInt ∧ (m 94 10).toInt ≤ 6 := rs_94_10 (m := m) hV
  have f2 : 0 ≤ (m 94 8).toInt ∧ (m 94 8).toInt ≤ 1 := rs_94_8 (m := m) hV
  have b3 := i_bd kk
  have li4 : (0 : Int32).toInt = 0 := rfl
  refine zd (fun (h5 : kk < (0 : Int32)) => ?_) (fun (h5 : ¬ kk < (0 : Int32)) => ?_)
  · skip
    have g6 := i_lt h5
    have hV7 : zV (ma_u m 94 0 (1 : Int32)) := uf_94_0 hV
    exact K ((0 : Int32)) _ (zF_u zF_rfl rfl) hV7 r_W (show zGW (T + 1) (m 94 55) (m 109) from by first | (exact GW_up r_GW (by omega)) | (exfalso; omega; done) | (exfalso; contradiction; done)) (show zGU (T + 1) (m 94 46) (m 99) from by first | (exact GU_up r_GU (by omega)) | (exact GU_0 r_GU) | (exfalso; omega; done) | (exfalso; contradiction; done)) r_OW r_GG (show qRB (m 99) (m 100) (m 98) (m 101) (m 102) (m 103) (m 107) (m 108) (m 109) (m 111) (m 112) (m 113) (m 114) (m 94 55) (m 94 46) (m 94 11) (m 94 12) (m 94 62) (m 94 17) (m 94 9) (qIf (0 ≤ kk.toInt ∧ kk.toInt < (m 94 7).toInt ∧ zSl r1) (aMk aa kk ((m 97) kk.toNatClampNeg) LL r1) aa) from by first | (rw [qIf_n (fun w => by have w1 := w.1; have w2 := w.2.1; have w3 := w.2.2.1; have w4 := w.2.2.2; omega)]; exact r_RB; done) | (exfalso; omega; done) | (exfalso; contradiction; done)) (show qI (qIf (0 ≤ kk.toInt ∧ kk.toInt < (m 94 7).toInt ∧ zSl r1) (aMk aa kk ((m 97) kk.toNatClampNeg) LL r1) aa) from by first | (rw [qIf_n (fun w => by have w1 := w.1; have w2 := w.2.1; have w3 := w.2.2.1; have w4 := w.2.2.2; omega)]; exact r_QI; done) | (exfalso; omega; done) | (exfalso; contradiction; done)) (show qMG (m 94 58) (m 106) (m 115) (m 94 57) (m 94 56) (m 99) (m 100) (qIf (0 ≤ kk.toInt ∧ kk.toInt < (m 94 7).toInt ∧ zSl r1) (aMk aa kk ((m 97) kk.toNatClampNeg) LL r1) aa) from by first | (rw [qIf_n (fun w => by have w1 := w.1; have w2 := w.2.1; have w3 := w.2.2.1; have w4 := w.2.2.2; omega)]; exact r_MG; done) | (exfalso; omega; done) | (exfalso; contradiction; done)) (show (qIf (0 ≤ kk.toInt ∧ kk.toInt < (m 94 7).toInt ∧ zSl r1) (aMk aa kk ((m 97) kk.toNatClampNeg) LL r1) aa) 87 8 = (m 94 58) from by first | (rw [qIf_n (fun w => by have w1 := w.1; have w2 := w.2.1; have w3 := w.2.2.1; have w4 := w.2.2.2; omega)]; exact r_MK; done) | (exfalso; omega; done) | (exfalso; contradiction; done)) r_WTS
  · skip
    have g8 := i_nlt h5
    have f9 : 0 ≤ (m 94 7).toInt ∧ (m 94 7).toInt ≤ 16 := rs_94_7 (m := m) hV
    refine zd (fun (h10 : (m 94 7) ≤ kk) => ?_) (fun (h10 : ¬ (m 94 7) ≤ kk) => ?_)
    · skip
      have g11 := i_le h10
      have hV12 : zV (ma_u m 94 0 (1 : Int32)) := uf_94_0 hV
      exact K ((0 : Int32)) _ (zF_u zF_rfl rfl) hV12 r_W (show zGW (T + 1) (m 94 55) (m 109) from by first | (exact GW_up r_GW (by omega)) | (exfalso; omega; done) | (exfalso; contradiction; done)) (show zGU (T + 1) (m 94 46) (m 99) from by first | (exact GU_up r_GU (by omega)) | (exact GU_0 r_GU) | (exfalso; omega; done) | (exfalso; contradiction; done)) r_OW r_GG (show qRB (m 99) (m 100) (m 98) (m 101) (m 102) (m 103) (m 107) (m 108) (m 109) (m 111) (m 112) (m 113) (m 114) (m 94 55) (m 94 46) (m 94 11) (m 94 12) (m 94 62) (m 94 17) (m 94 9) (qIf (0 ≤ kk.toInt ∧ kk.toInt < (m 94 7).toInt ∧ zSl r1) (aMk aa kk ((m 97) kk.toNatClampNeg) LL r1) aa) from by first | (rw [qIf_n (fun w => by have w1 := w.1; have w2 := w.2.1; have w3 := w.2.2.1; have w4 := w.2.2.2; omega)]; exact r_RB; done) | (exfalso; omega; done) | (exfalso; contradiction; done)) (show qI (qIf (0 ≤ kk.toInt ∧ kk.toInt < (m 94 7).toInt ∧ zSl r1) (aMk aa kk ((m 97) kk.toNatClampNeg) LL r1) aa) from by first | (rw [qIf_n (fun w => by have w1 := w.1; have w2 := w.2.1; have w3 := w.2.2.1; have w4 := w.2.2.2; omega)]; exact r_QI; done) | (exfalso; omega; done) | (exfalso; contradiction; done)) (show qMG (m 94 58) (m 106) (m 115) (m 94 57) (m 94 56) (m 99) (m 100) (qIf (0 ≤ kk.toInt ∧ kk.toInt < (m 94 7).toInt ∧ zSl r1) (aMk aa kk ((m 97) kk.toNatClampNeg) LL r1) aa) from by first | (rw [qIf_n (fun w => by have w1 := w.1; have w2 := w.2.1; have w3 := w.2.2.1; have w4 := w.2.2.2; omega)]; exact r_MG; done) | (exfalso; omega; done) | (exfalso; contradiction; done)) (show (qIf (0 ≤ kk.toInt ∧ kk.toInt < (m 94 7).toInt ∧ zSl r1) (aMk aa kk ((m 97) kk.toNatClampNeg) LL r1) aa) 87 8 = (m 94 58) from by first | (rw [qIf_n (fun w => by have w1 := w.1; have w2 := w.2.1; have w3 := w.2.2.1; have w4 := w.2.2.2; omega)]; exact r_MK; done) | (exfalso; omega; done) | (exfalso; contradiction; done)) r_WTS
    · skip
      have g13 := i_nle h10
      have b14 := i_bd r1
      refine zd (fun (h15 : r1 < (0 : Int32)) => ?_) (fun (h15 : ¬ r1 < (0 : Int32)) => ?_)
      · skip
        have g16 := i_lt h15
        have hV17 : zV (ma_u m 94 0 (1 : Int32)) := uf_94_0 hV
        exact K ((0 : Int32)) _ (zF_u zF_rfl rfl) hV17 r_W (show zGW (T + 1) (m 94 55) (m 109) from by first | (exact GW_up r_GW (by omega)) | (exfalso; omega; done) | (exfalso; contradiction; done)) (show zGU (T + 1) (m 94 46) (m 99) from by first | (exact GU_up r_GU (by omega)) | (exact GU_0 r_GU) | (exfalso; omega; done) | (exfalso; contradiction; done)) r_OW r_GG (show qRB (m 99) (m 100) (m 98) (m 101) (m 102) (m 103) (m 107) (m 108) (m 109) (m 111) (m 112) (m 113) (m 114) (m 94 55) (m 94 46) (m 94 11) (m 94 12) (m 94 62) (m 94 17) (m 94 9) (qIf (0 ≤ kk.toInt ∧ kk.toInt < (m 94 7).toInt ∧ zSl r1) (aMk aa kk ((m 97) kk.toNatClampNeg) LL r1) aa) from by first | (rw [qIf_n (fun w => by have w1 := w.1; have w2 := w.2.1; have w3 := w.2.2.1; have w4 := w.2.2.2; omega)]; exact r_RB; done) | (exfalso; omega; done) | (exfalso; contradiction; done)) (show qI (qIf (0 ≤ kk.toInt ∧ kk.toInt < (m 94 7).toInt ∧ zSl r1) (aMk aa kk ((m 97) kk.toNatClampNeg) LL r1) aa) from by first | (rw [qIf_n (fun w => by have w1 := w.1; have w2 := w.2.1; have w3 := w.2.2.1; have w4 := w.2.2.2; omega)]; exact r_QI; done) | (exfalso; omega; done) | (exfalso; contradiction; done)) (show qMG (m 94 58) (m 106) (m 115) (m 94 57) (m 94 56) (m 99) (m 100) (qIf (0 ≤ kk.toInt ∧ kk.toInt < (m 94 7).toInt ∧ zSl r1) (aMk aa kk ((m 97) kk.toNatClampNeg) LL r1) aa) from by first | (rw [qIf_n (fun w => by have w1 := w.1; have w2 := w.2.1; have w3 := w.2.2.1; have w4 := w.2.2.2; omega)]; exact r_MG; done) | (exfalso; omega; done) | (exfalso; contradiction; done)) (show (qIf (0 ≤ kk.toInt ∧ kk.toInt < (m 94 7).toInt ∧ zSl r1) (aMk aa kk ((m 97) kk.toNatClampNeg) LL r1) aa) 87 8 = (m 94 58) from by first | (rw [qIf_n (fun w => by have w1 := w.1; have w2 := w.2.1; have w3 := w.2.2.1; have w4 := w.2.2.2; omega)]; exact r_MK; done) | (exfalso; omega; done) | (exfalso; contradiction; done)) r_WTS
      · skip
        have g18 := i_nlt h15
        have li19 : (16 : Int32).toInt = 16 := rfl
        refine zd (fun (h20 : (16 : Int32) ≤ r1) => ?_) (fun (h20 : ¬ (16 : Int32) ≤ r1) => ?_)
        · skip
          have g21 := i_le h20
          have hV22 : zV (ma_u m 94 0 (1 : Int32)) := uf_94_0 hV
          exact K ((0 : Int32)) _ (zF_u zF_rfl rfl) hV22 r_W (show zGW (T + 1) (m 94 55) (m 109) from by first | (exact GW_up r_GW (by omega)) | (exfalso; omega; done) | (exfalso; contradiction; done)) (show zGU (T + 1) (m 94 46) (m 99) from by first | (exact GU_up r_GU (by omega)) | (exact GU_0 r_GU) | (exfalso; omega; done) | (exfalso; contradiction; done)) r_OW r_GG (show qRB (m 99) (m 100) (m 98) (m 101) (m 102) (m 103) (m 107) (m 108) (m 109) (m 111) (m 112) (m 113) (m 114) (m 94 55) (m 94 46) (m 94 11) (m 94 12) (m 94 62) (m 94 17) (m 94 9) (qIf (0 ≤ kk.toInt ∧ kk.toInt < (m 94 7).toInt ∧ zSl r1) (aMk aa kk ((m 97) kk.toNatClampNeg) LL r1) aa) from by first | (rw [qIf_n (fun w => by have w1 := w.1; have w2 := w.2.1; have w3 := w.2.2.1; have w4 := w.2.2.2; omega)]; exact r_RB; done) | (exfalso; omega; done) | (exfalso; contradiction; done)) (show qI (qIf (0 ≤ kk.toInt ∧ kk.toInt < (m 94 7).toInt ∧ zSl r1) (aMk aa kk ((m 97) kk.toNatClampNeg) LL r1) aa) from by first | (rw [qIf_n (fun w => by have w1 := w.1; have w2 := w.2.1; have w3 := w.2.2.1; have w4 := w.2.2.2; omega)]; exact r_QI; done) | (exfalso; omega; done) | (exfalso; contradiction; done)) (show qMG (m 94 58) (m 106) (m 115) (m 94 57) (m 94 56) (m 99) (m 100) (qIf (0 ≤ kk.toInt ∧ kk.toInt < (m 94 7).toInt ∧ zSl r1) (aMk aa kk ((m 97) kk.toNatClampNeg) LL r1) aa) from by first | (rw [qIf_n (fun w => by have w1 := w.1; have w2 := w.2.1; have w3 := w.2.2.1; have w4 := w.2.2.2; omega)]; exact r_MG; done) | (exfalso; omega; done) | (exfalso; contradiction; done)) (show (qIf (0 ≤ kk.toInt ∧ kk.toInt < (m 94 7).toInt ∧ zSl r1) (aMk aa kk ((m 97) kk.toNatClampNeg) LL r1) aa) 87 8 = (m 94 58) from by first | (rw [qIf_n (fun w => by have w1 := w.1; have w2 := w.2.1; have w3 := w.2.2.1; have w4 := w.2.2.2; omega)]; exact r_MK; done) | (exfalso; omega; done) | (exfalso; contradiction; done)) r_WTS
        · skip
          have g23 := i_nle h20
          refine zd (fun (h24 : (m 94 8) = (0 : Int32)) => ?_) (fun (h24 : ¬ (m 94 8) = (0 : Int32)) => ?_)
          · skip
            have g25 := i_eq h24
            exfalso; omega
          · skip
            have g26 := i_ne h24
            have hg27 : (0 ≤ kk ∧ kk.toNatClampNeg < 16) := i_ix (by omega) (by omega)
            refine ⟨hg27, ?_⟩
            first | have f28 : 0 ≤ (m 97 kk.toNatClampNeg).toInt ∧ (m 97 kk.toNatClampNeg).toInt ≤ 8 := ra_97 (m := m) hV (k := kk.toNatClampNeg) (i_ix (n := 16) (by omega) (by omega)).2 | have b29 := i_bd (m 97 kk.toNatClampNeg)
            have hV30 : zV (ma_u m 94 0 (0 : Int32)) := uf_94_0 hV
            refine sp_183r (LL := LL) (kk) ((m 97 kk.toNatClampNeg)) (r1) hV30 (by omega) (by omega) (by omega) (by omega) (by omega) (by omega) (by omega) (show 16 ≤ kk.toInt ∨ kk.toInt < (m 94 7).toInt from by omega) (by omega) r_W r_GW r_GU r_OW r_GG (show (m 94 10).toInt = 5 from by omega) (show (m 94 8).toInt = 1 from by omega) r_RB r_QI r_MG r_MK r_WTS (show ∀ j : Nat, (j : Int) < (m 97 kk.toNatClampNeg).toInt → (zbit LL (Int32.ofNat j) ≠ 0 ↔ (kk = 16 ∨ (kk < 16 ∧ (((m 98) kk.toNatClampNeg >>> (Int32.ofNat j &&& 31)) &&& 1) = 1))) from by first | (exact r_BT1 ⟨by omega, by omega⟩) | (exfalso; omega; done) | (exfalso; contradiction; done)) (fun v2 m1 hV_m1 p0_m1 p1_m1 p2_m1 p3_m1 p4_m1 p5_m1 p6_m1 p7_m1 p8_m1 p9_m1 p10_m1 => zmi_n ?_)
            have p0_m1 : zW (m 94 7) (m 98) (m1 101) (m1 102) (m1 108) := p0_m1
            have p1_m1 : zGW (T + 1) (m1 94 55) (m1 109) := p1_m1
            have p2_m1 : zGU (T + 1) (m1 94 46) (m1 99) := p2_m1
            have p3_m1 : zOw (m1 99) (m1 103) (m1 111) := p3_m1
            have p4_m1 : zGG (m1 94 58) (m1 94 56) (m1 94 57) (m1 106) := p4_m1
            have p5_m1 : qRB (m1 99) (m1 100) (m 98) (m1 101) (m1 102) (m1 103) (m1 107) (m1 108) (m1 109) (m1 111) (m1 112) (m1 113) (m1 114) (m1 94 55) (m1 94 46) (m 94 11) (m 94 12) (m1 94 62) (m 94 17) (m 94 9) (aMk aa kk (m 97 kk.toNatClampNeg) LL r1) := p5_m1
            have p6_m1 : qI (aMk aa kk (m 97 kk.toNatClampNeg) LL r1) := p6_m1
            have p7_m1 : qMG (m1 94 58) (m1 106) (m1 115) (m1 94 57) (m1 94 56) (m1 99) (m1 100) (aMk aa kk (m 97 kk.toNatClampNeg) LL r1) := p7_m1
            have p8_m1 : (aMk aa kk (m 97 kk.toNatClampNeg) LL r1) 87 8 = (m1 94 58) := p8_m1
            have p9_m1 : (m1 94 45).toInt = sm (zbU (m1 99)) (m1 102) 3100 := p9_m1
            have p10_m1 : v2 = aMn aa (m 97 kk.toNatClampNeg) := p10_m1
            have b31 := i_bd v2
            exact K (v2) _ (zF_zov (zF_u zF_rfl rfl) ws_183_181) hV_m1 p0_m1 p1_m1 p2_m1 p3_m1 p4_m1 (show qRB (m1 99) (m1 100) (m 98) (m1 101) (m1 102) (m1 103) (m1 107) (m1 108) (m1 109) (m1 111) (m1 112) (m1 113) (m1 114) (m1 94 55) (m1 94 46) (m 94 11) (m 94 12) (m1 94 62) (m 94 17) (m 94 9) (qIf (0 ≤ kk.toInt ∧ kk.toInt < (m 94 7).toInt ∧ zSl r1) (aMk aa kk ((m 97) kk.toNatClampNeg) LL r1) aa) from by first | (rw [qIf_y ⟨by omega, by omega, by omega, by omega⟩]; exact p5_m1; done) | (exfalso; omega; done) | (exfalso; contradiction; done)) (show qI (qIf (0 ≤ kk.toInt ∧ kk.toInt < (m 94 7).toInt ∧ zSl r1) (aMk aa kk ((m 97) kk.toNatClampNeg) LL r1) aa) from by first | (rw [qIf_y ⟨by omega, by omega, by omega, by omega⟩]; exact p6_m1; done) | (exfalso; omega; done) | (exfalso; contradiction; done)) (show qMG (m1 94 58) (m1 106) (m1 115) (m1 94 57) (m1 94 56) (m1 99) (m1 100) (qIf (0 ≤ kk.toInt ∧ kk.toInt < (m 94 7).toInt ∧ zSl r1) (aMk aa kk ((m 97) kk.toNatClampNeg) LL r1) aa) from by first | (rw [qIf_y ⟨by omega, by omega, by omega, by omega⟩]; exact p7_m1; done) | (exfalso; omega; done) | (exfalso; contradiction; done)) (show (qIf (0 ≤ kk.toInt ∧ kk.toInt < (m 94 7).toInt ∧ zSl r1) (aMk aa kk ((m 97) kk.toNatClampNeg) LL r1) aa) 87 8 = (m1 94 58) from by first | (rw [qIf_y ⟨by omega, by omega, by omega, by omega⟩]; exact p8_m1; done) | (exfalso; omega; done) | (exfalso; contradiction; done)) p9_m1

/-! from 95.h42 -/
/-! the reference by numbers (written by wip/tools/gen18r.py) -/
theorem zb_all : ∀ j : Nat, j < 60 → zbit (-1) (Int32.ofNat j) ≠ 0 := by decide +kernel
theorem zb_non : ∀ j : Nat, j < 60 → zbit 0 (Int32.ofNat j) = 0 := by decide +kernel
set_option maxHeartbeats 8000000 in
theorem sp_243r {X : Nat × (Nat → Int32)} {P : Option ma_V → (Nat → Nat → Int32) → Prop} {T : Nat} {aa : Nat→Nat→Int32} {m : Nat → Nat → Int32} (rf : Int32) (nn : Int32) (r1 : Int32) (hV : zV m) (hpre0 : T + 1 ≤ 512) (hpre1 : 0 ≤ rf.toInt) (hpre2 : rf.toInt ≤ 1) (hpre3 : T ≤ 512) (r_W : zW (m 94 7) (m 98) (m 101) (m 102) (m 108)) (r_GW : zGW T (m 94 55) (m 109)) (r_GU : zGU T (m 94 46) (m 99)) (r_OW : zOw (m 99) (m 103) (m 111)) (r_GG : zGG (m 94 58) (m 94 56) (m 94 57) (m 106)) (hpre9 : (m 94 10).toInt = 5) (hpre10 : (m 94 8).toInt = 1) (r_RB : qRB (m 99) (m 100) (m 98) (m 101) (m 102) (m 103) (m 107) (m 108) (m 109) (m 111) (m 112) (m 113) (m 114) (m 94 55) (m 94 46) (m 94 11) (m 94 12) (m 94 62) (m 94 17) (m 94 9) aa) (r_QI : qI aa) (r_MG : qMG (m 94 58) (m 106) (m 115) (m 94 57) (m 94 56) (m 99) (m 100) aa) (r_MK : aa 87 8 = (m 94 58)) (r_WTS : (m 94 45).toInt = sm (zbU (m 99)) (m 102) 3100) (KZ : ∀ v m₉, zV (zov wr_243 m m₉) → (zW (m 94 7) (m 98) (m₉ 101) (m₉ 102) (m₉ 108)) → (zGW (T + 1) (m₉ 94 55) (m₉ 109)) → (zGU (T + 1) (m₉ 94 46) (m₉ 99)) → (zOw (m₉ 99) (m₉ 103) (m₉ 111)) → (zGG (m₉ 94 58) (m₉ 94 56) (m₉ 94 57) (m₉ 106)) → (qRB (m₉ 99) (m₉ 100) (m 98) (m₉ 101) (m₉ 102) (m₉ 103) (m₉ 107) (m₉ 108) (m₉ 109) (m₉ 111) (m₉ 112) (m₉ 113) (m₉ 114) (m₉ 94 55) (m₉ 94 46) (m 94 11) (m 94 12) (m₉ 94 62) (m 94 17) (m 94 9) (qIf (0 ≤ nn.toInt ∧ nn.toInt ≤ 60 ∧ zSl r1) (if rf = 0 then aMk aa 17 nn 0 r1 else aMk aa 16 nn (-1) r1) aa)) → (qI (qIf (0 ≤ nn.toInt ∧ nn.toInt ≤ 60 ∧ zSl r1) (if rf = 0 then aMk aa 17 nn 0 r1 else aMk aa 16 nn (-1) r1) aa)) → (qMG (m₉ 94 58) (m₉ 106) (m₉ 115) (m₉ 94 57) (m₉ 94 56) (m₉ 99) (m₉ 100) (qIf (0 ≤ nn.toInt ∧ nn.toInt ≤ 60 ∧ zSl r1) (if rf = 0 then aMk aa 17 nn 0 r1 else aMk aa 16 nn (-1) r1) aa)) → ((qIf (0 ≤ nn.toInt ∧ nn.toInt ≤ 60 ∧ zSl r1) (if rf = 0 then aMk aa 17 nn 0 r1 else aMk aa 16 nn (-1) r1) aa) 87 8 = (m₉ 94 58)) → ((m₉ 94 45).toInt = sm (zbU (m₉ 99)) (m₉ 102) 3100) → P (some (.inl v)) (zov wr_243 m m₉)) : zm X 10 224 243 0 [(0, .inr (.inr (some 94))), (1, .inl rf), (2, .inl nn), (3, .inl r1)] m P := by
  have K : ∀ v m₉, zF wr_243 m m₉ → zV m₉ → (zW (m₉ 94 7) (m₉ 98) (m₉ 101) (m₉ 102) (m₉ 108)) → (zGW (T + 1) (m₉ 94 55) (m₉ 109)) → (zGU (T + 1) (m₉ 94 46) (m₉ 99)) → (zOw (m₉ 99) (m₉ 103) (m₉ 111)) → (zGG (m₉ 94 58) (m₉ 94 56) (m₉ 94 57) (m₉ 106)) → (qRB (m₉ 99) (m₉ 100) (m₉ 98) (m₉ 101) (m₉ 102) (m₉ 103) (m₉ 107) (m₉ 108) (m₉ 109) (m₉ 111) (m₉ 112) (m₉ 113) (m₉ 114) (m₉ 94 55) (m₉ 94 46) (m₉ 94 11) (m₉ 94 12) (m₉ 94 62) (m₉ 94 17) (m₉ 94 9) (qIf (0 ≤ nn.toInt ∧ nn.toInt ≤ 60 ∧ zSl r1) (if rf = 0 then aMk aa 17 nn 0 r1 else aMk aa 16 nn (-1) r1) aa)) → (qI (qIf (0 ≤ nn.toInt ∧ nn.toInt ≤ 60 ∧ zSl r1) (if rf = 0 then aMk aa 17 nn 0 r1 else aMk aa 16 nn (-1) r1) aa)) → (qMG (m₉ 94 58) (m₉ 106) (m₉ 115) (m₉ 94 57) (m₉ 94 56) (m₉ 99) (m₉ 100) (qIf (0 ≤ nn.toInt ∧ nn.toInt ≤ 60 ∧ zSl r1) (if rf = 0 then aMk aa 17 nn 0 r1 else aMk aa 16 nn (-1) r1) aa)) → ((qIf (0 ≤ nn.toInt ∧ nn.toInt ≤ 60 ∧ zSl r1) (if rf = 0 then aMk aa 17 nn 0 r1 else aMk aa 16 nn (-1) r1) aa) 87 8 = (m₉ 94 58)) → ((m₉ 94 45).toInt = sm (zbU (m₉ 99)) (m₉ 102) 3100) → P (some (.inl v)) m₉ := by
    intro v m₉ hf z q0 q1 q2 q3 q4 q5 q6 q7 q8 q9
    have e := zov_eq hf
    rw [e] at z ⊢
    try rw [e] at q0
    try rw [e] at q1
    try rw [e] at q2
    try rw [e] at q3
    try rw [e] at q4
    try rw [e] at q5
    try rw [e] at q6
    try rw [e] at q7
    try rw [e] at q8
    try rw [e] at q9
    exact KZ v m₉ z q0 q1 q2 q3 q4 q5 q6 q7 q8 q9
  refine g_243_0 rf nn r1 ?_
  have f1 : 0 ≤ (m 94 10).toInt ∧ (m 94 10).toInt ≤ 6 := rs_94_10 (m := m) hV
  have f2 : 0 ≤ (m 94 8).toInt ∧ (m 94 8).toInt ≤ 1 := rs_94_8 (m := m) hV
  have b3 := i_bd nn
  have li4 : (0 : Int32).toInt = 0 := rfl
  refine zd (fun (h5 : nn < (0 : Int32)) => ?_) (fun (h5 : ¬ nn < (0 : Int32)) => ?_)
  · skip
    have g6 := i_lt h5
    have hV7 : zV (ma_u m 94 0 (1 : Int32)) := uf_94_0 hV
    exact K ((0 : Int32)) _ (zF_u zF_rfl rfl) hV7 r_W (show zGW (T + 1) (m 94 55) (m 109) from by first | (exact GW_up r_GW (by omega)) | (exfalso; omega; done) | (exfalso; contradiction; done)) (show zGU (T + 1) (m 94 46) (m 99) from by first | (exact GU_up r_GU (by omega)) | (exact GU_0 r_GU) | (exfalso; omega; done) | (exfalso; contradiction; done)) r_OW r_GG (show qRB (m 99) (m 100) (m 98) (m 101) (m 102) (m 103) (m 107) (m 108) (m 109) (m 111) (m 112) (m 113) (m 114) (m 94 55) (m 94 46) (m 94 11) (m 94 12) (m 94 62) (m 94 17) (m 94 9) (qIf (0 ≤ nn.toInt ∧ nn.toInt ≤ 60 ∧ zSl r1) (if rf = 0 then aMk aa 17 nn 0 r1 else aMk aa 16 nn (-1) r1) aa) from by first | (rw [qIf_n (fun w => by have w1 := w.1; have w2 := w.2.1; have w3 := w.2.2.1; have w4 := w.2.2.2; omega)]; exact r_RB; done) | (exfalso; omega; done) | (exfalso; contradiction; done)) (show qI (qIf (0 ≤ nn.toInt ∧ nn.toInt ≤ 60 ∧ zSl r1) (if rf = 0 then aMk aa 17 nn 0 r1 else aMk aa 16 nn (-1) r1) aa) from by first | (rw [qIf_n (fun w => by have w1 := w.1; have w2 := w.2.1; have w3 := w.2.2.1; have w4 := w.2.2.2; omega)]; exact r_QI; done) | (exfalso; omega; done) | (exfalso; contradiction; done)) (show qMG (m 94 58) (m 106) (m 115) (m 94 57) (m 94 56) (m 99) (m 100) (qIf (0 ≤ nn.toInt ∧ nn.toInt ≤ 60 ∧ zSl r1) (if rf = 0 then aMk aa 17 nn 0 r1 else aMk aa 16 nn (-1) r1) aa) from by first | (rw [qIf_n (fun w => by have w1 := w.1; have w2 := w.2.1; have w3 := w.2.2.1; have w4 := w.2.2.2; omega)]; exact r_MG; done) | (exfalso; omega; done) | (exfalso; contradiction; done)) (show (qIf (0 ≤ nn.toInt ∧ nn.toInt ≤ 60 ∧ zSl r1) (if rf = 0 then aMk aa 17 nn 0 r1 else aMk aa 16 nn (-1) r1) aa) 87 8 = (m 94 58) from by first | (rw [qIf_n (fun w => by have w1 := w.1; have w2 := w.2.1; have w3 := w.2.2.1; have w4 := w.2.2.2; omega)]; exact r_MK; done) | (exfalso; omega; done) | (exfalso; contradiction; done)) r_WTS
  · skip
    have g8 := i_nlt h5
    have li9 : (60 : Int32).toInt = 60 := rfl
    refine zd (fun (h10 : (60 : Int32) < nn) => ?_) (fun (h10 : ¬ (60 : Int32) < nn) => ?_)
    · skip
      have g11 := i_lt h10
      have hV12 : zV (ma_u m 94 0 (1 : Int32)) := uf_94_0 hV
      exact K ((0 : Int32)) _ (zF_u zF_rfl rfl) hV12 r_W (show zGW (T + 1) (m 94 55) (m 109) from by first | (exact GW_up r_GW (by omega)) | (exfalso; omega; done) | (exfalso; contradiction; done)) (show zGU (T + 1) (m 94 46) (m 99) from by first | (exact GU_up r_GU (by omega)) | (exact GU_0 r_GU) | (exfalso; omega; done) | (exfalso; contradiction; done)) r_OW r_GG (show qRB (m 99) (m 100) (m 98) (m 101) (m 102) (m 103) (m 107) (m 108) (m 109) (m 111) (m 112) (m 113) (m 114) (m 94 55) (m 94 46) (m 94 11) (m 94 12) (m 94 62) (m 94 17) (m 94 9) (qIf (0 ≤ nn.toInt ∧ nn.toInt ≤ 60 ∧ zSl r1) (if rf = 0 then aMk aa 17 nn 0 r1 else aMk aa 16 nn (-1) r1) aa) from by first | (rw [qIf_n (fun w => by have w1 := w.1; have w2 := w.2.1; have w3 := w.2.2.1; have w4 := w.2.2.2; omega)]; exact r_RB; done) | (exfalso; omega; done) | (exfalso; contradiction; done)) (show qI (qIf (0 ≤ nn.toInt ∧ nn.toInt ≤ 60 ∧ zSl r1) (if rf = 0 then aMk aa 17 nn 0 r1 else aMk aa 16 nn (-1) r1) aa) from by first | (rw [qIf_n (fun w => by have w1 := w.1; have w2 := w.2.1; have w3 := w.2.2.1; have w4 := w.2.2.2; omega)]; exact r_QI; done) | (exfalso; omega; done) | (exfalso; contradiction; done)) (show qMG (m 94 58) (m 106) (m 115) (m 94 57) (m 94 56) (m 99) (m 100) (qIf (0 ≤ nn.toInt ∧ nn.toInt ≤ 60 ∧ zSl r1) (if rf = 0 then aMk aa 17 nn 0 r1 else aMk aa 16 nn (-1) r1) aa) from by first | (rw [qIf_n (fun w => by have w1 := w.1; have w2 := w.2.1; have w3 := w.2.2.1; have w4 := w.2.2.2; omega)]; exact r_MG; done) | (exfalso; omega; done) | (exfalso; contradiction; done)) (show (qIf (0 ≤ nn.toInt ∧ nn.toInt ≤ 60 ∧ zSl r1) (if rf = 0 then aMk aa 17 nn 0 r1 else aMk aa 16 nn (-1) r1) aa) 87 8 = (m 94 58) from by first | (rw [qIf_n (fun w => by have w1 := w.1; have w2 := w.2.1; have w3 := w.2.2.1; have w4 := w.2.2.2; omega)]; exact r_MK; done) | (exfalso; omega; done) | (exfalso; contradiction; done)) r_WTS
    · skip
      have g13 := i_nlt h10
      have b14 := i_bd r1
      refine zd (fun (h15 : r1 < (0 : Int32)) => ?_) (fun (h15 : ¬ r1 < (0 : Int32)) => ?_)
      · skip
        have g16 := i_lt h15
        have hV17 : zV (ma_u m 94 0 (1 : Int32)) := uf_94_0 hV
        exact K ((0 : Int32)) _ (zF_u zF_rfl rfl) hV17 r_W (show zGW (T + 1) (m 94 55) (m 109) from by first | (exact GW_up r_GW (by omega)) | (exfalso; omega; done) | (exfalso; contradiction; done)) (show zGU (T + 1) (m 94 46) (m 99) from by first | (exact GU_up r_GU (by omega)) | (exact GU_0 r_GU) | (exfalso; omega; done) | (exfalso; contradiction; done)) r_OW r_GG (show qRB (m 99) (m 100) (m 98) (m 101) (m 102) (m 103) (m 107) (m 108) (m 109) (m 111) (m 112) (m 113) (m 114) (m 94 55) (m 94 46) (m 94 11) (m 94 12) (m 94 62) (m 94 17) (m 94 9) (qIf (0 ≤ nn.toInt ∧ nn.toInt ≤ 60 ∧ zSl r1) (if rf = 0 then aMk aa 17 nn 0 r1 else aMk aa 16 nn (-1) r1) aa) from by first | (rw [qIf_n (fun w => by have w1 := w.1; have w2 := w.2.1; have w3 := w.2.2.1; have w4 := w.2.2.2; omega)]; exact r_RB; done) | (exfalso; omega; done) | (exfalso; contradiction; done)) (show qI (qIf (0 ≤ nn.toInt ∧ nn.toInt ≤ 60 ∧ zSl r1) (if rf = 0 then aMk aa 17 nn 0 r1 else aMk aa 16 nn (-1) r1) aa) from by first | (rw [qIf_n (fun w => by have w1 := w.1; have w2 := w.2.1; have w3 := w.2.2.1; have w4 := w.2.2.2; omega)]; exact r_QI; done) | (exfalso; omega; done) | (exfalso; contradiction; done)) (show qMG (m 94 58) (m 106) (m 115) (m 94 57) (m 94 56) (m 99) (m 100) (qIf (0 ≤ nn.toInt ∧ nn.toInt ≤ 60 ∧ zSl r1) (if rf = 0 then aMk aa 17 nn 0 r1 else aMk aa 16 nn (-1) r1) aa) from by first | (rw [qIf_n (fun w => by have w1 := w.1; have w2 := w.2.1; have w3 := w.2.2.1; have w4 := w.2.2.2; omega)]; exact r_MG; done) | (exfalso; omega; done) | (exfalso; contradiction; done)) (show (qIf (0 ≤ nn.toInt ∧ nn.toInt ≤ 60 ∧ zSl r1) (if rf = 0 then aMk aa 17 nn 0 r1 else aMk aa 16 nn (-1) r1) aa) 87 8 = (m 94 58) from by first | (rw [qIf_n (fun w => by have w1 := w.1; have w2 := w.2.1; have w3 := w.2.2.1; have w4 := w.2.2.2; omega)]; exact r_MK; done) | (exfalso; omega; done) | (exfalso; contradiction; done)) r_WTS
      · skip
        have g18 := i_nlt h15
        have li19 : (16 : Int32).toInt = 16 := rfl
        refine zd (fun (h20 : (16 : Int32) ≤ r1) => ?_) (fun (h20 : ¬ (16 : Int32) ≤ r1) => ?_)
        · skip
          have g21 := i_le h20
          have hV22 : zV (ma_u m 94 0 (1 : Int32)) := uf_94_0 hV
          exact K ((0 : Int32)) _ (zF_u zF_rfl rfl) hV22 r_W (show zGW (T + 1) (m 94 55) (m 109) from by first | (exact GW_up r_GW (by omega)) | (exfalso; omega; done) | (exfalso; contradiction; done)) (show zGU (T + 1) (m 94 46) (m 99) from by first | (exact GU_up r_GU (by omega)) | (exact GU_0 r_GU) | (exfalso; omega; done) | (exfalso; contradiction; done)) r_OW r_GG (show qRB (m 99) (m 100) (m 98) (m 101) (m 102) (m 103) (m 107) (m 108) (m 109) (m 111) (m 112) (m 113) (m 114) (m 94 55) (m 94 46) (m 94 11) (m 94 12) (m 94 62) (m 94 17) (m 94 9) (qIf (0 ≤ nn.toInt ∧ nn.toInt ≤ 60 ∧ zSl r1) (if rf = 0 then aMk aa 17 nn 0 r1 else aMk aa 16 nn (-1) r1) aa) from by first | (rw [qIf_n (fun w => by have w1 := w.1; have w2 := w.2.1; have w3 := w.2.2.1; have w4 := w.2.2.2; omega)]; exact r_RB; done) | (exfalso; omega; done) | (exfalso; contradiction; done)) (show qI (qIf (0 ≤ nn.toInt ∧ nn.toInt ≤ 60 ∧ zSl r1) (if rf = 0 then aMk aa 17 nn 0 r1 else aMk aa 16 nn (-1) r1) aa) from by first | (rw [qIf_n (fun w => by have w1 := w.1; have w2 := w.2.1; have w3 := w.2.2.1; have w4 := w.2.2.2; omega)]; exact r_QI; done) | (exfalso; omega; done) | (exfalso; contradiction; done)) (show qMG (m 94 58) (m 106) (m 115) (m 94 57) (m 94 56) (m 99) (m 100) (qIf (0 ≤ nn.toInt ∧ nn.toInt ≤ 60 ∧ zSl r1) (if rf = 0 then aMk aa 17 nn 0 r1 else aMk aa 16 nn (-1) r1) aa) from by first | (rw [qIf_n (fun w => by have w1 := w.1; have w2 := w.2.1; have w3 := w.2.2.1; have w4 := w.2.2.2; omega)]; exact r_MG; done) | (exfalso; omega; done) | (exfalso; contradiction; done)) (show (qIf (0 ≤ nn.toInt ∧ nn.toInt ≤ 60 ∧ zSl r1) (if rf = 0 then aMk aa 17 nn 0 r1 else aMk aa 16 nn (-1) r1) aa) 87 8 = (m 94 58) from by first | (rw [qIf_n (fun w => by have w1 := w.1; have w2 := w.2.1; have w3 := w.2.2.1; have w4 := w.2.2.2; omega)]; exact r_MK; done) | (exfalso; omega; done) | (exfalso; contradiction; done)) r_WTS
        · skip
          have g23 := i_nle h20
          refine zd (fun (h24 : (m 94 8) = (0 : Int32)) => ?_) (fun (h24 : ¬ (m 94 8) = (0 : Int32)) => ?_)
          · skip
            have g25 := i_eq h24
            exfalso; omega
          · skip
            have g26 := i_ne h24
            have b27 := i_bd rf
            refine zd (fun (h28 : rf = (0 : Int32)) => ?_) (fun (h28 : ¬ rf = (0 : Int32)) => ?_)
            · skip
              have g29 := i_eq h28
              have li30 : (17 : Int32).toInt = 17 := rfl
              have hV31 : zV (ma_u m 94 0 (0 : Int32)) := uf_94_0 hV
              have f32 : 0 ≤ (m 94 7).toInt ∧ (m 94 7).toInt ≤ 16 := rs_94_7 (m := m) hV
              refine sp_183r (LL := (0 : Int64)) ((17 : Int32)) (nn) (r1) hV31 (by omega) (by omega) (by omega) (by omega) (by omega) (by omega) (by omega) (show 16 ≤ (17 : Int32).toInt ∨ (17 : Int32).toInt < (m 94 7).toInt from by omega) (by omega) r_W r_GW r_GU r_OW r_GG (show (m 94 10).toInt = 5 from by omega) (show (m 94 8).toInt = 1 from by omega) r_RB r_QI r_MG r_MK r_WTS (show ∀ j : Nat, (j : Int) < nn.toInt → (zbit (0 : Int64) (Int32.ofNat j) ≠ 0 ↔ ((17 : Int32) = 16 ∨ ((17 : Int32) < 16 ∧ (((m 98) (17 : Int32).toNatClampNeg >>> (Int32.ofNat j &&& 31)) &&& 1) = 1))) from by first | (exact fun j hj => ⟨fun _ => Or.inl rfl, fun _ => zb_all j (by omega)⟩) | (exact fun j hj => ⟨fun w => absurd (zb_non j (by omega)) w, fun w => w.elim (fun z => absurd z (by decide)) (fun z => absurd z.1 (by decide))⟩) | (exfalso; omega; done) | (exfalso; contradiction; done)) (fun v2 m1 hV_m1 p0_m1 p1_m1 p2_m1 p3_m1 p4_m1 p5_m1 p6_m1 p7_m1 p8_m1 p9_m1 p10_m1 => zmi_n ?_)
              have p0_m1 : zW (m 94 7) (m 98) (m1 101) (m1 102) (m1 108) := p0_m1
              have p1_m1 : zGW (T + 1) (m1 94 55) (m1 109) := p1_m1
              have p2_m1 : zGU (T + 1) (m1 94 46) (m1 99) := p2_m1
              have p3_m1 : zOw (m1 99) (m1 103) (m1 111) := p3_m1
              have p4_m1 : zGG (m1 94 58) (m1 94 56) (m1 94 57) (m1 106) := p4_m1
              have p5_m1 : qRB (m1 99) (m1 100) (m 98) (m1 101) (m1 102) (m1 103) (m1 107) (m1 108) (m1 109) (m1 111) (m1 112) (m1 113) (m1 114) (m1 94 55) (m1 94 46) (m 94 11) (m 94 12) (m1 94 62) (m 94 17) (m 94 9) (aMk aa (17 : Int32) nn (0 : Int64) r1) := p5_m1
              have p6_m1 : qI (aMk aa (17 : Int32) nn (0 : Int64) r1) := p6_m1
              have p7_m1 : qMG (m1 94 58) (m1 106) (m1 115) (m1 94 57) (m1 94 56) (m1 99) (m1 100) (aMk aa (17 : Int32) nn (0 : Int64) r1) := p7_m1
              have p8_m1 : (aMk aa (17 : Int32) nn (0 : Int64) r1) 87 8 = (m1 94 58) := p8_m1
              have p9_m1 : (m1 94 45).toInt = sm (zbU (m1 99)) (m1 102) 3100 := p9_m1
              have p10_m1 : v2 = aMn aa nn := p10_m1
              have b33 := i_bd v2
              exact K (v2) _ (zF_zov (zF_u zF_rfl rfl) ws_183_243) hV_m1 p0_m1 p1_m1 p2_m1 p3_m1 p4_m1 (show qRB (m1 99) (m1 100) (m 98) (m1 101) (m1 102) (m1 103) (m1 107) (m1 108) (m1 109) (m1 111) (m1 112) (m1 113) (m1 114) (m1 94 55) (m1 94 46) (m 94 11) (m 94 12) (m1 94 62) (m 94 17) (m 94 9) (qIf (0 ≤ nn.toInt ∧ nn.toInt ≤ 60 ∧ zSl r1) (if rf = 0 then aMk aa 17 nn 0 r1 else aMk aa 16 nn (-1) r1) aa) from by first | (rw [qIf_y ⟨by omega, by omega, by omega, by omega⟩, if_pos (i_zer (by omega))]; exact p5_m1; done) | (exfalso; omega; done) | (exfalso; contradiction; done)) (show qI (qIf (0 ≤ nn.toInt ∧ nn.toInt ≤ 60 ∧ zSl r1) (if rf = 0 then aMk aa 17 nn 0 r1 else aMk aa 16 nn (-1) r1) aa) from by first | (rw [qIf_y ⟨by omega, by omega, by omega, by omega⟩, if_pos (i_zer (by omega))]; exact p6_m1; done) | (exfalso; omega; done) | (exfalso; contradiction; done)) (show qMG (m1 94 58) (m1 106) (m1 115) (m1 94 57) (m1 94 56) (m1 99) (m1 100) (qIf (0 ≤ nn.toInt ∧ nn.toInt ≤ 60 ∧ zSl r1) (if rf = 0 then aMk aa 17 nn 0 r1 else aMk aa 16 nn (-1) r1) aa) from by first | (rw [qIf_y ⟨by omega, by omega, by omega, by omega⟩, if_pos (i_zer (by omega))]; exact p7_m1; done) | (exfalso; omega; done) | (exfalso; contradiction; done)) (show (qIf (0 ≤ nn.toInt ∧ nn.toInt ≤ 60 ∧ zSl r1) (if rf = 0 then aMk aa 17 nn 0 r1 else aMk aa 16 nn (-1) r1) aa) 87 8 = (m1 94 58) from by first | (rw [qIf_y ⟨by omega, by omega, by omega, by omega⟩, if_pos (i_zer (by omega))]; exact p8_m1; done) | (exfalso; omega; done) | (exfalso; contradiction; done)) p9_m1
            · skip
              have g34 := i_ne h28
              have hV35 : zV (ma_u m 94 0 (0 : Int32)) := uf_94_0 hV
              have f36 : 0 ≤ (m 94 7).toInt ∧ (m 94 7).toInt ≤ 16 := rs_94_7 (m := m) hV
              refine sp_183r (LL := (-1 : Int64)) ((16 : Int32)) (nn) (r1) hV35 (by omega) (by omega) (by omega) (by omega) (by omega) (by omega) (by omega) (show 16 ≤ (16 : Int32).toInt ∨ (16 : Int32).toInt < (m 94 7).toInt from by omega) (by omega) r_W r_GW r_GU r_OW r_GG (show (m 94 10).toInt = 5 from by omega) (show (m 94 8).toInt = 1 from by omega) r_RB r_QI r_MG r_MK r_WTS (show ∀ j : Nat, (j : Int) < nn.toInt → (zbit (-1 : Int64) (Int32.ofNat j) ≠ 0 ↔ ((16 : Int32) = 16 ∨ ((16 : Int32) < 16 ∧ (((m 98) (16 : Int32).toNatClampNeg >>> (Int32.ofNat j &&& 31)) &&& 1) = 1))) from by first | (exact fun j hj => ⟨fun _ => Or.inl rfl, fun _ => zb_all j (by omega)⟩) | (exact fun j hj => ⟨fun w => absurd (zb_non j (by omega)) w, fun w => w.elim (fun z => absurd z (by decide)) (fun z => absurd z.1 (by decide))⟩) | (exfalso; omega; done) | (exfalso; contradiction; done)) (fun v4 m3 hV_m3 p0_m3 p1_m3 p2_m3 p3_m3 p4_m3 p5_m3 p6_m3 p7_m3 p8_m3 p9_m3 p10_m3 => zmi_n ?_)
              have p0_m3 : zW (m 94 7) (m 98) (m3 101) (m3 102) (m3 108) := p0_m3
              have p1_m3 : zGW (T + 1) (m3 94 55) (m3 109) := p1_m3
              have p2_m3 : zGU (T + 1) (m3 94 46) (m3 99) := p2_m3
              have p3_m3 : zOw (m3 99) (m3 103) (m3 111) := p3_m3
              have p4_m3 : zGG (m3 94 58) (m3 94 56) (m3 94 57) (m3 106) := p4_m3
              have p5_m3 : qRB (m3 99) (m3 100) (m 98) (m3 101) (m3 102) (m3 103) (m3 107) (m3 108) (m3 109) (m3 111) (m3 112) (m3 113) (m3 114) (m3 94 55) (m3 94 46) (m 94 11) (m 94 12) (m3 94 62) (m 94 17) (m 94 9) (aMk aa (16 : Int32) nn (-1 : Int64) r1) := p5_m3
              have p6_m3 : qI (aMk aa (16 : Int32) nn (-1 : Int64) r1) := p6_m3
              have p7_m3 : qMG (m3 94 58) (m3 106) (m3 115) (m3 94 57) (m3 94 56) (m3 99) (m3 100) (aMk aa (16 : Int32) nn (-1 : Int64) r1) := p7_m3
              have p8_m3 : (aMk aa (16 : Int32) nn (-1 : Int64) r1) 87 8 = (m3 94 58) := p8_m3
              have p9_m3 : (m3 94 45).toInt = sm (zbU (m3 99)) (m3 102) 3100 := p9_m3
              have p10_m3 : v4 = aMn aa nn := p10_m3
              have b37 := i_bd v4
              exact K (v4) _ (zF_zov (zF_u zF_rfl rfl) ws_183_243) hV_m3 p0_m3 p1_m3 p2_m3 p3_m3 p4_m3 (show qRB (m3 99) (m3 100) (m 98) (m3 101) (m3 102) (m3 103) (m3 107) (m3 108) (m3 109) (m3 111) (m3 112) (m3 113) (m3 114) (m3 94 55) (m3 94 46) (m 94 11) (m 94 12) (m3 94 62) (m 94 17) (m 94 9) (qIf (0 ≤ nn.toInt ∧ nn.toInt ≤ 60 ∧ zSl r1) (if rf = 0 then aMk aa 17 nn 0 r1 else aMk aa 16 nn (-1) r1) aa) from by first | (rw [qIf_y ⟨by omega, by omega, by omega, by omega⟩, if_neg (i_nz2 (by omega))]; exact p5_m3; done) | (exfalso; omega; done) | (exfalso; contradiction; done)) (show qI (qIf (0 ≤ nn.toInt ∧ nn.toInt ≤ 60 ∧ zSl r1) (if rf = 0 then aMk aa 17 nn 0 r1 else aMk aa 16 nn (-1) r1) aa) from by first | (rw [qIf_y ⟨by omega, by omega, by omega, by omega⟩, if_neg (i_nz2 (by omega))]; exact p6_m3; done) | (exfalso; omega; done) | (exfalso; contradiction; done)) (show qMG (m3 94 58) (m3 106) (m3 115) (m3 94 57) (m3 94 56) (m3 99) (m3 100) (qIf (0 ≤ nn.toInt ∧ nn.toInt ≤ 60 ∧ zSl r1) (if rf = 0 then aMk aa 17 nn 0 r1 else aMk aa 16 nn (-1) r1) aa) from by first | (rw [qIf_y ⟨by omega, by omega, by omega, by omega⟩, if_neg (i_nz2 (by omega))]; exact p7_m3; done) | (exfalso; omega; done) | (exfalso; contradiction; done)) (show (qIf (0 ≤ nn.toInt ∧ nn.toInt ≤ 60 ∧ zSl r1) (if rf = 0 then aMk aa 17 nn 0 r1 else aMk aa 16 nn (-1) r1) aa) 87 8 = (m3 94 58) from by first | (rw [qIf_y ⟨by omega, by omega, by omega, by omega⟩, if_neg (i_nz2 (by omega))]; exact p8_m3; done) | (exfalso; omega; done) | (exfalso; contradiction; done)) p9_m3

/-! from 95.h43 -/
/-! the reference by numbers (written by wip/tools/gen18r.py) -/
/-! A HEAP IS OPENED: what the text says of steps -/
def qPo (t : Nat → Int32) (n : Int) : Int := zPol t (Int32.ofInt (zts t n 0)) (zte t n 0 - zts t n 0)
def qV (t : Nat → Int32) (n : Int) (ro fo ra : Int) (pi : Int32) : Prop := ro = zVal t n 0 1 ∧ fo = zVal t n 6 2 ∧ ra = zVal t n 3 3 ∧ ((pi ≠ 0 ∧ zVal t n 7 4 = 0) ∨ (pi = 0 ∧ zVal t n 7 4 = 1)) ∧ 0 ≤ ra
section QH
variable {t t₉ : Nat → Int32} {n z e v : Int} {s pi : Int32} {k c : Nat}
theorem zt_pz (hs : s.toInt = tk true t n 0) (he : e = tk false t n s.toInt) (h : v = zPol t s z) (hz : z = e - s.toInt) : v = qPo t n := zt_p hs he (by rw [← hz]; exact h)
theorem zt_cg (h : ∀ k : Nat, (k : Int) < n → t k = t₉ k) (hn : 0 ≤ n) : ∀ k, zts t n k = zts t₉ n k ∧ zte t n k = zte t₉ n k ∧ 0 ≤ zts t₉ n k ∧ zts t₉ n k ≤ zte t₉ n k ∧ zte t₉ n k ≤ n := by
  have st : ∀ p : Int, 0 ≤ p → p ≤ n → tk true t n p = tk true t₉ n p ∧ tk false t n (tk true t n p) = tk false t₉ n (tk true t₉ n p) ∧ 0 ≤ tk true t₉ n p ∧ tk true t₉ n p ≤ tk false t₉ n (tk true t₉ n p) ∧ tk false t₉ n (tk true t₉ n p) ≤ n := fun p h0 h1 => by
    have q1 : tk true t n p = tk true t₉ n p := tk_cg h h0
    have q0 : p ≤ tk true t₉ n p := tk_lo
    have q2 : tk false t n (tk true t₉ n p) = tk false t₉ n (tk true t₉ n p) := tk_cg h (by omega)
    have q3 : tk true t₉ n p ≤ n := tk_hi h1
    have q4 : tk true t₉ n p ≤ tk false t₉ n (tk true t₉ n p) := tk_lo
    have q5 : tk false t₉ n (tk true t₉ n p) ≤ n := tk_hi q3
    exact ⟨q1, by rw [q1, q2], by omega, q4, q5⟩
  intro k
  induction k with
  | zero => exact st 0 (by omega) hn
  | succ k ih =>
    have q := st (zte t₉ n k) (by omega) ih.2.2.2.2
    show tk true t n (zte t n k) = tk true t₉ n (zte t₉ n k) ∧ tk false t n (tk true t n (zte t n k)) = tk false t₉ n (tk true t₉ n (zte t₉ n k)) ∧ _
    rw [ih.2.1]
    exact q
theorem zVal_cg (h : ∀ k : Nat, (k : Int) < n → t k = t₉ k) (hn : 0 ≤ n) (h3 : n ≤ 100) : zVal t n c k = zVal t₉ n c k := by
  have q := zt_cg h hn k
  unfold zVal
  rw [q.1, q.2.1]
  exact zPart_cg h q.2.2.1 q.2.2.2.1 q.2.2.2.2 h3
theorem qPo_cg (h : ∀ k : Nat, (k : Int) < n → t k = t₉ k) (hn : 0 ≤ n) (h3 : n ≤ 100) : qPo t n = qPo t₉ n := by
  have q := zt_cg h hn 0
  have e : (Int32.ofInt (zts t₉ n 0)).toInt = zts t₉ n 0 := Int32.toInt_ofInt_of_le (by have := q.2.2; omega) (by have := q.2.2; omega)
  unfold qPo
  rw [q.1, q.2.1]
  exact zPol_cg h (by have := q.2.2; omega) (by have := q.2.2; omega) h3
theorem qV_cg {ro fo ra : Int} (h : ∀ k : Nat, (k : Int) < n → t k = t₉ k) (hn : 0 ≤ n) (h3 : n ≤ 100) (w : qV t n ro fo ra pi) : qV t₉ n ro fo ra pi := by
  unfold qV at w ⊢
  rw [zVal_cg h hn h3, zVal_cg (c := 6) h hn h3, zVal_cg (c := 3) h hn h3, zVal_cg (c := 7) h hn h3] at w
  exact w
theorem J5_nn {Z K ny no ro si : Int} (h : zJ5 Z K ny no ro si) (h1 : 0 ≤ ny) (h2 : 0 ≤ no) (h3 : 0 ≤ ro) (h4 : 0 ≤ si) : 0 ≤ Z := by
  have f : ∀ a b : Int, 0 ≤ a → 0 ≤ b → 0 ≤ zFin K a b := fun a b ha hb => by
    unfold zFin
    split
    · omega
    · split
      · omega
      · split
        · exact Int.mul_nonneg (Int.ediv_nonneg ha hb) hb
        · exact ha
  rcases h with h | h | h
  · rw [h.2]
    exact f _ _ h1 h2
  · rw [h.2]
    exact f _ _ h3 h4
  · rw [h.2.2]
    exact f _ _ h3 (by omega)
theorem Fin_nn {K a b : Int} (ha : 0 ≤ a) (hb : K = 3 → 0 ≤ b) (h6 : K = 6 → 0 ≤ b) : 0 ≤ zFin K a b := by
  unfold zFin
  split
  · omega
  · split
    · rename_i w
      have := hb w
      omega
    · split
      · rename_i w
        exact Int.mul_nonneg (Int.ediv_nonneg ha (h6 w)) (h6 w)
      · exact ha
end QH
theorem qV_e {t : Nat → Int32} {n a b c a₉ b₉ c₉ : Int} {d d₉ : Int32} (h : qV t n a b c d) (h1 : a₉ = a) (h2 : b₉ = b) (h3 : c₉ = c) (h4 : d₉ = d) : qV t n a₉ b₉ c₉ d₉ := by
  rw [h1, h2, h3, h4]
  exact h
theorem mu_up {m : Nat → Nat → Int32} {c k : Nat} {x : Int32} : ma_u m c k x c = zUp (m c) k x := by
  funext j
  show (if c = c ∧ j = k then x else m c j) = if j = k then x else m c j
  by_cases h : j = k
  · rw [if_pos ⟨rfl, h⟩, if_pos h]
  · rw [if_neg (fun z => h z.2), if_neg h]
theorem fl_neg {b Z : Int} (h : -1 - b = Z) (hb : 0 ≤ b) : Z < 0 := by omega

/-! from 95.h48 -/
/-! the reference by numbers (written by wip/tools/gen18r.py) -/
theorem sp_170u {X : Nat × (Nat → Int32)} {P : Option ma_V → (Nat → Nat → Int32) → Prop} {T : Nat} {aa : Nat→Nat→Int32} {m : Nat → Nat → Int32} (nw : Int32) (rf : Int32) (hV : zV m) (hpre0 : T ≤ 512) (r_W : zW (m 94 7) (m 98) (m 101) (m 102) (m 108)) (r_GW : zGW T (m 94 55) (m 109)) (r_GU : zGU T (m 94 46) (m 99)) (r_OW : zOw (m 99) (m 103) (m 111)) (r_GG : zGG (m 94 58) (m 94 56) (m 94 57) (m 106)) (hpre6 : (m 94 10).toInt = 5) (r_RB : qRB (m 99) (m 100) (m 98) (m 101) (m 102) (m 103) (m 107) (m 108) (m 109) (m 111) (m 112) (m 113) (m 114) (m 94 55) (m 94 46) (m 94 11) (m 94 12) (m 94 62) (m 94 17) (m 94 9) aa) (r_QI : qI aa) (r_MG : qMG (m 94 58) (m 106) (m 115) (m 94 57) (m 94 56) (m 99) (m 100) aa) (r_MK : aa 87 8 = (m 94 58)) (r_WTS : (m 94 45).toInt = sm (zbU (m 99)) (m 102) 3100) (KZ : ∀ v m₉, zV (zov wr_170 m m₉) → (zW (m₉ 94 7) (m₉ 98) (m 101) (m 102) (m 108)) → (zGW T (m 94 55) (m 109)) → (zGU T (m 94 46) (m 99)) → (zOw (m 99) (m 103) (m 111)) → (zGG (m 94 58) (m 94 56) (m 94 57) (m 106)) → (qRB (m 99) (m 100) (m₉ 98) (m 101) (m 102) (m 103) (m 107) (m 108) (m 109) (m 111) (m 112) (m 113) (m 114) (m 94 55) (m 94 46) (m 94 11) (m 94 12) (m 94 62) (m 94 17) (m 94 9) aa) → (qI aa) → (qMG (m 94 58) (m 106) (m 115) (m 94 57) (m 94 56) (m 99) (m 100) aa) → (aa 87 8 = (m 94 58)) → ((m 94 45).toInt = sm (zbU (m 99)) (m 102) 3100) → (((nw.toInt < 0 ∨ 8 < nw.toInt ∨ rf.toInt < 0 ∨ ((1 : Int32) <<< (nw &&& 31)).toInt ≤ rf.toInt) ∧ (m₉ 94 0).toInt = 1 ∧ (m₉ 94 7).toInt = (m 94 7).toInt) ∨ (¬ (nw.toInt < 0 ∨ 8 < nw.toInt ∨ rf.toInt < 0 ∨ ((1 : Int32) <<< (nw &&& 31)).toInt ≤ rf.toInt) ∧ (m 94 7).toInt = 16 ∧ (m₉ 94 0).toInt = 2 ∧ (m₉ 94 7).toInt = (m 94 7).toInt) ∨ (¬ (nw.toInt < 0 ∨ 8 < nw.toInt ∨ rf.toInt < 0 ∨ ((1 : Int32) <<< (nw &&& 31)).toInt ≤ rf.toInt) ∧ (m 94 7).toInt < 16 ∧ (m₉ 94 0).toInt = 0 ∧ (m₉ 94 7).toInt = (m 94 7).toInt + 1 ∧ v.toInt = (m 94 7).toInt)) → (((m₉ 94 7).toInt = (m 94 7).toInt ∧ (m₉ 97) = (m 97) ∧ (m₉ 98) = (m 98)) ∨ ((m₉ 94 7).toInt = (m 94 7).toInt + 1 ∧ (m₉ 97) = zUp (m 97) (m 94 7).toNatClampNeg nw ∧ (m₉ 98) = zUp (m 98) (m 94 7).toNatClampNeg rf)) → P (some (.inl v)) (zov wr_170 m m₉)) : zm X 1 21 170 0 [(0, .inr (.inr (some 94))), (1, .inl nw), (2, .inl rf)] m P := by
  have K : ∀ v m₉, zF wr_170 m m₉ → zV m₉ → (zW (m₉ 94 7) (m₉ 98) (m₉ 101) (m₉ 102) (m₉ 108)) → (zGW T (m₉ 94 55) (m₉ 109)) → (zGU T (m₉ 94 46) (m₉ 99)) → (zOw (m₉ 99) (m₉ 103) (m₉ 111)) → (zGG (m₉ 94 58) (m₉ 94 56) (m₉ 94 57) (m₉ 106)) → (qRB (m₉ 99) (m₉ 100) (m₉ 98) (m₉ 101) (m₉ 102) (m₉ 103) (m₉ 107) (m₉ 108) (m₉ 109) (m₉ 111) (m₉ 112) (m₉ 113) (m₉ 114) (m₉ 94 55) (m₉ 94 46) (m₉ 94 11) (m₉ 94 12) (m₉ 94 62) (m₉ 94 17) (m₉ 94 9) aa) → (qI aa) → (qMG (m₉ 94 58) (m₉ 106) (m₉ 115) (m₉ 94 57) (m₉ 94 56) (m₉ 99) (m₉ 100) aa) → (aa 87 8 = (m₉ 94 58)) → ((m₉ 94 45).toInt = sm (zbU (m₉ 99)) (m₉ 102) 3100) → (((nw.toInt < 0 ∨ 8 < nw.toInt ∨ rf.toInt < 0 ∨ ((1 : Int32) <<< (nw &&& 31)).toInt ≤ rf.toInt) ∧ (m₉ 94 0).toInt = 1 ∧ (m₉ 94 7).toInt = (m 94 7).toInt) ∨ (¬ (nw.toInt < 0 ∨ 8 < nw.toInt ∨ rf.toInt < 0 ∨ ((1 : Int32) <<< (nw &&& 31)).toInt ≤ rf.toInt) ∧ (m 94 7).toInt = 16 ∧ (m₉ 94 0).toInt = 2 ∧ (m₉ 94 7).toInt = (m 94 7).toInt) ∨ (¬ (nw.toInt < 0 ∨ 8 < nw.toInt ∨ rf.toInt < 0 ∨ ((1 : Int32) <<< (nw &&& 31)).toInt ≤ rf.toInt) ∧ (m 94 7).toInt < 16 ∧ (m₉ 94 0).toInt = 0 ∧ (m₉ 94 7).toInt = (m 94 7).toInt + 1 ∧ v.toInt = (m 94 7).toInt)) → (((m₉ 94 7).toInt = (m 94 7).toInt ∧ (m₉ 97) = (m 97) ∧ (m₉ 98) = (m 98)) ∨ ((m₉ 94 7).toInt = (m 94 7).toInt + 1 ∧ (m₉ 97) = zUp (m 97) (m 94 7).toNatClampNeg nw ∧ (m₉ 98) = zUp (m 98) (m 94 7).toNatClampNeg rf)) → P (some (.inl v)) m₉ := by
    intro v m₉ hf z q0 q1 q2 q3 q4 q5 q6 q7 q8 q9 q10 q11
    have e := zov_eq hf
    rw [e] at z ⊢
    try rw [e] at q0
    try rw [e] at q1
    try rw [e] at q2
    try rw [e] at q3
    try rw [e] at q4
    try rw [e] at q5
    try rw [e] at q6
    try rw [e] at q7
    try rw [e] at q8
    try rw [e] at q9
    try rw [e] at q10
    try rw [e] at q11
    exact KZ v m₉ z q0 q1 q2 q3 q4 q5 q6 q7 q8 q9 q10 q11
  refine g_170_0 nw rf ?_
  have f1 : 0 ≤ (m 94 10).toInt ∧ (m 94 10).toInt ≤ 6 := rs_94_10 (m := m) hV
  have b2 := i_bd nw
  have li3 : (0 : Int32).toInt = 0 := rfl
  refine zd (fun (h4 : nw < (0 : Int32)) => ?_) (fun (h4 : ¬ nw < (0 : Int32)) => ?_)
  · skip
    have g5 := i_lt h4
    have hV6 : zV (ma_u m 94 0 (1 : Int32)) := uf_94_0 hV
    have li7 : (1 : Int32).toInt = 1 := rfl
    have f8 : 0 ≤ (m 94 7).toInt ∧ (m 94 7).toInt ≤ 16 := rs_94_7 (m := m) hV
    exact K ((0 : Int32)) _ (zF_u zF_rfl rfl) hV6 r_W r_GW r_GU r_OW r_GG r_RB r_QI r_MG r_MK r_WTS (show ((nw.toInt < 0 ∨ 8 < nw.toInt ∨ rf.toInt < 0 ∨ ((1 : Int32) <<< (nw &&& 31)).toInt ≤ rf.toInt) ∧ (1 : Int32).toInt = 1 ∧ (m 94 7).toInt = (m 94 7).toInt) ∨ (¬ (nw.toInt < 0 ∨ 8 < nw.toInt ∨ rf.toInt < 0 ∨ ((1 : Int32) <<< (nw &&& 31)).toInt ≤ rf.toInt) ∧ (m 94 7).toInt = 16 ∧ (1 : Int32).toInt = 2 ∧ (m 94 7).toInt = (m 94 7).toInt) ∨ (¬ (nw.toInt < 0 ∨ 8 < nw.toInt ∨ rf.toInt < 0 ∨ ((1 : Int32) <<< (nw &&& 31)).toInt ≤ rf.toInt) ∧ (m 94 7).toInt < 16 ∧ (1 : Int32).toInt = 0 ∧ (m 94 7).toInt = (m 94 7).toInt + 1 ∧ (0 : Int32).toInt = (m 94 7).toInt) from by omega) (show ((m 94 7).toInt = (m 94 7).toInt ∧ (m 97) = (m 97) ∧ (m 98) = (m 98)) ∨ ((m 94 7).toInt = (m 94 7).toInt + 1 ∧ (m 97) = zUp (m 97) (m 94 7).toNatClampNeg nw ∧ (m 98) = zUp (m 98) (m 94 7).toNatClampNeg rf) from by first | (exact Or.inl ⟨rfl, rfl, rfl⟩) | (exfalso; omega; done) | (exfalso; contradiction; done))
  · skip
    have g9 := i_nlt h4
    have li10 : (8 : Int32).toInt = 8 := rfl
    refine zd (fun (h11 : nw ≤ (8 : Int32)) => ?_) (fun (h11 : ¬ nw ≤ (8 : Int32)) => ?_)
    · skip
      have g12 := i_le h11
      have b13 := i_bd rf
      refine zd (fun (h14 : rf < (0 : Int32)) => ?_) (fun (h14 : ¬ rf < (0 : Int32)) => ?_)
      · skip
        have g15 := i_lt h14
        have hV16 : zV (ma_u m 94 0 (1 : Int32)) := uf_94_0 hV
        have li17 : (1 : Int32).toInt = 1 := rfl
        have f18 : 0 ≤ (m 94 7).toInt ∧ (m 94 7).toInt ≤ 16 := rs_94_7 (m := m) hV
        exact K ((0 : Int32)) _ (zF_u zF_rfl rfl) hV16 r_W r_GW r_GU r_OW r_GG r_RB r_QI r_MG r_MK r_WTS (show ((nw.toInt < 0 ∨ 8 < nw.toInt ∨ rf.toInt < 0 ∨ ((1 : Int32) <<< (nw &&& 31)).toInt ≤ rf.toInt) ∧ (1 : Int32).toInt = 1 ∧ (m 94 7).toInt = (m 94 7).toInt) ∨ (¬ (nw.toInt < 0 ∨ 8 < nw.toInt ∨ rf.toInt < 0 ∨ ((1 : Int32) <<< (nw &&& 31)).toInt ≤ rf.toInt) ∧ (m 94 7).toInt = 16 ∧ (1 : Int32).toInt = 2 ∧ (m 94 7).toInt = (m 94 7).toInt) ∨ (¬ (nw.toInt < 0 ∨ 8 < nw.toInt ∨ rf.toInt < 0 ∨ ((1 : Int32) <<< (nw &&& 31)).toInt ≤ rf.toInt) ∧ (m 94 7).toInt < 16 ∧ (1 : Int32).toInt = 0 ∧ (m 94 7).toInt = (m 94 7).toInt + 1 ∧ (0 : Int32).toInt = (m 94 7).toInt) from by omega) (show ((m 94 7).toInt = (m 94 7).toInt ∧ (m 97) = (m 97) ∧ (m 98) = (m 98)) ∨ ((m 94 7).toInt = (m 94 7).toInt + 1 ∧ (m 97) = zUp (m 97) (m 94 7).toNatClampNeg nw ∧ (m 98) = zUp (m 98) (m 94 7).toNatClampNeg rf) from by first | (exact Or.inl ⟨rfl, rfl, rfl⟩) | (exfalso; omega; done) | (exfalso; contradiction; done))
      · skip
        have g19 := i_nlt h14
        have b20 := i_bd ((1 : Int32) <<< (nw &&& 31))
        refine zd (fun (h21 : rf < ((1 : Int32) <<< (nw &&& 31))) => ?_) (fun (h21 : ¬ rf < ((1 : Int32) <<< (nw &&& 31))) => ?_)
        · skip
          have g22 := i_lt h21
          have f23 : 0 ≤ (m 94 7).toInt ∧ (m 94 7).toInt ≤ 16 := rs_94_7 (m := m) hV
          have li24 : (16 : Int32).toInt = 16 := rfl
          refine zd (fun (h25 : (m 94 7) = (16 : Int32)) => ?_) (fun (h25 : ¬ (m 94 7) = (16 : Int32)) => ?_)
          · skip
            have g26 := i_eq h25
            have hV27 : zV (ma_u m 94 0 (2 : Int32)) := uf_94_0 hV
            have li28 : (2 : Int32).toInt = 2 := rfl
            exact K ((0 : Int32)) _ (zF_u zF_rfl rfl) hV27 r_W r_GW r_GU r_OW r_GG r_RB r_QI r_MG r_MK r_WTS (show ((nw.toInt < 0 ∨ 8 < nw.toInt ∨ rf.toInt < 0 ∨ ((1 : Int32) <<< (nw &&& 31)).toInt ≤ rf.toInt) ∧ (2 : Int32).toInt = 1 ∧ (m 94 7).toInt = (m 94 7).toInt) ∨ (¬ (nw.toInt < 0 ∨ 8 < nw.toInt ∨ rf.toInt < 0 ∨ ((1 : Int32) <<< (nw &&& 31)).toInt ≤ rf.toInt) ∧ (m 94 7).toInt = 16 ∧ (2 : Int32).toInt = 2 ∧ (m 94 7).toInt = (m 94 7).toInt) ∨ (¬ (nw.toInt < 0 ∨ 8 < nw.toInt ∨ rf.toInt < 0 ∨ ((1 : Int32) <<< (nw &&& 31)).toInt ≤ rf.toInt) ∧ (m 94 7).toInt < 16 ∧ (2 : Int32).toInt = 0 ∧ (m 94 7).toInt = (m 94 7).toInt + 1 ∧ (0 : Int32).toInt = (m 94 7).toInt) from by omega) (show ((m 94 7).toInt = (m 94 7).toInt ∧ (m 97) = (m 97) ∧ (m 98) = (m 98)) ∨ ((m 94 7).toInt = (m 94 7).toInt + 1 ∧ (m 97) = zUp (m 97) (m 94 7).toNatClampNeg nw ∧ (m 98) = zUp (m 98) (m 94 7).toNatClampNeg rf) from by first | (exact Or.inl ⟨rfl, rfl, rfl⟩) | (exfalso; omega; done) | (exfalso; contradiction; done))
          · skip
            have g29 := i_ne h25
            have hg30 : (0 ≤ (m 94 7) ∧ (m 94 7).toNatClampNeg < 16) := i_ix (by omega) (by omega)
            refine ⟨hg30, ?_⟩
            try have sh := i_shl8 (n := nw) (by omega) (by omega)
            have hg31 : (0 ≤ (m 94 7) ∧ (m 94 7).toNatClampNeg < 16) := i_ix (by omega) (by omega)
            refine ⟨hg31, ?_⟩
            have hV32 : zV (ma_u m 94 0 (0 : Int32)) := uf_94_0 hV
            have hV33 : zV (ma_u (ma_u m 94 0 (0 : Int32)) 97 (m 94 7).toNatClampNeg nw) := ua_97 hV32 (by omega) (by omega)
            have hV34 : zV (ma_u (ma_u (ma_u m 94 0 (0 : Int32)) 97 (m 94 7).toNatClampNeg nw) 98 (m 94 7).toNatClampNeg rf) := ua_98 hV33 (by omega) (by omega)
            first | have e36 : ((m 94 7) + (1 : Int32)).toInt = (m 94 7).toInt + (1) := i_addk rfl (by omega) (by omega) | have b37 := i_bd ((m 94 7) + (1 : Int32))
            have hV35 : zV (ma_u (ma_u (ma_u (ma_u m 94 0 (0 : Int32)) 97 (m 94 7).toNatClampNeg nw) 98 (m 94 7).toNatClampNeg rf) 94 7 ((m 94 7) + (1 : Int32))) := us_94_7 hV34 (by omega) (by omega)
            first | have e38 : (((m 94 7) + (1 : Int32)) - (1 : Int32)).toInt = ((m 94 7) + (1 : Int32)).toInt - (1) := i_subk rfl (by omega) (by omega) | have b39 := i_bd (((m 94 7) + (1 : Int32)) - (1 : Int32))
            exact K ((((m 94 7) + (1 : Int32)) - (1 : Int32))) _ (zF_u (zF_u (zF_u (zF_u zF_rfl rfl) rfl) rfl) rfl) hV35 (show zW ((m 94 7) + (1 : Int32)) ((ma_u m 98 (m 94 7).toNatClampNeg rf) 98) (m 101) (m 102) (m 108) from by first | (exact W_same r_W (by omega) (zrf_kind r_W (tn_cast (by omega)) (fun t ht => (ra_101 hV ht).1))) | (exfalso; omega; done) | (exfalso; contradiction; done)) r_GW r_GU r_OW r_GG (show qRB (m 99) (m 100) ((ma_u m 98 (m 94 7).toNatClampNeg rf) 98) (m 101) (m 102) (m 103) (m 107) (m 108) (m 109) (m 111) (m 112) (m 113) (m 114) (m 94 55) (m 94 46) (m 94 11) (m 94 12) (m 94 62) (m 94 17) (m 94 9) aa from by first | (exact RB_kd r_RB r_W (tn_cast (by omega)) (fun t ht => (ra_101 hV ht).1)) | (exfalso; omega; done) | (exfalso; contradiction; done)) r_QI r_MG r_MK r_WTS (show ((nw.toInt < 0 ∨ 8 < nw.toInt ∨ rf.toInt < 0 ∨ ((1 : Int32) <<< (nw &&& 31)).toInt ≤ rf.toInt) ∧ (0 : Int32).toInt = 1 ∧ ((m 94 7) + (1 : Int32)).toInt = (m 94 7).toInt) ∨ (¬ (nw.toInt < 0 ∨ 8 < nw.toInt ∨ rf.toInt < 0 ∨ ((1 : Int32) <<< (nw &&& 31)).toInt ≤ rf.toInt) ∧ (m 94 7).toInt = 16 ∧ (0 : Int32).toInt = 2 ∧ ((m 94 7) + (1 : Int32)).toInt = (m 94 7).toInt) ∨ (¬ (nw.toInt < 0 ∨ 8 < nw.toInt ∨ rf.toInt < 0 ∨ ((1 : Int32) <<< (nw &&& 31)).toInt ≤ rf.toInt) ∧ (m 94 7).toInt < 16 ∧ (0 : Int32).toInt = 0 ∧ ((m 94 7) + (1 : Int32)).toInt = (m 94 7).toInt + 1 ∧ (((m 94 7) + (1 : Int32)) - (1 : Int32)).toInt = (m 94 7).toInt) from by omega) (show (((m 94 7) + (1 : Int32)).toInt = (m 94 7).toInt ∧ ((ma_u m 97 (m 94 7).toNatClampNeg nw) 97) = (m 97) ∧ ((ma_u m 98 (m 94 7).toNatClampNeg rf) 98) = (m 98)) ∨ (((m 94 7) + (1 : Int32)).toInt = (m 94 7).toInt + 1 ∧ ((ma_u m 97 (m 94 7).toNatClampNeg nw) 97) = zUp (m 97) (m 94 7).toNatClampNeg nw ∧ ((ma_u m 98 (m 94 7).toNatClampNeg rf) 98) = zUp (m 98) (m 94 7).toNatClampNeg rf) from by first | (exact Or.inr ⟨by omega, mu_up, mu_up⟩) | (exfalso; omega; done) | (exfalso; contradiction; done))
        · skip
          have g40 := i_nlt h21
          have hV41 : zV (ma_u m 94 0 (1 : Int32)) := uf_94_0 hV
          have li42 : (1 : Int32).toInt = 1 := rfl
          have f43 : 0 ≤ (m 94 7).toInt ∧ (m 94 7).toInt ≤ 16 := rs_94_7 (m := m) hV
          exact K ((0 : Int32)) _ (zF_u zF_rfl rfl) hV41 r_W r_GW r_GU r_OW r_GG r_RB r_QI r_MG r_MK r_WTS (show ((nw.toInt < 0 ∨ 8 < nw.toInt ∨ rf.toInt < 0 ∨ ((1 : Int32) <<< (nw &&& 31)).toInt ≤ rf.toInt) ∧ (1 : Int32).toInt = 1 ∧ (m 94 7).toInt = (m 94 7).toInt) ∨ (¬ (nw.toInt < 0 ∨ 8 < nw.toInt ∨ rf.toInt < 0 ∨ ((1 : Int32) <<< (nw &&& 31)).toInt ≤ rf.toInt) ∧ (m 94 7).toInt = 16 ∧ (1 : Int32).toInt = 2 ∧ (m 94 7).toInt = (m 94 7).toInt) ∨ (¬ (nw.toInt < 0 ∨ 8 < nw.toInt ∨ rf.toInt < 0 ∨ ((1 : Int32) <<< (nw &&& 31)).toInt ≤ rf.toInt) ∧ (m 94 7).toInt < 16 ∧ (1 : Int32).toInt = 0 ∧ (m 94 7).toInt = (m 94 7).toInt + 1 ∧ (0 : Int32).toInt = (m 94 7).toInt) from by omega) (show ((m 94 7).toInt = (m 94 7).toInt ∧ (m 97) = (m 97) ∧ (m 98) = (m 98)) ∨ ((m 94 7).toInt = (m 94 7).toInt + 1 ∧ (m 97) = zUp (m 97) (m 94 7).toNatClampNeg nw ∧ (m 98) = zUp (m 98) (m 94 7).toNatClampNeg rf) from by first | (exact Or.inl ⟨rfl, rfl, rfl⟩) | (exfalso; omega; done) | (exfalso; contradiction; done))
    · skip
      have g44 := i_nle h11
      have hV45 : zV (ma_u m 94 0 (1 : Int32)) := uf_94_0 hV
      have li46 : (1 : Int32).toInt = 1 := rfl
      have f47 : 0 ≤ (m 94 7).toInt ∧ (m 94 7).toInt ≤ 16 := rs_94_7 (m := m) hV
      exact K ((0 : Int32)) _ (zF_u zF_rfl rfl) hV45 r_W r_GW r_GU r_OW r_GG r_RB r_QI r_MG r_MK r_WTS (show ((nw.toInt < 0 ∨ 8 < nw.toInt ∨ rf.toInt < 0 ∨ ((1 : Int32) <<< (nw &&& 31)).toInt ≤ rf.toInt) ∧ (1 : Int32).toInt = 1 ∧ (m 94 7).toInt = (m 94 7).toInt) ∨ (¬ (nw.toInt < 0 ∨ 8 < nw.toInt ∨ rf.toInt < 0 ∨ ((1 : Int32) <<< (nw &&& 31)).toInt ≤ rf.toInt) ∧ (m 94 7).toInt = 16 ∧ (1 : Int32).toInt = 2 ∧ (m 94 7).toInt = (m 94 7).toInt) ∨ (¬ (nw.toInt < 0 ∨ 8 < nw.toInt ∨ rf.toInt < 0 ∨ ((1 : Int32) <<< (nw &&& 31)).toInt ≤ rf.toInt) ∧ (m 94 7).toInt < 16 ∧ (1 : Int32).toInt = 0 ∧ (m 94 7).toInt = (m 94 7).toInt + 1 ∧ (0 : Int32).toInt = (m 94 7).toInt) from by omega) (show ((m 94 7).toInt = (m 94 7).toInt ∧ (m 97) = (m 97) ∧ (m 98) = (m 98)) ∨ ((m 94 7).toInt = (m 94 7).toInt + 1 ∧ (m 97) = zUp (m 97) (m 94 7).toNatClampNeg nw ∧ (m 98) = zUp (m 98) (m 94 7).toNatClampNeg rf) from by first | (exact Or.inl ⟨rfl, rfl, rfl⟩) | (exfalso; omega; done) | (exfalso; contradiction; done))
theorem sp_170w {X : Nat × (Nat → Int32)} {P : Option ma_V → (Nat → Nat → Int32) → Prop} {T : Nat} {m : Nat → Nat → Int32} (nw : Int32) (rf : Int32) (hV : zV m) (r_W : zW (m 94 7) (m 98) (m 101) (m 102) (m 108)) (r_GW : zGW T (m 94 55) (m 109)) (r_GU : zGU T (m 94 46) (m 99)) (r_OW : zOw (m 99) (m 103) (m 111)) (r_DX : zDX (m 94 10) (m 99) (m 112) (m 113) (m 114) (m 94 55) (m 98) (m 101) (m 102) (m 108)) (r_GG : zGG (m 94 58) (m 94 56) (m 94 57) (m 106)) (r_HA : zHA (m 94 10) (m 94 11) (m 94 13) (m 94 14) (m 94 16) (m 94 61) (m 94 59) (m 94 60) (m 99) (m 102) (m 103) (m 111) (m 117) (m 98) (m 101) (m 108)) (r_RGc : zRG (m 94 10) (m 94 18) (m 94 64) (m 94 63) (m 99) (m 103) (m 102) (m 116)) (hpre8 : (m 94 58).toInt = 0 ∨ (m 94 10).toInt = 5) (KZ : ∀ v m₉, zV (zov wr_170 m m₉) → (zW (m₉ 94 7) (m₉ 98) (m 101) (m 102) (m 108)) → (zGW T (m 94 55) (m 109)) → (zGU T (m 94 46) (m 99)) → (zOw (m 99) (m 103) (m 111)) → (zDX (m 94 10) (m 99) (m 112) (m 113) (m 114) (m 94 55) (m₉ 98) (m 101) (m 102) (m 108)) → (zGG (m 94 58) (m 94 56) (m 94 57) (m 106)) → (zHA (m 94 10) (m 94 11) (m 94 13) (m 94 14) (m 94 16) (m 94 61) (m 94 59) (m 94 60) (m 99) (m 102) (m 103) (m 111) (m 117) (m₉ 98) (m 101) (m 108)) → (zRG (m 94 10) (m 94 18) (m 94 64) (m 94 63) (m 99) (m 103) (m 102) (m 116)) → ((m 94 58).toInt = 0 ∨ (m 94 10).toInt = 5) → (((nw.toInt < 0 ∨ 8 < nw.toInt ∨ rf.toInt < 0 ∨ ((1 : Int32) <<< (nw &&& 31)).toInt ≤ rf.toInt) ∧ (m₉ 94 0).toInt = 1 ∧ (m₉ 94 7).toInt = (m 94 7).toInt) ∨ (¬ (nw.toInt < 0 ∨ 8 < nw.toInt ∨ rf.toInt < 0 ∨ ((1 : Int32) <<< (nw &&& 31)).toInt ≤ rf.toInt) ∧ (m 94 7).toInt = 16 ∧ (m₉ 94 0).toInt = 2 ∧ (m₉ 94 7).toInt = (m 94 7).toInt) ∨ (¬ (nw.toInt < 0 ∨ 8 < nw.toInt ∨ rf.toInt < 0 ∨ ((1 : Int32) <<< (nw &&& 31)).toInt ≤ rf.toInt) ∧ (m 94 7).toInt < 16 ∧ (m₉ 94 0).toInt = 0 ∧ (m₉ 94 7).toInt = (m 94 7).toInt + 1 ∧ v.toInt = (m 94 7).toInt)) → (((m₉ 94 7).toInt = (m 94 7).toInt ∧ (m₉ 97) = (m 97) ∧ (m₉ 98) = (m 98)) ∨ ((m₉ 94 7).toInt = (m 94 7).toInt + 1 ∧ (m₉ 97) = zUp (m 97) (m 94 7).toNatClampNeg nw ∧ (m₉ 98) = zUp (m 98) (m 94 7).toNatClampNeg rf)) → P (some (.inl v)) (zov wr_170 m m₉)) : zm X 1 21 170 0 [(0, .inr (.inr (some 94))), (1, .inl nw), (2, .inl rf)] m P := by
  have K : ∀ v m₉, zF wr_170 m m₉ → zV m₉ → (zW (m₉ 94 7) (m₉ 98) (m₉ 101) (m₉ 102) (m₉ 108)) → (zGW T (m₉ 94 55) (m₉ 109)) → (zGU T (m₉ 94 46) (m₉ 99)) → (zOw (m₉ 99) (m₉ 103) (m₉ 111)) → (zDX (m₉ 94 10) (m₉ 99) (m₉ 112) (m₉ 113) (m₉ 114) (m₉ 94 55) (m₉ 98) (m₉ 101) (m₉ 102) (m₉ 108)) → (zGG (m₉ 94 58) (m₉ 94 56) (m₉ 94 57) (m₉ 106)) → (zHA (m₉ 94 10) (m₉ 94 11) (m₉ 94 13) (m₉ 94 14) (m₉ 94 16) (m₉ 94 61) (m₉ 94 59) (m₉ 94 60) (m₉ 99) (m₉ 102) (m₉ 103) (m₉ 111) (m₉ 117) (m₉ 98) (m₉ 101) (m₉ 108)) → (zRG (m₉ 94 10) (m₉ 94 18) (m₉ 94 64) (m₉ 94 63) (m₉ 99) (m₉ 103) (m₉ 102) (m₉ 116)) → ((m₉ 94 58).toInt = 0 ∨ (m₉ 94 10).toInt = 5) → (((nw.toInt < 0 ∨ 8 < nw.toInt ∨ rf.toInt < 0 ∨ ((1 : Int32) <<< (nw &&& 31)).toInt ≤ rf.toInt) ∧ (m₉ 94 0).toInt = 1 ∧ (m₉ 94 7).toInt = (m 94 7).toInt) ∨ (¬ (nw.toInt < 0 ∨ 8 < nw.toInt ∨ rf.toInt < 0 ∨ ((1 : Int32) <<< (nw &&& 31)).toInt ≤ rf.toInt) ∧ (m 94 7).toInt = 16 ∧ (m₉ 94 0).toInt = 2 ∧ (m₉ 94 7).toInt = (m 94 7).toInt) ∨ (¬ (nw.toInt < 0 ∨ 8 < nw.toInt ∨ rf.toInt < 0 ∨ ((1 : Int32) <<< (nw &&& 31)).toInt ≤ rf.toInt) ∧ (m 94 7).toInt < 16 ∧ (m₉ 94 0).toInt = 0 ∧ (m₉ 94 7).toInt = (m 94 7).toInt + 1 ∧ v.toInt = (m 94 7).toInt)) → (((m₉ 94 7).toInt = (m 94 7).toInt ∧ (m₉ 97) = (m 97) ∧ (m₉ 98) = (m 98)) ∨ ((m₉ 94 7).toInt = (m 94 7).toInt + 1 ∧ (m₉ 97) = zUp (m 97) (m 94 7).toNatClampNeg nw ∧ (m₉ 98) = zUp (m 98) (m 94 7).toNatClampNeg rf)) → P (some (.inl v)) m₉ := by
    intro v m₉ hf z q0 q1 q2 q3 q4 q5 q6 q7 q8 q9 q10
    have e := zov_eq hf
    rw [e] at z ⊢
    try rw [e] at q0
    try rw [e] at q1
    try rw [e] at q2
    try rw [e] at q3
    try rw [e] at q4
    try rw [e] at q5
    try rw [e] at q6
    try rw [e] at q7
    try rw [e] at q8
    try rw [e] at q9
    try rw [e] at q10
    exact KZ v m₉ z q0 q1 q2 q3 q4 q5 q6 q7 q8 q9 q10
  refine g_170_0 nw rf ?_
  have f1 : 0 ≤ (m 94 58).toInt ∧ (m 94 58).toInt ≤ 1 := rs_94_58 (m := m) hV
  have f2 : 0 ≤ (m 94 10).toInt ∧ (m 94 10).toInt ≤ 6 := rs_94_10 (m := m) hV
  have b3 := i_bd nw
  have li4 : (0 : Int32).toInt = 0 := rfl
  refine zd (fun (h5 : nw < (0 : Int32)) => ?_) (fun (h5 : ¬ nw < (0 : Int32)) => ?_)
  · skip
    have g6 := i_lt h5
    have hV7 : zV (ma_u m 94 0 (1 : Int32)) := uf_94_0 hV
    have li8 : (1 : Int32).toInt = 1 := rfl
    have f9 : 0 ≤ (m 94 7).toInt ∧ (m 94 7).toInt ≤ 16 := rs_94_7 (m := m) hV
    exact K ((0 : Int32)) _ (zF_u zF_rfl rfl) hV7 r_W r_GW r_GU r_OW r_DX r_GG r_HA r_RGc (show (m 94 58).toInt = 0 ∨ (m 94 10).toInt = 5 from by omega) (show ((nw.toInt < 0 ∨ 8 < nw.toInt ∨ rf.toInt < 0 ∨ ((1 : Int32) <<< (nw &&& 31)).toInt ≤ rf.toInt) ∧ (1 : Int32).toInt = 1 ∧ (m 94 7).toInt = (m 94 7).toInt) ∨ (¬ (nw.toInt < 0 ∨ 8 < nw.toInt ∨ rf.toInt < 0 ∨ ((1 : Int32) <<< (nw &&& 31)).toInt ≤ rf.toInt) ∧ (m 94 7).toInt = 16 ∧ (1 : Int32).toInt = 2 ∧ (m 94 7).toInt = (m 94 7).toInt) ∨ (¬ (nw.toInt < 0 ∨ 8 < nw.toInt ∨ rf.toInt < 0 ∨ ((1 : Int32) <<< (nw &&& 31)).toInt ≤ rf.toInt) ∧ (m 94 7).toInt < 16 ∧ (1 : Int32).toInt = 0 ∧ (m 94 7).toInt = (m 94 7).toInt + 1 ∧ (0 : Int32).toInt = (m 94 7).toInt) from by omega) (show ((m 94 7).toInt = (m 94 7).toInt ∧ (m 97) = (m 97) ∧ (m 98) = (m 98)) ∨ ((m 94 7).toInt = (m 94 7).toInt + 1 ∧ (m 97) = zUp (m 97) (m 94 7).toNatClampNeg nw ∧ (m 98) = zUp (m 98) (m 94 7).toNatClampNeg rf) from by first | (exact Or.inl ⟨rfl, rfl, rfl⟩) | (exfalso; omega; done) | (exfalso; contradiction; done))
  · skip
    have g10 := i_nlt h5
    have li11 : (8 : Int32).toInt = 8 := rfl
    refine zd (fun (h12 : nw ≤ (8 : Int32)) => ?_) (fun (h12 : ¬ nw ≤ (8 : Int32)) => ?_)
    · skip
      have g13 := i_le h12
      have b14 := i_bd rf
      refine zd (fun (h15 : rf < (0 : Int32)) => ?_) (fun (h15 : ¬ rf < (0 : Int32)) => ?_)
      · skip
        have g16 := i_lt h15
        have hV17 : zV (ma_u m 94 0 (1 : Int32)) := uf_94_0 hV
        have li18 : (1 : Int32).toInt = 1 := rfl
        have f19 : 0 ≤ (m 94 7).toInt ∧ (m 94 7).toInt ≤ 16 := rs_94_7 (m := m) hV
        exact K ((0 : Int32)) _ (zF_u zF_rfl rfl) hV17 r_W r_GW r_GU r_OW r_DX r_GG r_HA r_RGc (show (m 94 58).toInt = 0 ∨ (m 94 10).toInt = 5 from by omega) (show ((nw.toInt < 0 ∨ 8 < nw.toInt ∨ rf.toInt < 0 ∨ ((1 : Int32) <<< (nw &&& 31)).toInt ≤ rf.toInt) ∧ (1 : Int32).toInt = 1 ∧ (m 94 7).toInt = (m 94 7).toInt) ∨ (¬ (nw.toInt < 0 ∨ 8 < nw.toInt ∨ rf.toInt < 0 ∨ ((1 : Int32) <<< (nw &&& 31)).toInt ≤ rf.toInt) ∧ (m 94 7).toInt = 16 ∧ (1 : Int32).toInt = 2 ∧ (m 94 7).toInt = (m 94 7).toInt) ∨ (¬ (nw.toInt < 0 ∨ 8 < nw.toInt ∨ rf.toInt < 0 ∨ ((1 : Int32) <<< (nw &&& 31)).toInt ≤ rf.toInt) ∧ (m 94 7).toInt < 16 ∧ (1 : Int32).toInt = 0 ∧ (m 94 7).toInt = (m 94 7).toInt + 1 ∧ (0 : Int32).toInt = (m 94 7).toInt) from by omega) (show ((m 94 7).toInt = (m 94 7).toInt ∧ (m 97) = (m 97) ∧ (m 98) = (m 98)) ∨ ((m 94 7).toInt = (m 94 7).toInt + 1 ∧ (m 97) = zUp (m 97) (m 94 7).toNatClampNeg nw ∧ (m 98) = zUp (m 98) (m 94 7).toNatClampNeg rf) from by first | (exact Or.inl ⟨rfl, rfl, rfl⟩) | (exfalso; omega; done) | (exfalso; contradiction; done))
      · skip
        have g20 := i_nlt h15
        have b21 := i_bd ((1 : Int32) <<< (nw &&& 31))
        refine zd (fun (h22 : rf < ((1 : Int32) <<< (nw &&& 31))) => ?_) (fun (h22 : ¬ rf < ((1 : Int32) <<< (nw &&& 31))) => ?_)
        · skip
          have g23 := i_lt h22
          have f24 : 0 ≤ (m 94 7).toInt ∧ (m 94 7).toInt ≤ 16 := rs_94_7 (m := m) hV
          have li25 : (16 : Int32).toInt = 16 := rfl
          refine zd (fun (h26 : (m 94 7) = (16 : Int32)) => ?_) (fun (h26 : ¬ (m 94 7) = (16 : Int32)) => ?_)
          · skip
            have g27 := i_eq h26
            have hV28 : zV (ma_u m 94 0 (2 : Int32)) := uf_94_0 hV
            have li29 : (2 : Int32).toInt = 2 := rfl
            exact K ((0 : Int32)) _ (zF_u zF_rfl rfl) hV28 r_W r_GW r_GU r_OW r_DX r_GG r_HA r_RGc (show (m 94 58).toInt = 0 ∨ (m 94 10).toInt = 5 from by omega) (show ((nw.toInt < 0 ∨ 8 < nw.toInt ∨ rf.toInt < 0 ∨ ((1 : Int32) <<< (nw &&& 31)).toInt ≤ rf.toInt) ∧ (2 : Int32).toInt = 1 ∧ (m 94 7).toInt = (m 94 7).toInt) ∨ (¬ (nw.toInt < 0 ∨ 8 < nw.toInt ∨ rf.toInt < 0 ∨ ((1 : Int32) <<< (nw &&& 31)).toInt ≤ rf.toInt) ∧ (m 94 7).toInt = 16 ∧ (2 : Int32).toInt = 2 ∧ (m 94 7).toInt = (m 94 7).toInt) ∨ (¬ (nw.toInt < 0 ∨ 8 < nw.toInt ∨ rf.toInt < 0 ∨ ((1 : Int32) <<< (nw &&& 31)).toInt ≤ rf.toInt) ∧ (m 94 7).toInt < 16 ∧ (2 : Int32).toInt = 0 ∧ (m 94 7).toInt = (m 94 7).toInt + 1 ∧ (0 : Int32).toInt = (m 94 7).toInt) from by omega) (show ((m 94 7).toInt = (m 94 7).toInt ∧ (m 97) = (m 97) ∧ (m 98) = (m 98)) ∨ ((m 94 7).toInt = (m 94 7).toInt + 1 ∧ (m 97) = zUp (m 97) (m 94 7).toNatClampNeg nw ∧ (m 98) = zUp (m 98) (m 94 7).toNatClampNeg rf) from by first | (exact Or.inl ⟨rfl, rfl, rfl⟩) | (exfalso; omega; done) | (exfalso; contradiction; done))
          · skip
            have g30 := i_ne h26
            have hg31 : (0 ≤ (m 94 7) ∧ (m 94 7).toNatClampNeg < 16) := i_ix (by omega) (by omega)
            refine ⟨hg31, ?_⟩
            try have sh := i_shl8 (n := nw) (by omega) (by omega)
            have hg32 : (0 ≤ (m 94 7) ∧ (m 94 7).toNatClampNeg < 16) := i_ix (by omega) (by omega)
            refine ⟨hg32, ?_⟩
            have hV33 : zV (ma_u m 94 0 (0 : Int32)) := uf_94_0 hV
            have hV34 : zV (ma_u (ma_u m 94 0 (0 : Int32)) 97 (m 94 7).toNatClampNeg nw) := ua_97 hV33 (by omega) (by omega)
            have hV35 : zV (ma_u (ma_u (ma_u m 94 0 (0 : Int32)) 97 (m 94 7).toNatClampNeg nw) 98 (m 94 7).toNatClampNeg rf) := ua_98 hV34 (by omega) (by omega)
            first | have e37 : ((m 94 7) + (1 : Int32)).toInt = (m 94 7).toInt + (1) := i_addk rfl (by omega) (by omega) | have b38 := i_bd ((m 94 7) + (1 : Int32))
            have hV36 : zV (ma_u (ma_u (ma_u (ma_u m 94 0 (0 : Int32)) 97 (m 94 7).toNatClampNeg nw) 98 (m 94 7).toNatClampNeg rf) 94 7 ((m 94 7) + (1 : Int32))) := us_94_7 hV35 (by omega) (by omega)
            first | have e39 : (((m 94 7) + (1 : Int32)) - (1 : Int32)).toInt = ((m 94 7) + (1 : Int32)).toInt - (1) := i_subk rfl (by omega) (by omega) | have b40 := i_bd (((m 94 7) + (1 : Int32)) - (1 : Int32))
            exact K ((((m 94 7) + (1 : Int32)) - (1 : Int32))) _ (zF_u (zF_u (zF_u (zF_u zF_rfl rfl) rfl) rfl) rfl) hV36 (show zW ((m 94 7) + (1 : Int32)) ((ma_u m 98 (m 94 7).toNatClampNeg rf) 98) (m 101) (m 102) (m 108) from by first | (exact W_same r_W (by omega) (zrf_kind r_W (tn_cast (by omega)) (fun t ht => (ra_101 hV ht).1))) | (exfalso; omega; done) | (exfalso; contradiction; done)) r_GW r_GU r_OW (show zDX (m 94 10) (m 99) (m 112) (m 113) (m 114) (m 94 55) ((ma_u m 98 (m 94 7).toNatClampNeg rf) 98) (m 101) (m 102) (m 108) from by first | (exact DX_same r_DX (zrf_kind r_W (tn_cast (by omega)) (fun t ht => (ra_101 hV ht).1))) | (exfalso; omega; done) | (exfalso; contradiction; done)) r_GG (show zHA (m 94 10) (m 94 11) (m 94 13) (m 94 14) (m 94 16) (m 94 61) (m 94 59) (m 94 60) (m 99) (m 102) (m 103) (m 111) (m 117) ((ma_u m 98 (m 94 7).toNatClampNeg rf) 98) (m 101) (m 108) from by first | (exact HA_same r_HA (zrf_kind r_W (tn_cast (by omega)) (fun t ht => (ra_101 hV ht).1))) | (exfalso; omega; done) | (exfalso; contradiction; done)) r_RGc (show (m 94 58).toInt = 0 ∨ (m 94 10).toInt = 5 from by omega) (show ((nw.toInt < 0 ∨ 8 < nw.toInt ∨ rf.toInt < 0 ∨ ((1 : Int32) <<< (nw &&& 31)).toInt ≤ rf.toInt) ∧ (0 : Int32).toInt = 1 ∧ ((m 94 7) + (1 : Int32)).toInt = (m 94 7).toInt) ∨ (¬ (nw.toInt < 0 ∨ 8 < nw.toInt ∨ rf.toInt < 0 ∨ ((1 : Int32) <<< (nw &&& 31)).toInt ≤ rf.toInt) ∧ (m 94 7).toInt = 16 ∧ (0 : Int32).toInt = 2 ∧ ((m 94 7) + (1 : Int32)).toInt = (m 94 7).toInt) ∨ (¬ (nw.toInt < 0 ∨ 8 < nw.toInt ∨ rf.toInt < 0 ∨ ((1 : Int32) <<< (nw &&& 31)).toInt ≤ rf.toInt) ∧ (m 94 7).toInt < 16 ∧ (0 : Int32).toInt = 0 ∧ ((m 94 7) + (1 : Int32)).toInt = (m 94 7).toInt + 1 ∧ (((m 94 7) + (1 : Int32)) - (1 : Int32)).toInt = (m 94 7).toInt) from by omega) (show (((m 94 7) + (1 : Int32)).toInt = (m 94 7).toInt ∧ ((ma_u m 97 (m 94 7).toNatClampNeg nw) 97) = (m 97) ∧ ((ma_u m 98 (m 94 7).toNatClampNeg rf) 98) = (m 98)) ∨ (((m 94 7) + (1 : Int32)).toInt = (m 94 7).toInt + 1 ∧ ((ma_u m 97 (m 94 7).toNatClampNeg nw) 97) = zUp (m 97) (m 94 7).toNatClampNeg nw ∧ ((ma_u m 98 (m 94 7).toNatClampNeg rf) 98) = zUp (m 98) (m 94 7).toNatClampNeg rf) from by first | (exact Or.inr ⟨by omega, mu_up, mu_up⟩) | (exfalso; omega; done) | (exfalso; contradiction; done))
        · skip
          have g41 := i_nlt h22
          have hV42 : zV (ma_u m 94 0 (1 : Int32)) := uf_94_0 hV
          have li43 : (1 : Int32).toInt = 1 := rfl
          have f44 : 0 ≤ (m 94 7).toInt ∧ (m 94 7).toInt ≤ 16 := rs_94_7 (m := m) hV
          exact K ((0 : Int32)) _ (zF_u zF_rfl rfl) hV42 r_W r_GW r_GU r_OW r_DX r_GG r_HA r_RGc (show (m 94 58).toInt = 0 ∨ (m 94 10).toInt = 5 from by omega) (show ((nw.toInt < 0 ∨ 8 < nw.toInt ∨ rf.toInt < 0 ∨ ((1 : Int32) <<< (nw &&& 31)).toInt ≤ rf.toInt) ∧ (1 : Int32).toInt = 1 ∧ (m 94 7).toInt = (m 94 7).toInt) ∨ (¬ (nw.toInt < 0 ∨ 8 < nw.toInt ∨ rf.toInt < 0 ∨ ((1 : Int32) <<< (nw &&& 31)).toInt ≤ rf.toInt) ∧ (m 94 7).toInt = 16 ∧ (1 : Int32).toInt = 2 ∧ (m 94 7).toInt = (m 94 7).toInt) ∨ (¬ (nw.toInt < 0 ∨ 8 < nw.toInt ∨ rf.toInt < 0 ∨ ((1 : Int32) <<< (nw &&& 31)).toInt ≤ rf.toInt) ∧ (m 94 7).toInt < 16 ∧ (1 : Int32).toInt = 0 ∧ (m 94 7).toInt = (m 94 7).toInt + 1 ∧ (0 : Int32).toInt = (m 94 7).toInt) from by omega) (show ((m 94 7).toInt = (m 94 7).toInt ∧ (m 97) = (m 97) ∧ (m 98) = (m 98)) ∨ ((m 94 7).toInt = (m 94 7).toInt + 1 ∧ (m 97) = zUp (m 97) (m 94 7).toNatClampNeg nw ∧ (m 98) = zUp (m 98) (m 94 7).toNatClampNeg rf) from by first | (exact Or.inl ⟨rfl, rfl, rfl⟩) | (exfalso; omega; done) | (exfalso; contradiction; done))
    · skip
      have g45 := i_nle h12
      have hV46 : zV (ma_u m 94 0 (1 : Int32)) := uf_94_0 hV
      have li47 : (1 : Int32).toInt = 1 := rfl
      have f48 : 0 ≤ (m 94 7).toInt ∧ (m 94 7).toInt ≤ 16 := rs_94_7 (m := m) hV
      exact K ((0 : Int32)) _ (zF_u zF_rfl rfl) hV46 r_W r_GW r_GU r_OW r_DX r_GG r_HA r_RGc (show (m 94 58).toInt = 0 ∨ (m 94 10).toInt = 5 from by omega) (show ((nw.toInt < 0 ∨ 8 < nw.toInt ∨ rf.toInt < 0 ∨ ((1 : Int32) <<< (nw &&& 31)).toInt ≤ rf.toInt) ∧ (1 : Int32).toInt = 1 ∧ (m 94 7).toInt = (m 94 7).toInt) ∨ (¬ (nw.toInt < 0 ∨ 8 < nw.toInt ∨ rf.toInt < 0 ∨ ((1 : Int32) <<< (nw &&& 31)).toInt ≤ rf.toInt) ∧ (m 94 7).toInt = 16 ∧ (1 : Int32).toInt = 2 ∧ (m 94 7).toInt = (m 94 7).toInt) ∨ (¬ (nw.toInt < 0 ∨ 8 < nw.toInt ∨ rf.toInt < 0 ∨ ((1 : Int32) <<< (nw &&& 31)).toInt ≤ rf.toInt) ∧ (m 94 7).toInt < 16 ∧ (1 : Int32).toInt = 0 ∧ (m 94 7).toInt = (m 94 7).toInt + 1 ∧ (0 : Int32).toInt = (m 94 7).toInt) from by omega) (show ((m 94 7).toInt = (m 94 7).toInt ∧ (m 97) = (m 97) ∧ (m 98) = (m 98)) ∨ ((m 94 7).toInt = (m 94 7).toInt + 1 ∧ (m 97) = zUp (m 97) (m 94 7).toNatClampNeg nw ∧ (m 98) = zUp (m 98) (m 94 7).toNatClampNeg rf) from by first | (exact Or.inl ⟨rfl, rfl, rfl⟩) | (exfalso; omega; done) | (exfalso; contradiction; done))

/-! from 95.h49 -/
/-! the reference by numbers (written by wip/tools/gen18r.py) -/
theorem sp_170v {X : Nat × (Nat → Int32)} {P : Option ma_V → (Nat → Nat → Int32) → Prop} {T : Nat} {m : Nat → Nat → Int32} (nw : Int32) (rf : Int32) (hV : zV m) (hpre0 : (m 94 8).toInt = 0) (r_W : zW (m 94 7) (m 98) (m 101) (m 102) (m 108)) (r_GW : zGW T (m 94 55) (m 109)) (KZ : ∀ v m₉, zV (zov wr_170 m m₉) → ((m 94 8).toInt = 0) → (zW (m₉ 94 7) (m₉ 98) (m 101) (m 102) (m 108)) → (zGW T (m 94 55) (m 109)) → (((nw.toInt < 0 ∨ 8 < nw.toInt ∨ rf.toInt < 0 ∨ ((1 : Int32) <<< (nw &&& 31)).toInt ≤ rf.toInt) ∧ (m₉ 94 0).toInt = 1 ∧ (m₉ 94 7).toInt = (m 94 7).toInt) ∨ (¬ (nw.toInt < 0 ∨ 8 < nw.toInt ∨ rf.toInt < 0 ∨ ((1 : Int32) <<< (nw &&& 31)).toInt ≤ rf.toInt) ∧ (m 94 7).toInt = 16 ∧ (m₉ 94 0).toInt = 2 ∧ (m₉ 94 7).toInt = (m 94 7).toInt) ∨ (¬ (nw.toInt < 0 ∨ 8 < nw.toInt ∨ rf.toInt < 0 ∨ ((1 : Int32) <<< (nw &&& 31)).toInt ≤ rf.toInt) ∧ (m 94 7).toInt < 16 ∧ (m₉ 94 0).toInt = 0 ∧ (m₉ 94 7).toInt = (m 94 7).toInt + 1 ∧ v.toInt = (m 94 7).toInt)) → (((m₉ 94 7).toInt = (m 94 7).toInt ∧ (m₉ 97) = (m 97) ∧ (m₉ 98) = (m 98)) ∨ ((m₉ 94 7).toInt = (m 94 7).toInt + 1 ∧ (m₉ 97) = zUp (m 97) (m 94 7).toNatClampNeg nw ∧ (m₉ 98) = zUp (m 98) (m 94 7).toNatClampNeg rf)) → P (some (.inl v)) (zov wr_170 m m₉)) : zm X 1 21 170 0 [(0, .inr (.inr (some 94))), (1, .inl nw), (2, .inl rf)] m P := by
  have K : ∀ v m₉, zF wr_170 m m₉ → zV m₉ → ((m₉ 94 8).toInt = 0) → (zW (m₉ 94 7) (m₉ 98) (m₉ 101) (m₉ 102) (m₉ 108)) → (zGW T (m₉ 94 55) (m₉ 109)) → (((nw.toInt < 0 ∨ 8 < nw.toInt ∨ rf.toInt < 0 ∨ ((1 : Int32) <<< (nw &&& 31)).toInt ≤ rf.toInt) ∧ (m₉ 94 0).toInt = 1 ∧ (m₉ 94 7).toInt = (m 94 7).toInt) ∨ (¬ (nw.toInt < 0 ∨ 8 < nw.toInt ∨ rf.toInt < 0 ∨ ((1 : Int32) <<< (nw &&& 31)).toInt ≤ rf.toInt) ∧ (m 94 7).toInt = 16 ∧ (m₉ 94 0).toInt = 2 ∧ (m₉ 94 7).toInt = (m 94 7).toInt) ∨ (¬ (nw.toInt < 0 ∨ 8 < nw.toInt ∨ rf.toInt < 0 ∨ ((1 : Int32) <<< (nw &&& 31)).toInt ≤ rf.toInt) ∧ (m 94 7).toInt < 16 ∧ (m₉ 94 0).toInt = 0 ∧ (m₉ 94 7).toInt = (m 94 7).toInt + 1 ∧ v.toInt = (m 94 7).toInt)) → (((m₉ 94 7).toInt = (m 94 7).toInt ∧ (m₉ 97) = (m 97) ∧ (m₉ 98) = (m 98)) ∨ ((m₉ 94 7).toInt = (m 94 7).toInt + 1 ∧ (m₉ 97) = zUp (m 97) (m 94 7).toNatClampNeg nw ∧ (m₉ 98) = zUp (m 98) (m 94 7).toNatClampNeg rf)) → P (some (.inl v)) m₉ := by
    intro v m₉ hf z q0 q1 q2 q3 q4
    have e := zov_eq hf
    rw [e] at z ⊢
    try rw [e] at q0
    try rw [e] at q1
    try rw [e] at q2
    try rw [e] at q3
    try rw [e] at q4
    exact KZ v m₉ z q0 q1 q2 q3 q4
  refine g_170_0 nw rf ?_
  have f1 : 0 ≤ (m 94 8).toInt ∧ (m 94 8).toInt ≤ 1 := rs_94_8 (m := m) hV
  have b2 := i_bd nw
  have li3 : (0 : Int32).toInt = 0 := rfl
  refine zd (fun (h4 : nw < (0 : Int32)) => ?_) (fun (h4 : ¬ nw < (0 : Int32)) => ?_)
  · skip
    have g5 := i_lt h4
    have hV6 : zV (ma_u m 94 0 (1 : Int32)) := uf_94_0 hV
    have li7 : (1 : Int32).toInt = 1 := rfl
    have f8 : 0 ≤ (m 94 7).toInt ∧ (m 94 7).toInt ≤ 16 := rs_94_7 (m := m) hV
    exact K ((0 : Int32)) _ (zF_u zF_rfl rfl) hV6 (show (m 94 8).toInt = 0 from by omega) r_W r_GW (show ((nw.toInt < 0 ∨ 8 < nw.toInt ∨ rf.toInt < 0 ∨ ((1 : Int32) <<< (nw &&& 31)).toInt ≤ rf.toInt) ∧ (1 : Int32).toInt = 1 ∧ (m 94 7).toInt = (m 94 7).toInt) ∨ (¬ (nw.toInt < 0 ∨ 8 < nw.toInt ∨ rf.toInt < 0 ∨ ((1 : Int32) <<< (nw &&& 31)).toInt ≤ rf.toInt) ∧ (m 94 7).toInt = 16 ∧ (1 : Int32).toInt = 2 ∧ (m 94 7).toInt = (m 94 7).toInt) ∨ (¬ (nw.toInt < 0 ∨ 8 < nw.toInt ∨ rf.toInt < 0 ∨ ((1 : Int32) <<< (nw &&& 31)).toInt ≤ rf.toInt) ∧ (m 94 7).toInt < 16 ∧ (1 : Int32).toInt = 0 ∧ (m 94 7).toInt = (m 94 7).toInt + 1 ∧ (0 : Int32).toInt = (m 94 7).toInt) from by omega) (show ((m 94 7).toInt = (m 94 7).toInt ∧ (m 97) = (m 97) ∧ (m 98) = (m 98)) ∨ ((m 94 7).toInt = (m 94 7).toInt + 1 ∧ (m 97) = zUp (m 97) (m 94 7).toNatClampNeg nw ∧ (m 98) = zUp (m 98) (m 94 7).toNatClampNeg rf) from by first | (exact Or.inl ⟨rfl, rfl, rfl⟩) | (exfalso; omega; done) | (exfalso; contradiction; done))
  · skip
    have g9 := i_nlt h4
    have li10 : (8 : Int32).toInt = 8 := rfl
    refine zd (fun (h11 : nw ≤ (8 : Int32)) => ?_) (fun (h11 : ¬ nw ≤ (8 : Int32)) => ?_)
    · skip
      have g12 := i_le h11
      have b13 := i_bd rf
      refine zd (fun (h14 : rf < (0 : Int32)) => ?_) (fun (h14 : ¬ rf < (0 : Int32)) => ?_)
      · skip
        have g15 := i_lt h14
        have hV16 : zV (ma_u m 94 0 (1 : Int32)) := uf_94_0 hV
        have li17 : (1 : Int32).toInt = 1 := rfl
        have f18 : 0 ≤ (m 94 7).toInt ∧ (m 94 7).toInt ≤ 16 := rs_94_7 (m := m) hV
        exact K ((0 : Int32)) _ (zF_u zF_rfl rfl) hV16 (show (m 94 8).toInt = 0 from by omega) r_W r_GW (show ((nw.toInt < 0 ∨ 8 < nw.toInt ∨ rf.toInt < 0 ∨ ((1 : Int32) <<< (nw &&& 31)).toInt ≤ rf.toInt) ∧ (1 : Int32).toInt = 1 ∧ (m 94 7).toInt = (m 94 7).toInt) ∨ (¬ (nw.toInt < 0 ∨ 8 < nw.toInt ∨ rf.toInt < 0 ∨ ((1 : Int32) <<< (nw &&& 31)).toInt ≤ rf.toInt) ∧ (m 94 7).toInt = 16 ∧ (1 : Int32).toInt = 2 ∧ (m 94 7).toInt = (m 94 7).toInt) ∨ (¬ (nw.toInt < 0 ∨ 8 < nw.toInt ∨ rf.toInt < 0 ∨ ((1 : Int32) <<< (nw &&& 31)).toInt ≤ rf.toInt) ∧ (m 94 7).toInt < 16 ∧ (1 : Int32).toInt = 0 ∧ (m 94 7).toInt = (m 94 7).toInt + 1 ∧ (0 : Int32).toInt = (m 94 7).toInt) from by omega) (show ((m 94 7).toInt = (m 94 7).toInt ∧ (m 97) = (m 97) ∧ (m 98) = (m 98)) ∨ ((m 94 7).toInt = (m 94 7).toInt + 1 ∧ (m 97) = zUp (m 97) (m 94 7).toNatClampNeg nw ∧ (m 98) = zUp (m 98) (m 94 7).toNatClampNeg rf) from by first | (exact Or.inl ⟨rfl, rfl, rfl⟩) | (exfalso; omega; done) | (exfalso; contradiction; done))
      · skip
        have g19 := i_nlt h14
        have b20 := i_bd ((1 : Int32) <<< (nw &&& 31))
        refine zd (fun (h21 : rf < ((1 : Int32) <<< (nw &&& 31))) => ?_) (fun (h21 : ¬ rf < ((1 : Int32) <<< (nw &&& 31))) => ?_)
        · skip
          have g22 := i_lt h21
          have f23 : 0 ≤ (m 94 7).toInt ∧ (m 94 7).toInt ≤ 16 := rs_94_7 (m := m) hV
          have li24 : (16 : Int32).toInt = 16 := rfl
          refine zd (fun (h25 : (m 94 7) = (16 : Int32)) => ?_) (fun (h25 : ¬ (m 94 7) = (16 : Int32)) => ?_)
          · skip
            have g26 := i_eq h25
            have hV27 : zV (ma_u m 94 0 (2 : Int32)) := uf_94_0 hV
            have li28 : (2 : Int32).toInt = 2 := rfl
            exact K ((0 : Int32)) _ (zF_u zF_rfl rfl) hV27 (show (m 94 8).toInt = 0 from by omega) r_W r_GW (show ((nw.toInt < 0 ∨ 8 < nw.toInt ∨ rf.toInt < 0 ∨ ((1 : Int32) <<< (nw &&& 31)).toInt ≤ rf.toInt) ∧ (2 : Int32).toInt = 1 ∧ (m 94 7).toInt = (m 94 7).toInt) ∨ (¬ (nw.toInt < 0 ∨ 8 < nw.toInt ∨ rf.toInt < 0 ∨ ((1 : Int32) <<< (nw &&& 31)).toInt ≤ rf.toInt) ∧ (m 94 7).toInt = 16 ∧ (2 : Int32).toInt = 2 ∧ (m 94 7).toInt = (m 94 7).toInt) ∨ (¬ (nw.toInt < 0 ∨ 8 < nw.toInt ∨ rf.toInt < 0 ∨ ((1 : Int32) <<< (nw &&& 31)).toInt ≤ rf.toInt) ∧ (m 94 7).toInt < 16 ∧ (2 : Int32).toInt = 0 ∧ (m 94 7).toInt = (m 94 7).toInt + 1 ∧ (0 : Int32).toInt = (m 94 7).toInt) from by omega) (show ((m 94 7).toInt = (m 94 7).toInt ∧ (m 97) = (m 97) ∧ (m 98) = (m 98)) ∨ ((m 94 7).toInt = (m 94 7).toInt + 1 ∧ (m 97) = zUp (m 97) (m 94 7).toNatClampNeg nw ∧ (m 98) = zUp (m 98) (m 94 7).toNatClampNeg rf) from by first | (exact Or.inl ⟨rfl, rfl, rfl⟩) | (exfalso; omega; done) | (exfalso; contradiction; done))
          · skip
            have g29 := i_ne h25
            have hg30 : (0 ≤ (m 94 7) ∧ (m 94 7).toNatClampNeg < 16) := i_ix (by omega) (by omega)
            refine ⟨hg30, ?_⟩
            try have sh := i_shl8 (n := nw) (by omega) (by omega)
            have hg31 : (0 ≤ (m 94 7) ∧ (m 94 7).toNatClampNeg < 16) := i_ix (by omega) (by omega)
            refine ⟨hg31, ?_⟩
            have hV32 : zV (ma_u m 94 0 (0 : Int32)) := uf_94_0 hV
            have hV33 : zV (ma_u (ma_u m 94 0 (0 : Int32)) 97 (m 94 7).toNatClampNeg nw) := ua_97 hV32 (by omega) (by omega)
            have hV34 : zV (ma_u (ma_u (ma_u m 94 0 (0 : Int32)) 97 (m 94 7).toNatClampNeg nw) 98 (m 94 7).toNatClampNeg rf) := ua_98 hV33 (by omega) (by omega)
            first | have e36 : ((m 94 7) + (1 : Int32)).toInt = (m 94 7).toInt + (1) := i_addk rfl (by omega) (by omega) | have b37 := i_bd ((m 94 7) + (1 : Int32))
            have hV35 : zV (ma_u (ma_u (ma_u (ma_u m 94 0 (0 : Int32)) 97 (m 94 7).toNatClampNeg nw) 98 (m 94 7).toNatClampNeg rf) 94 7 ((m 94 7) + (1 : Int32))) := us_94_7 hV34 (by omega) (by omega)
            first | have e38 : (((m 94 7) + (1 : Int32)) - (1 : Int32)).toInt = ((m 94 7) + (1 : Int32)).toInt - (1) := i_subk rfl (by omega) (by omega) | have b39 := i_bd (((m 94 7) + (1 : Int32)) - (1 : Int32))
            exact K ((((m 94 7) + (1 : Int32)) - (1 : Int32))) _ (zF_u (zF_u (zF_u (zF_u zF_rfl rfl) rfl) rfl) rfl) hV35 (show (m 94 8).toInt = 0 from by omega) (show zW ((m 94 7) + (1 : Int32)) ((ma_u m 98 (m 94 7).toNatClampNeg rf) 98) (m 101) (m 102) (m 108) from by first | (exact W_same r_W (by omega) (zrf_kind r_W (tn_cast (by omega)) (fun t ht => (ra_101 hV ht).1))) | (exfalso; omega; done) | (exfalso; contradiction; done)) r_GW (show ((nw.toInt < 0 ∨ 8 < nw.toInt ∨ rf.toInt < 0 ∨ ((1 : Int32) <<< (nw &&& 31)).toInt ≤ rf.toInt) ∧ (0 : Int32).toInt = 1 ∧ ((m 94 7) + (1 : Int32)).toInt = (m 94 7).toInt) ∨ (¬ (nw.toInt < 0 ∨ 8 < nw.toInt ∨ rf.toInt < 0 ∨ ((1 : Int32) <<< (nw &&& 31)).toInt ≤ rf.toInt) ∧ (m 94 7).toInt = 16 ∧ (0 : Int32).toInt = 2 ∧ ((m 94 7) + (1 : Int32)).toInt = (m 94 7).toInt) ∨ (¬ (nw.toInt < 0 ∨ 8 < nw.toInt ∨ rf.toInt < 0 ∨ ((1 : Int32) <<< (nw &&& 31)).toInt ≤ rf.toInt) ∧ (m 94 7).toInt < 16 ∧ (0 : Int32).toInt = 0 ∧ ((m 94 7) + (1 : Int32)).toInt = (m 94 7).toInt + 1 ∧ (((m 94 7) + (1 : Int32)) - (1 : Int32)).toInt = (m 94 7).toInt) from by omega) (show (((m 94 7) + (1 : Int32)).toInt = (m 94 7).toInt ∧ ((ma_u m 97 (m 94 7).toNatClampNeg nw) 97) = (m 97) ∧ ((ma_u m 98 (m 94 7).toNatClampNeg rf) 98) = (m 98)) ∨ (((m 94 7) + (1 : Int32)).toInt = (m 94 7).toInt + 1 ∧ ((ma_u m 97 (m 94 7).toNatClampNeg nw) 97) = zUp (m 97) (m 94 7).toNatClampNeg nw ∧ ((ma_u m 98 (m 94 7).toNatClampNeg rf) 98) = zUp (m 98) (m 94 7).toNatClampNeg rf) from by first | (exact Or.inr ⟨by omega, mu_up, mu_up⟩) | (exfalso; omega; done) | (exfalso; contradiction; done))
        · skip
          have g40 := i_nlt h21
          have hV41 : zV (ma_u m 94 0 (1 : Int32)) := uf_94_0 hV
          have li42 : (1 : Int32).toInt = 1 := rfl
          have f43 : 0 ≤ (m 94 7).toInt ∧ (m 94 7).toInt ≤ 16 := rs_94_7 (m := m) hV
          exact K ((0 : Int32)) _ (zF_u zF_rfl rfl) hV41 (show (m 94 8).toInt = 0 from by omega) r_W r_GW (show ((nw.toInt < 0 ∨ 8 < nw.toInt ∨ rf.toInt < 0 ∨ ((1 : Int32) <<< (nw &&& 31)).toInt ≤ rf.toInt) ∧ (1 : Int32).toInt = 1 ∧ (m 94 7).toInt = (m 94 7).toInt) ∨ (¬ (nw.toInt < 0 ∨ 8 < nw.toInt ∨ rf.toInt < 0 ∨ ((1 : Int32) <<< (nw &&& 31)).toInt ≤ rf.toInt) ∧ (m 94 7).toInt = 16 ∧ (1 : Int32).toInt = 2 ∧ (m 94 7).toInt = (m 94 7).toInt) ∨ (¬ (nw.toInt < 0 ∨ 8 < nw.toInt ∨ rf.toInt < 0 ∨ ((1 : Int32) <<< (nw &&& 31)).toInt ≤ rf.toInt) ∧ (m 94 7).toInt < 16 ∧ (1 : Int32).toInt = 0 ∧ (m 94 7).toInt = (m 94 7).toInt + 1 ∧ (0 : Int32).toInt = (m 94 7).toInt) from by omega) (show ((m 94 7).toInt = (m 94 7).toInt ∧ (m 97) = (m 97) ∧ (m 98) = (m 98)) ∨ ((m 94 7).toInt = (m 94 7).toInt + 1 ∧ (m 97) = zUp (m 97) (m 94 7).toNatClampNeg nw ∧ (m 98) = zUp (m 98) (m 94 7).toNatClampNeg rf) from by first | (exact Or.inl ⟨rfl, rfl, rfl⟩) | (exfalso; omega; done) | (exfalso; contradiction; done))
    · skip
      have g44 := i_nle h11
      have hV45 : zV (ma_u m 94 0 (1 : Int32)) := uf_94_0 hV
      have li46 : (1 : Int32).toInt = 1 := rfl
      have f47 : 0 ≤ (m 94 7).toInt ∧ (m 94 7).toInt ≤ 16 := rs_94_7 (m := m) hV
      exact K ((0 : Int32)) _ (zF_u zF_rfl rfl) hV45 (show (m 94 8).toInt = 0 from by omega) r_W r_GW (show ((nw.toInt < 0 ∨ 8 < nw.toInt ∨ rf.toInt < 0 ∨ ((1 : Int32) <<< (nw &&& 31)).toInt ≤ rf.toInt) ∧ (1 : Int32).toInt = 1 ∧ (m 94 7).toInt = (m 94 7).toInt) ∨ (¬ (nw.toInt < 0 ∨ 8 < nw.toInt ∨ rf.toInt < 0 ∨ ((1 : Int32) <<< (nw &&& 31)).toInt ≤ rf.toInt) ∧ (m 94 7).toInt = 16 ∧ (1 : Int32).toInt = 2 ∧ (m 94 7).toInt = (m 94 7).toInt) ∨ (¬ (nw.toInt < 0 ∨ 8 < nw.toInt ∨ rf.toInt < 0 ∨ ((1 : Int32) <<< (nw &&& 31)).toInt ≤ rf.toInt) ∧ (m 94 7).toInt < 16 ∧ (1 : Int32).toInt = 0 ∧ (m 94 7).toInt = (m 94 7).toInt + 1 ∧ (0 : Int32).toInt = (m 94 7).toInt) from by omega) (show ((m 94 7).toInt = (m 94 7).toInt ∧ (m 97) = (m 97) ∧ (m 98) = (m 98)) ∨ ((m 94 7).toInt = (m 94 7).toInt + 1 ∧ (m 97) = zUp (m 97) (m 94 7).toNatClampNeg nw ∧ (m 98) = zUp (m 98) (m 94 7).toNatClampNeg rf) from by first | (exact Or.inl ⟨rfl, rfl, rfl⟩) | (exfalso; omega; done) | (exfalso; contradiction; done))
theorem sp_257w {X : Nat × (Nat → Int32)} {P : Option ma_V → (Nat → Nat → Int32) → Prop} {T : Nat} {m : Nat → Nat → Int32} (nn : Int32) (hV : zV m) (hpre0 : (m 94 8).toInt = 1) (hpre1 : (m 94 10).toInt ≠ 5) (r_W : zW (m 94 7) (m 98) (m 101) (m 102) (m 108)) (r_GW : zGW T (m 94 55) (m 109)) (r_GU : zGU T (m 94 46) (m 99)) (r_OW : zOw (m 99) (m 103) (m 111)) (r_DX : zDX (m 94 10) (m 99) (m 112) (m 113) (m 114) (m 94 55) (m 98) (m 101) (m 102) (m 108)) (r_GG : zGG (m 94 58) (m 94 56) (m 94 57) (m 106)) (r_HA : zHA (m 94 10) (m 94 11) (m 94 13) (m 94 14) (m 94 16) (m 94 61) (m 94 59) (m 94 60) (m 99) (m 102) (m 103) (m 111) (m 117) (m 98) (m 101) (m 108)) (r_RGc : zRG (m 94 10) (m 94 18) (m 94 64) (m 94 63) (m 99) (m 103) (m 102) (m 116)) (hpre10 : (m 94 58).toInt = 0 ∨ (m 94 10).toInt = 5) (KZ : ∀ v m₉, zV (zov wr_257 m m₉) → (zW (m 94 7) (m 98) (m 101) (m 102) (m 108)) → (zGW T (m₉ 94 55) (m₉ 109)) → (zGU T (m 94 46) (m₉ 99)) → (zOw (m₉ 99) (m 103) (m₉ 111)) → (zDX (m 94 10) (m₉ 99) (m 112) (m₉ 113) (m₉ 114) (m₉ 94 55) (m 98) (m 101) (m 102) (m 108)) → (zGG (m₉ 94 58) (m₉ 94 56) (m₉ 94 57) (m₉ 106)) → (zHA (m 94 10) (m 94 11) (m 94 13) (m 94 14) (m 94 16) (m 94 61) (m 94 59) (m 94 60) (m₉ 99) (m 102) (m 103) (m₉ 111) (m 117) (m 98) (m 101) (m 108)) → (zRG (m 94 10) (m 94 18) (m 94 64) (m 94 63) (m₉ 99) (m 103) (m 102) (m 116)) → ((m₉ 94 58).toInt = 0 ∨ (m 94 10).toInt = 5) → (((nn.toInt < 0 ∨ 1000 < nn.toInt) ∧ (m₉ 94 0).toInt = 1) ∨ ((0 ≤ nn.toInt ∧ nn.toInt ≤ 1000) ∧ (m₉ 94 0).toInt = 3)) → P (some (.inl v)) (zov wr_257 m m₉)) : zm X 5 109 257 0 [(0, .inr (.inr (some 94))), (1, .inl nn)] m P := by
  have K : ∀ v m₉, zF wr_257 m m₉ → zV m₉ → (zW (m₉ 94 7) (m₉ 98) (m₉ 101) (m₉ 102) (m₉ 108)) → (zGW T (m₉ 94 55) (m₉ 109)) → (zGU T (m₉ 94 46) (m₉ 99)) → (zOw (m₉ 99) (m₉ 103) (m₉ 111)) → (zDX (m₉ 94 10) (m₉ 99) (m₉ 112) (m₉ 113) (m₉ 114) (m₉ 94 55) (m₉ 98) (m₉ 101) (m₉ 102) (m₉ 108)) → (zGG (m₉ 94 58) (m₉ 94 56) (m₉ 94 57) (m₉ 106)) → (zHA (m₉ 94 10) (m₉ 94 11) (m₉ 94 13) (m₉ 94 14) (m₉ 94 16) (m₉ 94 61) (m₉ 94 59) (m₉ 94 60) (m₉ 99) (m₉ 102) (m₉ 103) (m₉ 111) (m₉ 117) (m₉ 98) (m₉ 101) (m₉ 108)) → (zRG (m₉ 94 10) (m₉ 94 18) (m₉ 94 64) (m₉ 94 63) (m₉ 99) (m₉ 103) (m₉ 102) (m₉ 116)) → ((m₉ 94 58).toInt = 0 ∨ (m₉ 94 10).toInt = 5) → (((nn.toInt < 0 ∨ 1000 < nn.toInt) ∧ (m₉ 94 0).toInt = 1) ∨ ((0 ≤ nn.toInt ∧ nn.toInt ≤ 1000) ∧ (m₉ 94 0).toInt = 3)) → P (some (.inl v)) m₉ := by
    intro v m₉ hf z q0 q1 q2 q3 q4 q5 q6 q7 q8 q9
    have e := zov_eq hf
    rw [e] at z ⊢
    try rw [e] at q0
    try rw [e] at q1
    try rw [e] at q2
    try rw [e] at q3
    try rw [e] at q4
    try rw [e] at q5
    try rw [e] at q6
    try rw [e] at q7
    try rw [e] at q8
    try rw [e] at q9
    exact KZ v m₉ z q0 q1 q2 q3 q4 q5 q6 q7 q8 q9
  refine g_257_0 nn ?_
  have f1 : 0 ≤ (m 94 8).toInt ∧ (m 94 8).toInt ≤ 1 := rs_94_8 (m := m) hV
  have f2 : 0 ≤ (m 94 10).toInt ∧ (m 94 10).toInt ≤ 6 := rs_94_10 (m := m) hV
  have f3 : 0 ≤ (m 94 58).toInt ∧ (m 94 58).toInt ≤ 1 := rs_94_58 (m := m) hV
  have b4 := i_bd nn
  have li5 : (0 : Int32).toInt = 0 := rfl
  refine zd (fun (h6 : nn < (0 : Int32)) => ?_) (fun (h6 : ¬ nn < (0 : Int32)) => ?_)
  · skip
    have g7 := i_lt h6
    have hV8 : zV (ma_u m 94 0 (1 : Int32)) := uf_94_0 hV
    have li9 : (1 : Int32).toInt = 1 := rfl
    exact K ((0 : Int32)) _ (zF_u zF_rfl rfl) hV8 r_W r_GW r_GU r_OW r_DX r_GG r_HA r_RGc (show (m 94 58).toInt = 0 ∨ (m 94 10).toInt = 5 from by omega) (show ((nn.toInt < 0 ∨ 1000 < nn.toInt) ∧ (1 : Int32).toInt = 1) ∨ ((0 ≤ nn.toInt ∧ nn.toInt ≤ 1000) ∧ (1 : Int32).toInt = 3) from by omega)
  · skip
    have g10 := i_nlt h6
    have li11 : (1000 : Int32).toInt = 1000 := rfl
    refine zd (fun (h12 : nn ≤ (1000 : Int32)) => ?_) (fun (h12 : ¬ nn ≤ (1000 : Int32)) => ?_)
    · skip
      have g13 := i_le h12
      refine zd (fun (h14 : (m 94 8) = (0 : Int32)) => ?_) (fun (h14 : ¬ (m 94 8) = (0 : Int32)) => ?_)
      · skip
        have g15 := i_eq h14
        have hV16 : zV (ma_u m 94 0 (2 : Int32)) := uf_94_0 hV
        have li17 : (2 : Int32).toInt = 2 := rfl
        exact K ((0 : Int32)) _ (zF_u zF_rfl rfl) hV16 r_W r_GW r_GU r_OW r_DX r_GG r_HA r_RGc (show (m 94 58).toInt = 0 ∨ (m 94 10).toInt = 5 from by omega) (show ((nn.toInt < 0 ∨ 1000 < nn.toInt) ∧ (2 : Int32).toInt = 1) ∨ ((0 ≤ nn.toInt ∧ nn.toInt ≤ 1000) ∧ (2 : Int32).toInt = 3) from by omega)
      · skip
        have g18 := i_ne h14
        have li19 : (5 : Int32).toInt = 5 := rfl
        refine zd (fun (h20 : (m 94 10) = (5 : Int32)) => ?_) (fun (h20 : ¬ (m 94 10) = (5 : Int32)) => ?_)
        · skip
          have g21 := i_eq h20
          refine zd (fun (h22 : (m 94 58) = (0 : Int32)) => ?_) (fun (h22 : ¬ (m 94 58) = (0 : Int32)) => ?_)
          · skip
            have g23 := i_eq h22
            have hV24 : zV (ma_u m 94 0 (0 : Int32)) := uf_94_0 hV
            exact K ((0 : Int32)) _ (zF_u zF_rfl rfl) hV24 r_W r_GW r_GU r_OW r_DX r_GG r_HA r_RGc (show (m 94 58).toInt = 0 ∨ (m 94 10).toInt = 5 from by omega) (show ((nn.toInt < 0 ∨ 1000 < nn.toInt) ∧ (0 : Int32).toInt = 1) ∨ ((0 ≤ nn.toInt ∧ nn.toInt ≤ 1000) ∧ (0 : Int32).toInt = 3) from by omega)
          · skip
            have g25 := i_ne h22
            have hV26 : zV (ma_u m 94 0 (0 : Int32)) := uf_94_0 hV
            refine sp_222 (nn) hV26 r_W (show zG1 (m 94 56) (m 94 57) (m 106) from by first | (exact G1_0 (by omega) (by omega)) | (exact r_GG (by omega)) | (exfalso; omega; done) | (exfalso; contradiction; done)) (fun v2 m1 hV_m1 p0_m1 p1_m1 p2_m1 => zmi_n ?_)
            have p0_m1 : zG1 (m1 94 56) (m1 94 57) (m1 106) := p0_m1
            have p1_m1 : (m 94 56).toInt ≤ (m1 94 56).toInt := p1_m1
            have p2_m1 : (m 94 57).toInt ≤ (m1 94 57).toInt ∧ ((m1 94 56).toInt ≤ (m1 94 57).toInt ∨ (m 94 57).toInt + nn.toInt ≤ (m1 94 57).toInt) := p2_m1
            have f27 : 0 ≤ (m 94 56).toInt ∧ (m 94 56).toInt ≤ 3100 := rs_94_56 (m := m) hV
            have f28 : 0 ≤ (m1 94 56).toInt ∧ (m1 94 56).toInt ≤ 3100 := rs_94_56 (m := (zov wr_222 (ma_u m 94 0 (0 : Int32)) m1)) hV_m1
            have f29 : 0 ≤ (m 94 57).toInt ∧ (m 94 57).toInt ≤ 3100 := rs_94_57 (m := m) hV
            have f30 : 0 ≤ (m1 94 57).toInt ∧ (m1 94 57).toInt ≤ 3100 := rs_94_57 (m := (zov wr_222 (ma_u m 94 0 (0 : Int32)) m1)) hV_m1
            refine sp_223  hV_m1 r_W r_GW r_GU r_OW r_DX p0_m1 (show (m 94 10).toInt = 5 from by omega) (show (m 94 58).toInt = 1 from by omega) (fun v4 m3 hV_m3 p0_m3 p1_m3 p2_m3 p3_m3 p4_m3 p5_m3 => zmi_n ?_)
            have p0_m3 : zGW T (m3 94 55) (m3 109) := p0_m3
            have p1_m3 : zGU T (m 94 46) (m3 99) := p1_m3
            have p2_m3 : zOw (m3 99) (m 103) (m3 111) := p2_m3
            have p3_m3 : zDX (m 94 10) (m3 99) (m 112) (m3 113) (m3 114) (m3 94 55) (m 98) (m 101) (m 102) (m 108) := p3_m3
            have p4_m3 : zGG (m3 94 58) (m3 94 56) (m1 94 57) (m3 106) := p4_m3
            have p5_m3 : (m3 94 58).toInt = 0 ∨ ((m3 94 58).toInt = 1 ∧ (m1 94 57).toInt < (m3 94 56).toInt ∧ (m1 94 57).toInt = (m1 94 57).toInt) := p5_m3
            have f31 : 0 ≤ (m3 94 58).toInt ∧ (m3 94 58).toInt ≤ 1 := rs_94_58 (m := (zov wr_223 (zov wr_222 (ma_u m 94 0 (0 : Int32)) m1) m3)) hV_m3
            have f32 : 0 ≤ (m3 94 56).toInt ∧ (m3 94 56).toInt ≤ 3100 := rs_94_56 (m := (zov wr_223 (zov wr_222 (ma_u m 94 0 (0 : Int32)) m1) m3)) hV_m3
            have b33 := i_bd v2
            exact K (v2) _ (zF_zov (zF_zov (zF_u zF_rfl rfl) ws_222_257) ws_223_257) hV_m3 r_W p0_m3 p1_m3 p2_m3 p3_m3 p4_m3 (show zHA (m 94 10) (m 94 11) (m 94 13) (m 94 14) (m 94 16) (m 94 61) (m 94 59) (m 94 60) (m3 99) (m 102) (m 103) (m3 111) (m 117) (m 98) (m 101) (m 108) from by first | (exfalso; omega; done) | (exfalso; contradiction; done)) (show zRG (m 94 10) (m 94 18) (m 94 64) (m 94 63) (m3 99) (m 103) (m 102) (m 116) from by first | (exfalso; omega; done) | (exfalso; contradiction; done)) (show (m3 94 58).toInt = 0 ∨ (m 94 10).toInt = 5 from by omega) (show ((nn.toInt < 0 ∨ 1000 < nn.toInt) ∧ (0 : Int32).toInt = 1) ∨ ((0 ≤ nn.toInt ∧ nn.toInt ≤ 1000) ∧ (0 : Int32).toInt = 3) from by omega)
        · skip
          have g34 := i_ne h20
          have hV35 : zV (ma_u m 94 0 (3 : Int32)) := uf_94_0 hV
          have li36 : (3 : Int32).toInt = 3 := rfl
          exact K ((0 : Int32)) _ (zF_u zF_rfl rfl) hV35 r_W r_GW r_GU r_OW r_DX r_GG r_HA r_RGc (show (m 94 58).toInt = 0 ∨ (m 94 10).toInt = 5 from by omega) (show ((nn.toInt < 0 ∨ 1000 < nn.toInt) ∧ (3 : Int32).toInt = 1) ∨ ((0 ≤ nn.toInt ∧ nn.toInt ≤ 1000) ∧ (3 : Int32).toInt = 3) from by omega)
    · skip
      have g37 := i_nle h12
      have hV38 : zV (ma_u m 94 0 (1 : Int32)) := uf_94_0 hV
      have li39 : (1 : Int32).toInt = 1 := rfl
      exact K ((0 : Int32)) _ (zF_u zF_rfl rfl) hV38 r_W r_GW r_GU r_OW r_DX r_GG r_HA r_RGc (show (m 94 58).toInt = 0 ∨ (m 94 10).toInt = 5 from by omega) (show ((nn.toInt < 0 ∨ 1000 < nn.toInt) ∧ (1 : Int32).toInt = 1) ∨ ((0 ≤ nn.toInt ∧ nn.toInt ≤ 1000) ∧ (1 : Int32).toInt = 3) from by omega)
theorem sp_257v {X : Nat × (Nat → Int32)} {P : Option ma_V → (Nat → Nat → Int32) → Prop} {T : Nat} {m : Nat → Nat → Int32} (nn : Int32) (hV : zV m) (hpre0 : (m 94 8).toInt = 0) (r_W : zW (m 94 7) (m 98) (m 101) (m 102) (m 108)) (r_GW : zGW T (m 94 55) (m 109)) (KZ : ∀ v m₉, zV (zov wr_257 m m₉) → ((m 94 8).toInt = 0) → (zW (m 94 7) (m 98) (m 101) (m 102) (m 108)) → (zGW T (m₉ 94 55) (m₉ 109)) → (((nn.toInt < 0 ∨ 1000 < nn.toInt) ∧ (m₉ 94 0).toInt = 1) ∨ ((0 ≤ nn.toInt ∧ nn.toInt ≤ 1000) ∧ (m₉ 94 0).toInt = 2)) → P (some (.inl v)) (zov wr_257 m m₉)) : zm X 5 109 257 0 [(0, .inr (.inr (some 94))), (1, .inl nn)] m P := by
  have K : ∀ v m₉, zF wr_257 m m₉ → zV m₉ → ((m₉ 94 8).toInt = 0) → (zW (m₉ 94 7) (m₉ 98) (m₉ 101) (m₉ 102) (m₉ 108)) → (zGW T (m₉ 94 55) (m₉ 109)) → (((nn.toInt < 0 ∨ 1000 < nn.toInt) ∧ (m₉ 94 0).toInt = 1) ∨ ((0 ≤ nn.toInt ∧ nn.toInt ≤ 1000) ∧ (m₉ 94 0).toInt = 2)) → P (some (.inl v)) m₉ := by
    intro v m₉ hf z q0 q1 q2 q3
    have e := zov_eq hf
    rw [e] at z ⊢
    try rw [e] at q0
    try rw [e] at q1
    try rw [e] at q2
    try rw [e] at q3
    exact KZ v m₉ z q0 q1 q2 q3
  refine g_257_0 nn ?_
  have f1 : 0 ≤ (m 94 8).toInt ∧ (m 94 8).toInt ≤ 1 := rs_94_8 (m := m) hV
  have b2 := i_bd nn
  have li3 : (0 : Int32).toInt = 0 := rfl
  refine zd (fun (h4 : nn < (0 : Int32)) => ?_) (fun (h4 : ¬ nn < (0 : Int32)) => ?_)
  · skip
    have g5 := i_lt h4
    have hV6 : zV (ma_u m 94 0 (1 : Int32)) := uf_94_0 hV
    have li7 : (1 : Int32).toInt = 1 := rfl
    exact K ((0 : Int32)) _ (zF_u zF_rfl rfl) hV6 (show (m 94 8).toInt = 0 from by omega) r_W r_GW (show ((nn.toInt < 0 ∨ 1000 < nn.toInt) ∧ (1 : Int32).toInt = 1) ∨ ((0 ≤ nn.toInt ∧ nn.toInt ≤ 1000) ∧ (1 : Int32).toInt = 2) from by omega)
  · skip
    have g8 := i_nlt h4
    have li9 : (1000 : Int32).toInt = 1000 := rfl
    refine zd (fun (h10 : nn ≤ (1000 : Int32)) => ?_) (fun (h10 : ¬ nn ≤ (1000 : Int32)) => ?_)
    · skip
      have g11 := i_le h10
      refine zd (fun (h12 : (m 94 8) = (0 : Int32)) => ?_) (fun (h12 : ¬ (m 94 8) = (0 : Int32)) => ?_)
      · skip
        have g13 := i_eq h12
        have hV14 : zV (ma_u m 94 0 (2 : Int32)) := uf_94_0 hV
        have li15 : (2 : Int32).toInt = 2 := rfl
        exact K ((0 : Int32)) _ (zF_u zF_rfl rfl) hV14 (show (m 94 8).toInt = 0 from by omega) r_W r_GW (show ((nn.toInt < 0 ∨ 1000 < nn.toInt) ∧ (2 : Int32).toInt = 1) ∨ ((0 ≤ nn.toInt ∧ nn.toInt ≤ 1000) ∧ (2 : Int32).toInt = 2) from by omega)
      · skip
        have g16 := i_ne h12
        have f17 : 0 ≤ (m 94 10).toInt ∧ (m 94 10).toInt ≤ 6 := rs_94_10 (m := m) hV
        have li18 : (5 : Int32).toInt = 5 := rfl
        refine zd (fun (h19 : (m 94 10) = (5 : Int32)) => ?_) (fun (h19 : ¬ (m 94 10) = (5 : Int32)) => ?_)
        · skip
          have g20 := i_eq h19
          have f21 : 0 ≤ (m 94 58).toInt ∧ (m 94 58).toInt ≤ 1 := rs_94_58 (m := m) hV
          refine zd (fun (h22 : (m 94 58) = (0 : Int32)) => ?_) (fun (h22 : ¬ (m 94 58) = (0 : Int32)) => ?_)
          · skip
            have g23 := i_eq h22
            have hV24 : zV (ma_u m 94 0 (0 : Int32)) := uf_94_0 hV
            exact K ((0 : Int32)) _ (zF_u zF_rfl rfl) hV24 (show (m 94 8).toInt = 0 from by omega) r_W r_GW (show ((nn.toInt < 0 ∨ 1000 < nn.toInt) ∧ (0 : Int32).toInt = 1) ∨ ((0 ≤ nn.toInt ∧ nn.toInt ≤ 1000) ∧ (0 : Int32).toInt = 2) from by omega)
          · skip
            have g25 := i_ne h22
            have hV26 : zV (ma_u m 94 0 (0 : Int32)) := uf_94_0 hV
            refine sp_222 (nn) hV26 r_W (show zG1 (m 94 56) (m 94 57) (m 106) from by first | (exact G1_0 (by omega) (by omega)) | (exfalso; omega; done) | (exfalso; contradiction; done)) (fun v2 m1 hV_m1 p0_m1 p1_m1 p2_m1 => zmi_n ?_)
            have p0_m1 : zG1 (m1 94 56) (m1 94 57) (m1 106) := p0_m1
            have p1_m1 : (m 94 56).toInt ≤ (m1 94 56).toInt := p1_m1
            have p2_m1 : (m 94 57).toInt ≤ (m1 94 57).toInt ∧ ((m1 94 56).toInt ≤ (m1 94 57).toInt ∨ (m 94 57).toInt + nn.toInt ≤ (m1 94 57).toInt) := p2_m1
            have f27 : 0 ≤ (m 94 56).toInt ∧ (m 94 56).toInt ≤ 3100 := rs_94_56 (m := m) hV
            have f28 : 0 ≤ (m1 94 56).toInt ∧ (m1 94 56).toInt ≤ 3100 := rs_94_56 (m := (zov wr_222 (ma_u m 94 0 (0 : Int32)) m1)) hV_m1
            have f29 : 0 ≤ (m 94 57).toInt ∧ (m 94 57).toInt ≤ 3100 := rs_94_57 (m := m) hV
            have f30 : 0 ≤ (m1 94 57).toInt ∧ (m1 94 57).toInt ≤ 3100 := rs_94_57 (m := (zov wr_222 (ma_u m 94 0 (0 : Int32)) m1)) hV_m1
            refine sp_223  hV_m1 r_W r_GW (show zGU T (m 94 46) (m 99) from by first | (exfalso; omega; done) | (exfalso; contradiction; done)) (show zOw (m 99) (m 103) (m 111) from by first | (exfalso; omega; done) | (exfalso; contradiction; done)) (show zDX (m 94 10) (m 99) (m 112) (m 113) (m 114) (m 94 55) (m 98) (m 101) (m 102) (m 108) from by first | (exfalso; omega; done) | (exfalso; contradiction; done)) p0_m1 (show (m 94 10).toInt = 5 from by omega) (show (m 94 58).toInt = 1 from by omega) (fun v4 m3 hV_m3 p0_m3 p1_m3 p2_m3 p3_m3 p4_m3 p5_m3 => zmi_n ?_)
            have p0_m3 : zGW T (m3 94 55) (m3 109) := p0_m3
            have p1_m3 : zGU T (m 94 46) (m3 99) := p1_m3
            have p2_m3 : zOw (m3 99) (m 103) (m3 111) := p2_m3
            have p3_m3 : zDX (m 94 10) (m3 99) (m 112) (m3 113) (m3 114) (m3 94 55) (m 98) (m 101) (m 102) (m 108) := p3_m3
            have p4_m3 : zGG (m3 94 58) (m3 94 56) (m1 94 57) (m3 106) := p4_m3
            have p5_m3 : (m3 94 58).toInt = 0 ∨ ((m3 94 58).toInt = 1 ∧ (m1 94 57).toInt < (m3 94 56).toInt ∧ (m1 94 57).toInt = (m1 94 57).toInt) := p5_m3
            have f31 : 0 ≤ (m3 94 58).toInt ∧ (m3 94 58).toInt ≤ 1 := rs_94_58 (m := (zov wr_223 (zov wr_222 (ma_u m 94 0 (0 : Int32)) m1) m3)) hV_m3
            have f32 : 0 ≤ (m3 94 56).toInt ∧ (m3 94 56).toInt ≤ 3100 := rs_94_56 (m := (zov wr_223 (zov wr_222 (ma_u m 94 0 (0 : Int32)) m1) m3)) hV_m3
            have b33 := i_bd v2
            exact K (v2) _ (zF_zov (zF_zov (zF_u zF_rfl rfl) ws_222_257) ws_223_257) hV_m3 (show (m 94 8).toInt = 0 from by omega) r_W p0_m3 (show ((nn.toInt < 0 ∨ 1000 < nn.toInt) ∧ (0 : Int32).toInt = 1) ∨ ((0 ≤ nn.toInt ∧ nn.toInt ≤ 1000) ∧ (0 : Int32).toInt = 2) from by omega)
        · skip
          have g34 := i_ne h19
          have hV35 : zV (ma_u m 94 0 (3 : Int32)) := uf_94_0 hV
          have li36 : (3 : Int32).toInt = 3 := rfl
          exact K ((0 : Int32)) _ (zF_u zF_rfl rfl) hV35 (show (m 94 8).toInt = 0 from by omega) r_W r_GW (show ((nn.toInt < 0 ∨ 1000 < nn.toInt) ∧ (3 : Int32).toInt = 1) ∨ ((0 ≤ nn.toInt ∧ nn.toInt ≤ 1000) ∧ (3 : Int32).toInt = 2) from by omega)
    · skip
      have g37 := i_nle h10
      have hV38 : zV (ma_u m 94 0 (1 : Int32)) := uf_94_0 hV
      have li39 : (1 : Int32).toInt = 1 := rfl
      exact K ((0 : Int32)) _ (zF_u zF_rfl rfl) hV38 (show (m 94 8).toInt = 0 from by omega) r_W r_GW (show ((nn.toInt < 0 ∨ 1000 < nn.toInt) ∧ (1 : Int32).toInt = 1) ∨ ((0 ≤ nn.toInt ∧ nn.toInt ≤ 1000) ∧ (1 : Int32).toInt = 2) from by omega)

/-! from 95.i00 -/
/-! A TEXT IS READ: all but the house's own cells stays -/
def zFm (I : Nat → Nat → Int32) (L : Nat → Nat → Int64) (R : Nat → Option Nat) (S : ma_S) : Prop := mR S 70 = R ∧ mL S = L ∧ ∀ c k, 69 ≤ c → mI S c k = I c k
section FM
variable {I : Nat → Nat → Int32} {L : Nat → Nat → Int64} {R : Nat → Option Nat} {S S0 : ma_S} {c k n W : Nat} {x : Int32} {ab : Nat → Nat → Int32}
theorem fn9_0 : zFm (mI S) (mL S) (mR S 70) S := ⟨rfl, rfl, fun _ _ _ => rfl⟩
theorem fn9_p (h : zFm I L R S) (hc : c < 69) : zFm I L R (ma_put S c k (.inl x)) := ⟨h.1, h.2.1, fun c₉ k₉ h1 => by
  show (if c₉ = c ∧ k₉ = k then x else mI S c₉ k₉) = I c₉ k₉
  rw [if_neg (by omega)]
  exact h.2.2 c₉ k₉ h1⟩
theorem fn9_aS (h : zFm (mI S0) (mL S0) (mR S0 70) S) (hR : ∀ n b, mR S0 70 n = some b → 126 ≤ b) : aS 88 S = aS 88 S0 := by
  unfold aS
  rw [h.1, h.2.1]
  funext c1 k1
  by_cases b : zrl c1 k1 = true
  · have w := zcw_lt (W := 88) (Or.inr rfl) b
    have p := zrl_p b
    rw [aF_I b, aF_I b]
    refine h.2.2 _ _ ?_
    unfold zcw
    split <;> omega
  · unfold aF
    rw [if_neg b, if_neg b]
    split
    · rfl
    · split
      · rfl
      · split
        · split
          · unfold aTf
            split
            · cases e : mR S0 70 k1 with
              | none => rfl
              | some q =>
                have := hR _ _ e
                exact h.2.2 q _ (by omega)
            · rfl
          · rfl
        · rfl
theorem fn9_xB (h : zFm (mI S0) (mL S0) (mR S0 70) S) (hB : xB S0 (mR S0 70)) : xB S (mR S 70) := ⟨rfl, fun n t hn e => by
  rw [h.1] at e
  have q := hB.2 n t hn e
  exact ⟨q.1, by rw [h.2.2 t 0 (by omega)]; exact q.2⟩⟩
theorem aS_64 {q : Option Nat} : aS W (ma_put S 64 11 (.inr (.inr q))) = aS W S := rfl
theorem xB_64 {q : Option Nat} (h : xB S (mR S 70)) : xB (ma_put S 64 11 (.inr (.inr q))) (mR (ma_put S 64 11 (.inr (.inr q))) 70) := h
theorem aS_n0 : aS W (ma_put S 70 n (.inr (.inr none))) = zNo (aS W S) n := by
  have e : mR (ma_put S 70 n (.inr (.inr none))) 70 = zRu (mR S 70) n none := by
    funext k₉
    show (if 70 = 70 ∧ k₉ = n then none else mR S 70 k₉) = if k₉ = n then none else mR S 70 k₉
    by_cases z : k₉ = n
    · rw [if_pos ⟨rfl, z⟩, if_pos z]
    · rw [if_neg (fun q => z q.2), if_neg z]
  unfold aS
  rw [e]
  exact aF_R (W := W) (I := mI S) (R := mR S 70) (L := mL S) (n := n)
def zNt (S : ma_S) (p : Int) : Prop := ∀ n : Nat, (n : Int) < p → mR S 70 n = none
theorem Nt_0 : zNt S 0 := fun n h => by omega
theorem Nt_s {j : Int32} (h : zNt S j.toInt) (h0 : 0 ≤ j.toInt) (h1 : j.toInt < 2147483647) : zNt (ma_put S 70 j.toNatClampNeg (.inr (.inr none))) (j + 1).toInt := fun n hn => by
  have e := i_p1 h1
  have e2 := tn_cast h0
  show (if 70 = 70 ∧ n = j.toNatClampNeg then none else mR S 70 n) = none
  by_cases z : n = j.toNatClampNeg
  · rw [if_pos ⟨rfl, z⟩]
  · rw [if_neg (fun q => z q.2)]
    exact h n (by omega)
theorem Nt_e (h : zNt S 512) : xB S (mR S 70) := ⟨rfl, fun n t hn e => by
  rw [h n (by omega)] at e
  cases e⟩
end FM

/-! from 95.i10 -/
/-! the class opens a heap (written by wip/tools/gen18c.py) -/
theorem g_129_64_sq_0 {X : Nat × (Nat → Int32)} {d w : Nat} {S : ma_S} {Q : Option ma_V ⊕ Nat → ma_S → Prop}  (hd : 0 ≤ d) (hw : 0 ≤ w) (hS : zT S) (h : ma_wp X d w 129 5 [(0, .inr (.inr (some 64))), (1, .inl (mI S 64 3))] [] S Q) : ma_wp X d w 129 0 [(0, .inr (.inr (some 64)))] [] S Q := by
  refine zw_push hm_129 dX11_nextToken_0 (v := .inr (.inr (some 64))) rfl ?_
  refine zw_gf hm_129 dX11_nextToken_1 (v := .inl (mI S 64 3)) (zT_is hS s_64) (zT_t hS s_64) rfl f_11_275_11 rfl ?_
  refine zw_sto hm_129 dX11_nextToken_4 [(1, .inl (mI S 64 3)), (0, .inr (.inr (some 64)))] rfl rfl rfl ?_
  exact zw_sub (ma_nd_of (ks := [0, 1]) rfl (by decide)) (ma_nd_of (ks := [1, 0]) rfl (by decide)) (ma_le_cons rfl (ma_le_cons rfl (ma_le_nil _))) h
theorem g_129_64_sq_5 {X : Nat × (Nat → Int32)} {d w : Nat} {S : ma_S} {Q : Option ma_V ⊕ Nat → ma_S → Prop} (l1 : Int32) (hd : 0 ≤ d) (hw : 0 ≤ w) (hS : zT S) (h : if (mI S 64 1) ≤ l1 then (ma_wp X d w 129 35 [(0, .inr (.inr (some 64))), (1, .inl l1)] [] (ma_put S 64 2 (.inl l1)) Q) else ((0 ≤ l1 ∧ l1.toNatClampNeg < 100) ∧ (if (mI S 65 l1.toNatClampNeg) = (32 : Int32) then (ma_wp X d w 129 5 [(0, .inr (.inr (some 64))), (1, .inl (l1 + (1 : Int32)))] [] S Q) else (ma_wp X d w 129 35 [(0, .inr (.inr (some 64))), (1, .inl l1)] [] (ma_put S 64 2 (.inl l1)) Q)))) : ma_wp X d w 129 5 [(0, .inr (.inr (some 64))), (1, .inl l1)] [] S Q := by
  refine zw_push hm_129 dX11_nextToken_5 (v := .inl l1) rfl ?_
  refine zw_push hm_129 dX11_nextToken_6 (v := .inr (.inr (some 64))) rfl ?_
  refine zw_gf hm_129 dX11_nextToken_7 (v := .inl (mI S 64 1)) (zT_is hS s_64) (zT_t hS s_64) rfl f_11_68_11 rfl ?_
  refine zw_if2 hm_129 dX11_nextToken_10 (t := 30) rfl zc2_ge ?_ ?_
  · intro hc
    rw [if_pos hc] at h
    refine zw_push hm_129 dX11_nextToken_30 (v := .inr (.inr (some 64))) rfl ?_
    refine zw_push hm_129 dX11_nextToken_31 (v := .inl l1) rfl ?_
    refine zw_pf hm_129 dX11_nextToken_32 (zT_is hS s_64) (zT_t hS s_64) p_11_92_11 zk_int ?_
    exact h
  · intro hc
    rw [if_neg hc] at h
    refine zw_push hm_129 dX11_nextToken_13 (v := .inr (.inr (some 64))) rfl ?_
    refine zw_gf hm_129 dX11_nextToken_14 (v := .inr (.inr (some 65))) (zT_is hS s_64) (zT_t hS s_64) rfl f_11_9_11 (zT_f hS r_64_0) ?_
    refine zw_push hm_129 dX11_nextToken_17 (v := .inl l1) rfl ?_
    obtain ⟨hg, h⟩ := h
    refine zw_ba hm_129 dX11_nextToken_18 (zT_is hS s_65) (zT_h hS s_65) rfl rfl hg ?_
    show ma_wp X d w 129 19 [(0, .inr (.inr (some 64))), (1, .inl l1)] [.inl (mI S 65 l1.toNatClampNeg)] S _
    refine zw_push hm_129 dX11_nextToken_19 (v := .inl (32 : Int32)) rfl ?_
    refine zw_if2 hm_129 dX11_nextToken_21 (t := 30) rfl zc2_ne ?_ ?_
    · intro hc
      rw [if_neg hc] at h
      refine zw_push hm_129 dX11_nextToken_30 (v := .inr (.inr (some 64))) rfl ?_
      refine zw_push hm_129 dX11_nextToken_31 (v := .inl l1) rfl ?_
      refine zw_pf hm_129 dX11_nextToken_32 (zT_is hS s_64) (zT_t hS s_64) p_11_92_11 zk_int ?_
      exact h
    · intro hc
      rw [if_pos (Classical.not_not.mp hc)] at h
      refine zw_sto hm_129 dX11_nextToken_24 [(1, .inl (l1 + (1 : Int32))), (0, .inr (.inr (some 64)))] rfl rfl rfl ?_
      refine zw_goto hm_129 dX11_nextToken_27 (t := 5) rfl ?_
      exact zw_sub (ma_nd_of (ks := [0, 1]) rfl (by decide)) (ma_nd_of (ks := [1, 0]) rfl (by decide)) (ma_le_cons rfl (ma_le_cons rfl (ma_le_nil _))) h
theorem g_129_64_sq_35 {X : Nat × (Nat → Int32)} {d w : Nat} {S : ma_S} {Q : Option ma_V ⊕ Nat → ma_S → Prop} (l1 : Int32) (hd : 0 ≤ d) (hw : 0 ≤ w) (hS : zT S) (h : if (mI S 64 1) ≤ l1 then (if l1 ≤ (mI S 64 2) then (Q (.inl (some (.inl (0 : Int32)))) (ma_put S 64 3 (.inl l1))) else (Q (.inl (some (.inl (1 : Int32)))) (ma_put S 64 3 (.inl l1)))) else ((0 ≤ l1 ∧ l1.toNatClampNeg < 100) ∧ (if (mI S 65 l1.toNatClampNeg) = (32 : Int32) then (if l1 ≤ (mI S 64 2) then (Q (.inl (some (.inl (0 : Int32)))) (ma_put S 64 3 (.inl l1))) else (Q (.inl (some (.inl (1 : Int32)))) (ma_put S 64 3 (.inl l1)))) else (ma_wp X d w 129 35 [(0, .inr (.inr (some 64))), (1, .inl (l1 + (1 : Int32)))] [] S Q)))) : ma_wp X d w 129 35 [(0, .inr (.inr (some 64))), (1, .inl l1)] [] S Q := by
  refine zw_push hm_129 dX11_nextToken_35 (v := .inl l1) rfl ?_
  refine zw_push hm_129 dX11_nextToken_36 (v := .inr (.inr (some 64))) rfl ?_
  refine zw_gf hm_129 dX11_nextToken_37 (v := .inl (mI S 64 1)) (zT_is hS s_64) (zT_t hS s_64) rfl f_11_68_11 rfl ?_
  refine zw_if2 hm_129 dX11_nextToken_40 (t := 60) rfl zc2_ge ?_ ?_
  · intro hc
    rw [if_pos hc] at h
    refine zw_push hm_129 dX11_nextToken_60 (v := .inr (.inr (some 64))) rfl ?_
    refine zw_push hm_129 dX11_nextToken_61 (v := .inl l1) rfl ?_
    refine zw_pf hm_129 dX11_nextToken_62 (zT_is hS s_64) (zT_t hS s_64) p_11_275_11 zk_int ?_
    refine zw_push hm_129 dX11_nextToken_65 (v := .inr (.inr (some 64))) rfl ?_
    refine zw_gf hm_129 dX11_nextToken_66 (v := .inl (mI S 64 2)) (zT_is (zT_pi hS) s_64) (zT_t (zT_pi hS) s_64) rfl f_11_92_11 rfl ?_
    refine zw_push hm_129 dX11_nextToken_69 (v := .inr (.inr (some 64))) rfl ?_
    refine zw_gf hm_129 dX11_nextToken_70 (v := .inl l1) (zT_is (zT_pi hS) s_64) (zT_t (zT_pi hS) s_64) rfl f_11_275_11 rfl ?_
    refine zw_if2 hm_129 dX11_nextToken_73 (t := 80) rfl zc2_ge ?_ ?_
    · intro hc
      rw [if_pos hc] at h
      refine zw_push hm_129 dX11_nextToken_80 (v := .inl (0 : Int32)) rfl ?_
      exact zw_bret hm_129 dX11_nextToken_81 (by decide) h
    · intro hc
      rw [if_neg hc] at h
      refine zw_push hm_129 dX11_nextToken_76 (v := .inl (1 : Int32)) rfl ?_
      refine zw_goto hm_129 dX11_nextToken_77 (t := 81) rfl ?_
      exact zw_bret hm_129 dX11_nextToken_81 (by decide) h
  · intro hc
    rw [if_neg hc] at h
    refine zw_push hm_129 dX11_nextToken_43 (v := .inr (.inr (some 64))) rfl ?_
    refine zw_gf hm_129 dX11_nextToken_44 (v := .inr (.inr (some 65))) (zT_is hS s_64) (zT_t hS s_64) rfl f_11_9_11 (zT_f hS r_64_0) ?_
    refine zw_push hm_129 dX11_nextToken_47 (v := .inl l1) rfl ?_
    obtain ⟨hg, h⟩ := h
    refine zw_ba hm_129 dX11_nextToken_48 (zT_is hS s_65) (zT_h hS s_65) rfl rfl hg ?_
    show ma_wp X d w 129 49 [(0, .inr (.inr (some 64))), (1, .inl l1)] [.inl (mI S 65 l1.toNatClampNeg)] S _
    refine zw_push hm_129 dX11_nextToken_49 (v := .inl (32 : Int32)) rfl ?_
    refine zw_if2 hm_129 dX11_nextToken_51 (t := 60) rfl zc2_eq ?_ ?_
    · intro hc
      rw [if_pos hc] at h
      refine zw_push hm_129 dX11_nextToken_60 (v := .inr (.inr (some 64))) rfl ?_
      refine zw_push hm_129 dX11_nextToken_61 (v := .inl l1) rfl ?_
      refine zw_pf hm_129 dX11_nextToken_62 (zT_is hS s_64) (zT_t hS s_64) p_11_275_11 zk_int ?_
      refine zw_push hm_129 dX11_nextToken_65 (v := .inr (.inr (some 64))) rfl ?_
      refine zw_gf hm_129 dX11_nextToken_66 (v := .inl (mI S 64 2)) (zT_is (zT_pi hS) s_64) (zT_t (zT_pi hS) s_64) rfl f_11_92_11 rfl ?_
      refine zw_push hm_129 dX11_nextToken_69 (v := .inr (.inr (some 64))) rfl ?_
      refine zw_gf hm_129 dX11_nextToken_70 (v := .inl l1) (zT_is (zT_pi hS) s_64) (zT_t (zT_pi hS) s_64) rfl f_11_275_11 rfl ?_
      refine zw_if2 hm_129 dX11_nextToken_73 (t := 80) rfl zc2_ge ?_ ?_
      · intro hc
        rw [if_pos hc] at h
        refine zw_push hm_129 dX11_nextToken_80 (v := .inl (0 : Int32)) rfl ?_
        exact zw_bret hm_129 dX11_nextToken_81 (by decide) h
      · intro hc
        rw [if_neg hc] at h
        refine zw_push hm_129 dX11_nextToken_76 (v := .inl (1 : Int32)) rfl ?_
        refine zw_goto hm_129 dX11_nextToken_77 (t := 81) rfl ?_
        exact zw_bret hm_129 dX11_nextToken_81 (by decide) h
    · intro hc
      rw [if_neg hc] at h
      refine zw_sto hm_129 dX11_nextToken_54 [(1, .inl (l1 + (1 : Int32))), (0, .inr (.inr (some 64)))] rfl rfl rfl ?_
      refine zw_goto hm_129 dX11_nextToken_57 (t := 35) rfl ?_
      exact zw_sub (ma_nd_of (ks := [0, 1]) rfl (by decide)) (ma_nd_of (ks := [1, 0]) rfl (by decide)) (ma_le_cons rfl (ma_le_cons rfl (ma_le_nil _))) h
theorem lp_129_64_sq_35 {X : Nat × (Nat → Int32)} {d w : Nat} {f : Nat → Nat → Int32} {r : Nat → Nat → Option Nat} {C Z N : Nat} {Q : Option ma_V ⊕ Nat → ma_S → Prop} {p0 : Int} {I0 : Nat→Nat→Int32} {L0 : Nat→Nat→Int64} {R0 : zRT} (hd : 0 ≤ d) (hw : 0 ≤ w) (K : ∀ v S₉, zY f r C Z N S₉ → (v = 0 ∨ v = 1) → ((mI S₉ 64 2).toInt = tk true (f 65) (f 64 1).toInt p0) → ((mI S₉ 64 3).toInt = tk false (f 65) (f 64 1).toInt (mI S₉ 64 2).toInt) → ((v.toInt = 1 ∧ (mI S₉ 64 2).toInt < (mI S₉ 64 3).toInt) ∨ (v.toInt = 0 ∧ (mI S₉ 64 3).toInt ≤ (mI S₉ 64 2).toInt)) → ((mI S₉ 64 2).toInt ≤ (mI S₉ 64 3).toInt) → (zFm I0 L0 R0 S₉) → Q (.inl (some (.inl v))) S₉) : ∀ (n : Nat) (S : ma_S) (l1 : Int32), (100 - l1.toInt).toNat = n → zY f r C Z N S → (0 ≤ l1.toInt) → (l1.toInt ≤ 100) → ((mI S 64 2).toInt ≤ l1.toInt) → ((mI S 64 2).toInt = tk true (f 65) (f 64 1).toInt p0) → (tk false (f 65) (f 64 1).toInt l1.toInt = tk false (f 65) (f 64 1).toInt (mI S 64 2).toInt) → (zFm I0 L0 R0 S) → ma_wp X d w 129 35 [(0, .inr (.inr (some 64))), (1, .inl l1)] [] S Q := by
  intro n
  induction n using Nat.strongRecOn with
  | _ n IH =>
    intro S l1 hmu hI  hi0 hi1 hi2 hi3 hi4 hi5
    refine g_129_64_sq_35 l1 (by omega) (by omega) (zG_T hI) ?_
    have f1 := zG_s hI (0) (100) (c := 64) (k := 2) (by decide)
    have q2 : (mI S 64 1).toInt = (f 64 1).toInt := zG_zi hI rfl
    have f3 := zG_s hI (0) (100) (c := 64) (k := 1) (by decide)
    have b4 := i_bd l1
    refine zd (fun h5 => ?_) (fun h5 => ?_)
    · skip
      have g6 := i_le h5
      refine zd (fun h7 => ?_) (fun h7 => ?_)
      · skip
        have g8 := i_le h7
        have hI9 : zY f r C Z N (ma_put S 64 3 (.inl l1)) := zG_sp hI (0) (100) rfl (by decide) (by decide) (by decide) trivial (by omega) (by omega)
        have li10 : (0 : Int32).toInt = 0 := rfl
        exact K ((0 : Int32)) _ hI9 (by decide) (show (mI S 64 2).toInt = tk true (f 65) (f 64 1).toInt p0 from by first | (exact hi3) | (omega) | (exfalso; omega)) (show l1.toInt = tk false (f 65) (f 64 1).toInt (mI S 64 2).toInt from by first | (exact ((tk_e (by omega)).symm.trans hi4)) | (exact ((tk_w0 (x := mI S 65 l1.toNatClampNeg) (zG_z hI rfl) (by assumption)).symm.trans hi4)) | (omega) | (exfalso; omega)) (show ((0 : Int32).toInt = 1 ∧ (mI S 64 2).toInt < l1.toInt) ∨ ((0 : Int32).toInt = 0 ∧ l1.toInt ≤ (mI S 64 2).toInt) from by first | (omega) | (exfalso; omega)) (show (mI S 64 2).toInt ≤ l1.toInt from by first | (omega) | (exfalso; omega)) (show zFm I0 L0 R0 (ma_put S 64 3 (.inl l1)) from by first | (exact (fn9_p hi5 (by decide))))
      · skip
        have g11 := i_nle h7
        have hI12 : zY f r C Z N (ma_put S 64 3 (.inl l1)) := zG_sp hI (0) (100) rfl (by decide) (by decide) (by decide) trivial (by omega) (by omega)
        have li13 : (1 : Int32).toInt = 1 := rfl
        exact K ((1 : Int32)) _ hI12 (by decide) (show (mI S 64 2).toInt = tk true (f 65) (f 64 1).toInt p0 from by first | (exact hi3) | (omega) | (exfalso; omega)) (show l1.toInt = tk false (f 65) (f 64 1).toInt (mI S 64 2).toInt from by first | (exact ((tk_e (by omega)).symm.trans hi4)) | (exact ((tk_w0 (x := mI S 65 l1.toNatClampNeg) (zG_z hI rfl) (by assumption)).symm.trans hi4)) | (omega) | (exfalso; omega)) (show ((1 : Int32).toInt = 1 ∧ (mI S 64 2).toInt < l1.toInt) ∨ ((1 : Int32).toInt = 0 ∧ l1.toInt ≤ (mI S 64 2).toInt) from by first | (omega) | (exfalso; omega)) (show (mI S 64 2).toInt ≤ l1.toInt from by first | (omega) | (exfalso; omega)) (show zFm I0 L0 R0 (ma_put S 64 3 (.inl l1)) from by first | (exact (fn9_p hi5 (by decide))))
    · skip
      have g14 := i_nle h5
      refine ⟨i_ix (by omega) (by omega), ?_⟩
      have q15 : (mI S 65 l1.toNatClampNeg).toInt = (f 65 l1.toNatClampNeg).toInt := zG_zi hI rfl
      have b16 := i_bd (mI S 65 l1.toNatClampNeg)
      have li17 : (32 : Int32).toInt = 32 := rfl
      refine zd (fun h18 => ?_) (fun h18 => ?_)
      · skip
        have g19 := i_eq h18
        refine zd (fun h20 => ?_) (fun h20 => ?_)
        · skip
          have g21 := i_le h20
          have hI22 : zY f r C Z N (ma_put S 64 3 (.inl l1)) := zG_sp hI (0) (100) rfl (by decide) (by decide) (by decide) trivial (by omega) (by omega)
          have li23 : (0 : Int32).toInt = 0 := rfl
          exact K ((0 : Int32)) _ hI22 (by decide) (show (mI S 64 2).toInt = tk true (f 65) (f 64 1).toInt p0 from by first | (exact hi3) | (omega) | (exfalso; omega)) (show l1.toInt = tk false (f 65) (f 64 1).toInt (mI S 64 2).toInt from by first | (exact ((tk_e (by omega)).symm.trans hi4)) | (exact ((tk_w0 (x := mI S 65 l1.toNatClampNeg) (zG_z hI rfl) (by assumption)).symm.trans hi4)) | (omega) | (exfalso; omega)) (show ((0 : Int32).toInt = 1 ∧ (mI S 64 2).toInt < l1.toInt) ∨ ((0 : Int32).toInt = 0 ∧ l1.toInt ≤ (mI S 64 2).toInt) from by first | (omega) | (exfalso; omega)) (show (mI S 64 2).toInt ≤ l1.toInt from by first | (omega) | (exfalso; omega)) (show zFm I0 L0 R0 (ma_put S 64 3 (.inl l1)) from by first | (exact (fn9_p hi5 (by decide))))
        · skip
          have g24 := i_nle h20
          have hI25 : zY f r C Z N (ma_put S 64 3 (.inl l1)) := zG_sp hI (0) (100) rfl (by decide) (by decide) (by decide) trivial (by omega) (by omega)
          have li26 : (1 : Int32).toInt = 1 := rfl
          exact K ((1 : Int32)) _ hI25 (by decide) (show (mI S 64 2).toInt = tk true (f 65) (f 64 1).toInt p0 from by first | (exact hi3) | (omega) | (exfalso; omega)) (show l1.toInt = tk false (f 65) (f 64 1).toInt (mI S 64 2).toInt from by first | (exact ((tk_e (by omega)).symm.trans hi4)) | (exact ((tk_w0 (x := mI S 65 l1.toNatClampNeg) (zG_z hI rfl) (by assumption)).symm.trans hi4)) | (omega) | (exfalso; omega)) (show ((1 : Int32).toInt = 1 ∧ (mI S 64 2).toInt < l1.toInt) ∨ ((1 : Int32).toInt = 0 ∧ l1.toInt ≤ (mI S 64 2).toInt) from by first | (omega) | (exfalso; omega)) (show (mI S 64 2).toInt ≤ l1.toInt from by first | (omega) | (exfalso; omega)) (show zFm I0 L0 R0 (ma_put S 64 3 (.inl l1)) from by first | (exact (fn9_p hi5 (by decide))))
      · skip
        have g27 := i_ne h18
        first | have e28 : (l1 + (1 : Int32)).toInt = l1.toInt + (1) := i_addk rfl (by omega) (by omega) | have b29 := i_bd (l1 + (1 : Int32))
        exact IH _ (by omega) _ ((l1 + (1 : Int32))) rfl hI (by omega) (by omega) (show (mI S 64 2).toInt ≤ ((l1 + (1 : Int32))).toInt from by omega) (show (mI S 64 2).toInt = tk true (f 65) (f 64 1).toInt p0 from by first | (exact hi3) | (omega) | (exfalso; omega)) (show tk false (f 65) (f 64 1).toInt ((l1 + (1 : Int32))).toInt = tk false (f 65) (f 64 1).toInt (mI S 64 2).toInt from by first | (exact rfl) | (exact (tk_w1 (p := l1.toInt) (x := mI S 65 l1.toNatClampNeg) (by omega) (zG_z hI rfl) (by assumption) (by omega)).symm.trans hi4) | (omega) | (exfalso; omega)) (show zFm I0 L0 R0 S from by first | (exact hi5))
theorem lp_129_64_sq_5 {X : Nat × (Nat → Int32)} {d w : Nat} {f : Nat → Nat → Int32} {r : Nat → Nat → Option Nat} {C Z N : Nat} {Q : Option ma_V ⊕ Nat → ma_S → Prop} {p0 : Int} {I0 : Nat→Nat→Int32} {L0 : Nat→Nat→Int64} {R0 : zRT} (hd : 0 ≤ d) (hw : 0 ≤ w) (K : ∀ v S₉, zY f r C Z N S₉ → (v = 0 ∨ v = 1) → ((mI S₉ 64 2).toInt = tk true (f 65) (f 64 1).toInt p0) → ((mI S₉ 64 3).toInt = tk false (f 65) (f 64 1).toInt (mI S₉ 64 2).toInt) → ((v.toInt = 1 ∧ (mI S₉ 64 2).toInt < (mI S₉ 64 3).toInt) ∨ (v.toInt = 0 ∧ (mI S₉ 64 3).toInt ≤ (mI S₉ 64 2).toInt)) → ((mI S₉ 64 2).toInt ≤ (mI S₉ 64 3).toInt) → (zFm I0 L0 R0 S₉) → Q (.inl (some (.inl v))) S₉) : ∀ (n : Nat) (S : ma_S) (l1 : Int32), (100 - l1.toInt).toNat = n → zY f r C Z N S → (0 ≤ l1.toInt) → (l1.toInt ≤ 100) → (tk true (f 65) (f 64 1).toInt l1.toInt = tk true (f 65) (f 64 1).toInt p0) → (zFm I0 L0 R0 S) → ma_wp X d w 129 5 [(0, .inr (.inr (some 64))), (1, .inl l1)] [] S Q := by
  intro n
  induction n using Nat.strongRecOn with
  | _ n IH =>
    intro S l1 hmu hI  hi0 hi1 hi2 hi3
    refine g_129_64_sq_5 l1 (by omega) (by omega) (zG_T hI) ?_
    have q1 : (mI S 64 1).toInt = (f 64 1).toInt := zG_zi hI rfl
    have f2 := zG_s hI (0) (100) (c := 64) (k := 1) (by decide)
    have b3 := i_bd l1
    refine zd (fun h4 => ?_) (fun h4 => ?_)
    · skip
      have g5 := i_le h4
      have hI6 : zY f r C Z N (ma_put S 64 2 (.inl l1)) := zG_sp hI (0) (100) rfl (by decide) (by decide) (by decide) trivial (by omega) (by omega)
      exact lp_129_64_sq_35 (by omega) (by omega) K _ _ (l1) rfl hI6 (by omega) (by omega) (show l1.toInt ≤ (l1).toInt from by omega) (show l1.toInt = tk true (f 65) (f 64 1).toInt p0 from by first | (exact ((tk_e (by omega)).symm.trans hi2)) | (exact ((tk_b0 (x := mI S 65 l1.toNatClampNeg) (zG_z hI rfl) (by assumption)).symm.trans hi2)) | (omega) | (exfalso; omega)) (show tk false (f 65) (f 64 1).toInt (l1).toInt = tk false (f 65) (f 64 1).toInt l1.toInt from by first | (exact rfl) | (omega) | (exfalso; omega)) (show zFm I0 L0 R0 (ma_put S 64 2 (.inl l1)) from by first | (exact (fn9_p hi3 (by decide))))
    · skip
      have g7 := i_nle h4
      refine ⟨i_ix (by omega) (by omega), ?_⟩
      have q8 : (mI S 65 l1.toNatClampNeg).toInt = (f 65 l1.toNatClampNeg).toInt := zG_zi hI rfl
      have b9 := i_bd (mI S 65 l1.toNatClampNeg)
      have li10 : (32 : Int32).toInt = 32 := rfl
      refine zd (fun h11 => ?_) (fun h11 => ?_)
      · skip
        have g12 := i_eq h11
        first | have e13 : (l1 + (1 : Int32)).toInt = l1.toInt + (1) := i_addk rfl (by omega) (by omega) | have b14 := i_bd (l1 + (1 : Int32))
        exact IH _ (by omega) _ ((l1 + (1 : Int32))) rfl hI (by omega) (by omega) (show tk true (f 65) (f 64 1).toInt ((l1 + (1 : Int32))).toInt = tk true (f 65) (f 64 1).toInt p0 from by first | (exact congrArg (tk true _ _) (by omega)) | (exact (tk_b1 (p := l1.toInt) (x := mI S 65 l1.toNatClampNeg) (by omega) (zG_z hI rfl) (by assumption) (by omega)).symm.trans hi2) | (omega) | (exfalso; omega)) (show zFm I0 L0 R0 S from by first | (exact hi3))
      · skip
        have g15 := i_ne h11
        have hI16 : zY f r C Z N (ma_put S 64 2 (.inl l1)) := zG_sp hI (0) (100) rfl (by decide) (by decide) (by decide) trivial (by omega) (by omega)
        exact lp_129_64_sq_35 (by omega) (by omega) K _ _ (l1) rfl hI16 (by omega) (by omega) (show l1.toInt ≤ (l1).toInt from by omega) (show l1.toInt = tk true (f 65) (f 64 1).toInt p0 from by first | (exact ((tk_e (by omega)).symm.trans hi2)) | (exact ((tk_b0 (x := mI S 65 l1.toNatClampNeg) (zG_z hI rfl) (by assumption)).symm.trans hi2)) | (omega) | (exfalso; omega)) (show tk false (f 65) (f 64 1).toInt (l1).toInt = tk false (f 65) (f 64 1).toInt l1.toInt from by first | (exact rfl) | (omega) | (exfalso; omega)) (show zFm I0 L0 R0 (ma_put S 64 2 (.inl l1)) from by first | (exact (fn9_p hi3 (by decide))))
theorem sp_129_64_sq {X : Nat × (Nat → Int32)} {d w : Nat} {f : Nat → Nat → Int32} {r : Nat → Nat → Option Nat} {C Z N : Nat} {Q : Option ma_V ⊕ Nat → ma_S → Prop} {p0 : Int} {I0 : Nat→Nat→Int32} {L0 : Nat→Nat→Int64} {R0 : zRT} {S : ma_S}  (hd : 0 ≤ d) (hw : 0 ≤ w) (hI : zY f r C Z N S) (hpre0 : (mI S 64 3).toInt = p0) (hpre1 : zFm I0 L0 R0 S) (K : ∀ v S₉, zY f r C Z N S₉ → (v = 0 ∨ v = 1) → ((mI S₉ 64 2).toInt = tk true (f 65) (f 64 1).toInt p0) → ((mI S₉ 64 3).toInt = tk false (f 65) (f 64 1).toInt (mI S₉ 64 2).toInt) → ((v.toInt = 1 ∧ (mI S₉ 64 2).toInt < (mI S₉ 64 3).toInt) ∨ (v.toInt = 0 ∧ (mI S₉ 64 3).toInt ≤ (mI S₉ 64 2).toInt)) → ((mI S₉ 64 2).toInt ≤ (mI S₉ 64 3).toInt) → (zFm I0 L0 R0 S₉) → Q (.inl (some (.inl v))) S₉) : ma_wp X d w 129 0 [(0, .inr (.inr (some 64)))] [] S Q := by
  refine g_129_64_sq_0  (by omega) (by omega) (zG_T hI) ?_
  have f1 := zG_s hI (0) (100) (c := 64) (k := 3) (by decide)
  exact lp_129_64_sq_5 (by omega) (by omega) K _ _ ((mI S 64 3)) rfl hI (by omega) (by omega) (show tk true (f 65) (f 64 1).toInt ((mI S 64 3)).toInt = tk true (f 65) (f 64 1).toInt p0 from by first | (exact congrArg (tk true _ _) (by omega)) | (omega) | (exfalso; omega)) (show zFm I0 L0 R0 S from by first | (exact hpre1))

/-! from 95.i11 -/
/-! the class opens a heap (written by wip/tools/gen18c.py) -/
theorem g_131_64_0_sq_0 {X : Nat × (Nat → Int32)} {d w : Nat} {S : ma_S} {Q : Option ma_V ⊕ Nat → ma_S → Prop}  (hd : 5 ≤ d) (hw : 100 ≤ w) (hS : zT S) (h : if ((mI S 64 3) - (mI S 64 2)) = (5 : Int32) then (if (100 : Int32) ≤ ((mI S 64 2) + (0 : Int32)) then (Q (.inl (some (.inl (1 : Int32)))) S) else ((0 ≤ ((mI S 64 2) + (0 : Int32)) ∧ ((mI S 64 2) + (0 : Int32)).toNatClampNeg < 100) ∧ (if (mI S 65 ((mI S 64 2) + (0 : Int32)).toNatClampNeg) = (115 : Int32) then (if (100 : Int32) ≤ ((mI S 64 2) + (1 : Int32)) then (Q (.inl (some (.inl (1 : Int32)))) S) else ((0 ≤ ((mI S 64 2) + (1 : Int32)) ∧ ((mI S 64 2) + (1 : Int32)).toNatClampNeg < 100) ∧ (if (mI S 65 ((mI S 64 2) + (1 : Int32)).toNatClampNeg) = (119 : Int32) then (if (100 : Int32) ≤ ((mI S 64 2) + (2 : Int32)) then (Q (.inl (some (.inl (1 : Int32)))) S) else ((0 ≤ ((mI S 64 2) + (2 : Int32)) ∧ ((mI S 64 2) + (2 : Int32)).toNatClampNeg < 100) ∧ (if (mI S 65 ((mI S 64 2) + (2 : Int32)).toNatClampNeg) = (101 : Int32) then (if (100 : Int32) ≤ ((mI S 64 2) + (3 : Int32)) then (Q (.inl (some (.inl (1 : Int32)))) S) else ((0 ≤ ((mI S 64 2) + (3 : Int32)) ∧ ((mI S 64 2) + (3 : Int32)).toNatClampNeg < 100) ∧ (if (mI S 65 ((mI S 64 2) + (3 : Int32)).toNatClampNeg) = (101 : Int32) then (if (100 : Int32) ≤ ((mI S 64 2) + (4 : Int32)) then (Q (.inl (some (.inl (1 : Int32)))) S) else ((0 ≤ ((mI S 64 2) + (4 : Int32)) ∧ ((mI S 64 2) + (4 : Int32)).toNatClampNeg < 100) ∧ (if (mI S 65 ((mI S 64 2) + (4 : Int32)).toNatClampNeg) = (112 : Int32) then (Q (.inl (some (.inl (1 : Int32)))) S) else (Q (.inl (some (.inl (0 : Int32)))) S)))) else (Q (.inl (some (.inl (0 : Int32)))) S)))) else (Q (.inl (some (.inl (0 : Int32)))) S)))) else (Q (.inl (some (.inl (0 : Int32)))) S)))) else (Q (.inl (some (.inl (0 : Int32)))) S)))) else (Q (.inl (some (.inl (0 : Int32)))) S)) : ma_wp X d w 131 0 [(0, .inr (.inr (some 64))), (1, .inr (.inr (some 0)))] [] S Q := by
  refine zw_push hm_131 dX11_tokenIs_0 (v := .inr (.inr (some 64))) rfl ?_
  refine zw_gf hm_131 dX11_tokenIs_1 (v := .inl (mI S 64 3)) (zT_is hS s_64) (zT_t hS s_64) rfl f_11_275_11 rfl ?_
  refine zw_push hm_131 dX11_tokenIs_4 (v := .inr (.inr (some 64))) rfl ?_
  refine zw_gf hm_131 dX11_tokenIs_5 (v := .inl (mI S 64 2)) (zT_is hS s_64) (zT_t hS s_64) rfl f_11_92_11 rfl ?_
  refine zw_stk hm_131 dX11_tokenIs_8 (st₉ := [.inl ((mI S 64 3) - (mI S 64 2))]) rfl rfl ?_
  refine zw_push hm_131 dX11_tokenIs_9 (v := .inr (.inr (some 0))) rfl ?_
  refine zw_cv hm_131 dX11_tokenIs_10 v_11_288_17 hm_277 [] [.inl ((mI S 64 3) - (mI S 64 2))] rfl rfl ⟨by omega, by omega⟩ rfl (tx_len (v := (5 : Int32)) (by decide) (by omega) (by omega) rfl rfl ?_)
  show ma_wp X d w 131 13 [(0, .inr (.inr (some 64))), (1, .inr (.inr (some 0)))] [.inl (5 : Int32), .inl ((mI S 64 3) - (mI S 64 2))] S _
  refine zw_if2 hm_131 dX11_tokenIs_13 (t := 18) rfl zc2_eq ?_ ?_
  · intro hc
    rw [if_pos hc] at h
    refine zw_push hm_131 dX11_tokenIs_18 (v := .inl (0 : Int32)) rfl ?_
    refine zw_sto hm_131 dX11_tokenIs_19 [(2, .inl (0 : Int32)), (0, .inr (.inr (some 64))), (1, .inr (.inr (some 0)))] rfl rfl rfl ?_
    refine zw_push hm_131 dX11_tokenIs_20 (v := .inl (0 : Int32)) rfl ?_
    refine zw_push hm_131 dX11_tokenIs_21 (v := .inr (.inr (some 0))) rfl ?_
    refine zw_cv hm_131 dX11_tokenIs_22 v_11_288_17 hm_277 [] [.inl (0 : Int32)] rfl rfl ⟨by omega, by omega⟩ rfl (tx_len (v := (5 : Int32)) (by decide) (by omega) (by omega) rfl rfl ?_)
    show ma_wp X d w 131 25 [(2, .inl (0 : Int32)), (0, .inr (.inr (some 64))), (1, .inr (.inr (some 0)))] [.inl (5 : Int32), .inl (0 : Int32)] S _
    refine zw_if2 hm_131 dX11_tokenIs_25 (t := 66) rfl zc2_ge (fun hc => absurd hc (by decide)) (fun _ => ?_)
    refine zw_push hm_131 dX11_tokenIs_28 (v := .inr (.inr (some 64))) rfl ?_
    refine zw_gf hm_131 dX11_tokenIs_29 (v := .inl (mI S 64 2)) (zT_is hS s_64) (zT_t hS s_64) rfl f_11_92_11 rfl ?_
    refine zw_push hm_131 dX11_tokenIs_32 (v := .inl (0 : Int32)) rfl ?_
    refine zw_stk hm_131 dX11_tokenIs_33 (st₉ := [.inl ((mI S 64 2) + (0 : Int32))]) rfl rfl ?_
    refine zw_push hm_131 dX11_tokenIs_34 (v := .inl (100 : Int32)) rfl ?_
    refine zw_if2 hm_131 dX11_tokenIs_36 (t := 66) rfl zc2_ge ?_ ?_
    · intro hc
      rw [if_pos hc] at h
      refine zw_push hm_131 dX11_tokenIs_66 (v := .inl (1 : Int32)) rfl ?_
      exact zw_bret hm_131 dX11_tokenIs_67 (by decide) h
    · intro hc
      rw [if_neg hc] at h
      refine zw_push hm_131 dX11_tokenIs_39 (v := .inr (.inr (some 64))) rfl ?_
      refine zw_gf hm_131 dX11_tokenIs_40 (v := .inr (.inr (some 65))) (zT_is hS s_64) (zT_t hS s_64) rfl f_11_9_11 (zT_f hS r_64_0) ?_
      refine zw_push hm_131 dX11_tokenIs_43 (v := .inr (.inr (some 64))) rfl ?_
      refine zw_gf hm_131 dX11_tokenIs_44 (v := .inl (mI S 64 2)) (zT_is hS s_64) (zT_t hS s_64) rfl f_11_92_11 rfl ?_
      refine zw_push hm_131 dX11_tokenIs_47 (v := .inl (0 : Int32)) rfl ?_
      refine zw_stk hm_131 dX11_tokenIs_48 (st₉ := [.inl ((mI S 64 2) + (0 : Int32)), .inr (.inr (some 65))]) rfl rfl ?_
      obtain ⟨hg, h⟩ := h
      refine zw_ba hm_131 dX11_tokenIs_49 (zT_is hS s_65) (zT_h hS s_65) rfl rfl hg ?_
      show ma_wp X d w 131 50 [(2, .inl (0 : Int32)), (0, .inr (.inr (some 64))), (1, .inr (.inr (some 0)))] [.inl (mI S 65 ((mI S 64 2) + (0 : Int32)).toNatClampNeg)] S _
      refine zw_push hm_131 dX11_tokenIs_50 (v := .inr (.inr (some 0))) rfl ?_
      refine zw_push hm_131 dX11_tokenIs_51 (v := .inl (0 : Int32)) rfl ?_
      refine zw_cv hm_131 dX11_tokenIs_52 v_11_293_17 hm_279 [.inl (0 : Int32)] [.inl (mI S 65 ((mI S 64 2) + (0 : Int32)).toNatClampNeg)] rfl rfl ⟨by omega, by omega⟩ rfl (tx_char (v := (115 : Int32)) (by decide) (by omega) (by omega) (by decide) (by decide) (by decide) (by decide) ?_)
      show ma_wp X d w 131 55 [(2, .inl (0 : Int32)), (0, .inr (.inr (some 64))), (1, .inr (.inr (some 0)))] [.inl (115 : Int32), .inl (mI S 65 ((mI S 64 2) + (0 : Int32)).toNatClampNeg)] S _
      refine zw_if2 hm_131 dX11_tokenIs_55 (t := 60) rfl zc2_eq ?_ ?_
      · intro hc
        rw [if_pos hc] at h
        refine zw_sto hm_131 dX11_tokenIs_60 [(2, .inl (1 : Int32)), (0, .inr (.inr (some 64))), (1, .inr (.inr (some 0)))] rfl rfl rfl ?_
        refine zw_goto hm_131 dX11_tokenIs_63 (t := 20) rfl ?_
        refine zw_push hm_131 dX11_tokenIs_20 (v := .inl (1 : Int32)) rfl ?_
        refine zw_push hm_131 dX11_tokenIs_21 (v := .inr (.inr (some 0))) rfl ?_
        refine zw_cv hm_131 dX11_tokenIs_22 v_11_288_17 hm_277 [] [.inl (1 : Int32)] rfl rfl ⟨by omega, by omega⟩ rfl (tx_len (v := (5 : Int32)) (by decide) (by omega) (by omega) rfl rfl ?_)
        show ma_wp X d w 131 25 [(2, .inl (1 : Int32)), (0, .inr (.inr (some 64))), (1, .inr (.inr (some 0)))] [.inl (5 : Int32), .inl (1 : Int32)] S _
        refine zw_if2 hm_131 dX11_tokenIs_25 (t := 66) rfl zc2_ge (fun hc => absurd hc (by decide)) (fun _ => ?_)
        refine zw_push hm_131 dX11_tokenIs_28 (v := .inr (.inr (some 64))) rfl ?_
        refine zw_gf hm_131 dX11_tokenIs_29 (v := .inl (mI S 64 2)) (zT_is hS s_64) (zT_t hS s_64) rfl f_11_92_11 rfl ?_
        refine zw_push hm_131 dX11_tokenIs_32 (v := .inl (1 : Int32)) rfl ?_
        refine zw_stk hm_131 dX11_tokenIs_33 (st₉ := [.inl ((mI S 64 2) + (1 : Int32))]) rfl rfl ?_
        refine zw_push hm_131 dX11_tokenIs_34 (v := .inl (100 : Int32)) rfl ?_
        refine zw_if2 hm_131 dX11_tokenIs_36 (t := 66) rfl zc2_ge ?_ ?_
        · intro hc
          rw [if_pos hc] at h
          refine zw_push hm_131 dX11_tokenIs_66 (v := .inl (1 : Int32)) rfl ?_
          exact zw_bret hm_131 dX11_tokenIs_67 (by decide) h
        · intro hc
          rw [if_neg hc] at h
          refine zw_push hm_131 dX11_tokenIs_39 (v := .inr (.inr (some 64))) rfl ?_
          refine zw_gf hm_131 dX11_tokenIs_40 (v := .inr (.inr (some 65))) (zT_is hS s_64) (zT_t hS s_64) rfl f_11_9_11 (zT_f hS r_64_0) ?_
          refine zw_push hm_131 dX11_tokenIs_43 (v := .inr (.inr (some 64))) rfl ?_
          refine zw_gf hm_131 dX11_tokenIs_44 (v := .inl (mI S 64 2)) (zT_is hS s_64) (zT_t hS s_64) rfl f_11_92_11 rfl ?_
          refine zw_push hm_131 dX11_tokenIs_47 (v := .inl (1 : Int32)) rfl ?_
          refine zw_stk hm_131 dX11_tokenIs_48 (st₉ := [.inl ((mI S 64 2) + (1 : Int32)), .inr (.inr (some 65))]) rfl rfl ?_
          obtain ⟨hg, h⟩ := h
          refine zw_ba hm_131 dX11_tokenIs_49 (zT_is hS s_65) (zT_h hS s_65) rfl rfl hg ?_
          show ma_wp X d w 131 50 [(2, .inl (1 : Int32)), (0, .inr (.inr (some 64))), (1, .inr (.inr (some 0)))] [.inl (mI S 65 ((mI S 64 2) + (1 : Int32)).toNatClampNeg)] S _
          refine zw_push hm_131 dX11_tokenIs_50 (v := .inr (.inr (some 0))) rfl ?_
          refine zw_push hm_131 dX11_tokenIs_51 (v := .inl (1 : Int32)) rfl ?_
          refine zw_cv hm_131 dX11_tokenIs_52 v_11_293_17 hm_279 [.inl (1 : Int32)] [.inl (mI S 65 ((mI S 64 2) + (1 : Int32)).toNatClampNeg)] rfl rfl ⟨by omega, by omega⟩ rfl (tx_char (v := (119 : Int32)) (by decide) (by omega) (by omega) (by decide) (by decide) (by decide) (by decide) ?_)
          show ma_wp X d w 131 55 [(2, .inl (1 : Int32)), (0, .inr (.inr (some 64))), (1, .inr (.inr (some 0)))] [.inl (119 : Int32), .inl (mI S 65 ((mI S 64 2) + (1 : Int32)).toNatClampNeg)] S _
          refine zw_if2 hm_131 dX11_tokenIs_55 (t := 60) rfl zc2_eq ?_ ?_
          · intro hc
            rw [if_pos hc] at h
            refine zw_sto hm_131 dX11_tokenIs_60 [(2, .inl (2 : Int32)), (0, .inr (.inr (some 64))), (1, .inr (.inr (some 0)))] rfl rfl rfl ?_
            refine zw_goto hm_131 dX11_tokenIs_63 (t := 20) rfl ?_
            refine zw_push hm_131 dX11_tokenIs_20 (v := .inl (2 : Int32)) rfl ?_
            refine zw_push hm_131 dX11_tokenIs_21 (v := .inr (.inr (some 0))) rfl ?_
            refine zw_cv hm_131 dX11_tokenIs_22 v_11_288_17 hm_277 [] [.inl (2 : Int32)] rfl rfl ⟨by omega, by omega⟩ rfl (tx_len (v := (5 : Int32)) (by decide) (by omega) (by omega) rfl rfl ?_)
            show ma_wp X d w 131 25 [(2, .inl (2 : Int32)), (0, .inr (.inr (some 64))), (1, .inr (.inr (some 0)))] [.inl (5 : Int32), .inl (2 : Int32)] S _
            refine zw_if2 hm_131 dX11_tokenIs_25 (t := 66) rfl zc2_ge (fun hc => absurd hc (by decide)) (fun _ => ?_)
            refine zw_push hm_131 dX11_tokenIs_28 (v := .inr (.inr (some 64))) rfl ?_
            refine zw_gf hm_131 dX11_tokenIs_29 (v := .inl (mI S 64 2)) (zT_is hS s_64) (zT_t hS s_64) rfl f_11_92_11 rfl ?_
            refine zw_push hm_131 dX11_tokenIs_32 (v := .inl (2 : Int32)) rfl ?_
            refine zw_stk hm_131 dX11_tokenIs_33 (st₉ := [.inl ((mI S 64 2) + (2 : Int32))]) rfl rfl ?_
            refine zw_push hm_131 dX11_tokenIs_34 (v := .inl (100 : Int32)) rfl ?_
            refine zw_if2 hm_131 dX11_tokenIs_36 (t := 66) rfl zc2_ge ?_ ?_
            · intro hc
              rw [if_pos hc] at h
              refine zw_push hm_131 dX11_tokenIs_66 (v := .inl (1 : Int32)) rfl ?_
              exact zw_bret hm_131 dX11_tokenIs_67 (by decide) h
            · intro hc
              rw [if_neg hc] at h
              refine zw_push hm_131 dX11_tokenIs_39 (v := .inr (.inr (some 64))) rfl ?_
              refine zw_gf hm_131 dX11_tokenIs_40 (v := .inr (.inr (some 65))) (zT_is hS s_64) (zT_t hS s_64) rfl f_11_9_11 (zT_f hS r_64_0) ?_
              refine zw_push hm_131 dX11_tokenIs_43 (v := .inr (.inr (some 64))) rfl ?_
              refine zw_gf hm_131 dX11_tokenIs_44 (v := .inl (mI S 64 2)) (zT_is hS s_64) (zT_t hS s_64) rfl f_11_92_11 rfl ?_
              refine zw_push hm_131 dX11_tokenIs_47 (v := .inl (2 : Int32)) rfl ?_
              refine zw_stk hm_131 dX11_tokenIs_48 (st₉ := [.inl ((mI S 64 2) + (2 : Int32)), .inr (.inr (some 65))]) rfl rfl ?_
              obtain ⟨hg, h⟩ := h
              refine zw_ba hm_131 dX11_tokenIs_49 (zT_is hS s_65) (zT_h hS s_65) rfl rfl hg ?_
              show ma_wp X d w 131 50 [(2, .inl (2 : Int32)), (0, .inr (.inr (some 64))), (1, .inr (.inr (some 0)))] [.inl (mI S 65 ((mI S 64 2) + (2 : Int32)).toNatClampNeg)] S _
              refine zw_push hm_131 dX11_tokenIs_50 (v := .inr (.inr (some 0))) rfl ?_
              refine zw_push hm_131 dX11_tokenIs_51 (v := .inl (2 : Int32)) rfl ?_
              refine zw_cv hm_131 dX11_tokenIs_52 v_11_293_17 hm_279 [.inl (2 : Int32)] [.inl (mI S 65 ((mI S 64 2) + (2 : Int32)).toNatClampNeg)] rfl rfl ⟨by omega, by omega⟩ rfl (tx_char (v := (101 : Int32)) (by decide) (by omega) (by omega) (by decide) (by decide) (by decide) (by decide) ?_)
              show ma_wp X d w 131 55 [(2, .inl (2 : Int32)), (0, .inr (.inr (some 64))), (1, .inr (.inr (some 0)))] [.inl (101 : Int32), .inl (mI S 65 ((mI S 64 2) + (2 : Int32)).toNatClampNeg)] S _
              refine zw_if2 hm_131 dX11_tokenIs_55 (t := 60) rfl zc2_eq ?_ ?_
              · intro hc
                rw [if_pos hc] at h
                refine zw_sto hm_131 dX11_tokenIs_60 [(2, .inl (3 : Int32)), (0, .inr (.inr (some 64))), (1, .inr (.inr (some 0)))] rfl rfl rfl ?_
                refine zw_goto hm_131 dX11_tokenIs_63 (t := 20) rfl ?_
                refine zw_push hm_131 dX11_tokenIs_20 (v := .inl (3 : Int32)) rfl ?_
                refine zw_push hm_131 dX11_tokenIs_21 (v := .inr (.inr (some 0))) rfl ?_
                refine zw_cv hm_131 dX11_tokenIs_22 v_11_288_17 hm_277 [] [.inl (3 : Int32)] rfl rfl ⟨by omega, by omega⟩ rfl (tx_len (v := (5 : Int32)) (by decide) (by omega) (by omega) rfl rfl ?_)
                show ma_wp X d w 131 25 [(2, .inl (3 : Int32)), (0, .inr (.inr (some 64))), (1, .inr (.inr (some 0)))] [.inl (5 : Int32), .inl (3 : Int32)] S _
                refine zw_if2 hm_131 dX11_tokenIs_25 (t := 66) rfl zc2_ge (fun hc => absurd hc (by decide)) (fun _ => ?_)
                refine zw_push hm_131 dX11_tokenIs_28 (v := .inr (.inr (some 64))) rfl ?_
                refine zw_gf hm_131 dX11_tokenIs_29 (v := .inl (mI S 64 2)) (zT_is hS s_64) (zT_t hS s_64) rfl f_11_92_11 rfl ?_
                refine zw_push hm_131 dX11_tokenIs_32 (v := .inl (3 : Int32)) rfl ?_
                refine zw_stk hm_131 dX11_tokenIs_33 (st₉ := [.inl ((mI S 64 2) + (3 : Int32))]) rfl rfl ?_
                refine zw_push hm_131 dX11_tokenIs_34 (v := .inl (100 : Int32)) rfl ?_
                refine zw_if2 hm_131 dX11_tokenIs_36 (t := 66) rfl zc2_ge ?_ ?_
                · intro hc
                  rw [if_pos hc] at h
                  refine zw_push hm_131 dX11_tokenIs_66 (v := .inl (1 : Int32)) rfl ?_
                  exact zw_bret hm_131 dX11_tokenIs_67 (by decide) h
                · intro hc
                  rw [if_neg hc] at h
                  refine zw_push hm_131 dX11_tokenIs_39 (v := .inr (.inr (some 64))) rfl ?_
                  refine zw_gf hm_131 dX11_tokenIs_40 (v := .inr (.inr (some 65))) (zT_is hS s_64) (zT_t hS s_64) rfl f_11_9_11 (zT_f hS r_64_0) ?_
                  refine zw_push hm_131 dX11_tokenIs_43 (v := .inr (.inr (some 64))) rfl ?_
                  refine zw_gf hm_131 dX11_tokenIs_44 (v := .inl (mI S 64 2)) (zT_is hS s_64) (zT_t hS s_64) rfl f_11_92_11 rfl ?_
                  refine zw_push hm_131 dX11_tokenIs_47 (v := .inl (3 : Int32)) rfl ?_
                  refine zw_stk hm_131 dX11_tokenIs_48 (st₉ := [.inl ((mI S 64 2) + (3 : Int32)), .inr (.inr (some 65))]) rfl rfl ?_
                  obtain ⟨hg, h⟩ := h
                  refine zw_ba hm_131 dX11_tokenIs_49 (zT_is hS s_65) (zT_h hS s_65) rfl rfl hg ?_
                  show ma_wp X d w 131 50 [(2, .inl (3 : Int32)), (0, .inr (.inr (some 64))), (1, .inr (.inr (some 0)))] [.inl (mI S 65 ((mI S 64 2) + (3 : Int32)).toNatClampNeg)] S _
                  refine zw_push hm_131 dX11_tokenIs_50 (v := .inr (.inr (some 0))) rfl ?_
                  refine zw_push hm_131 dX11_tokenIs_51 (v := .inl (3 : Int32)) rfl ?_
                  refine zw_cv hm_131 dX11_tokenIs_52 v_11_293_17 hm_279 [.inl (3 : Int32)] [.inl (mI S 65 ((mI S 64 2) + (3 : Int32)).toNatClampNeg)] rfl rfl ⟨by omega, by omega⟩ rfl (tx_char (v := (101 : Int32)) (by decide) (by omega) (by omega) (by decide) (by decide) (by decide) (by decide) ?_)
                  show ma_wp X d w 131 55 [(2, .inl (3 : Int32)), (0, .inr (.inr (some 64))), (1, .inr (.inr (some 0)))] [.inl (101 : Int32), .inl (mI S 65 ((mI S 64 2) + (3 : Int32)).toNatClampNeg)] S _
                  refine zw_if2 hm_131 dX11_tokenIs_55 (t := 60) rfl zc2_eq ?_ ?_
                  · intro hc
                    rw [if_pos hc] at h
                    refine zw_sto hm_131 dX11_tokenIs_60 [(2, .inl (4 : Int32)), (0, .inr (.inr (some 64))), (1, .inr (.inr (some 0)))] rfl rfl rfl ?_
                    refine zw_goto hm_131 dX11_tokenIs_63 (t := 20) rfl ?_
                    refine zw_push hm_131 dX11_tokenIs_20 (v := .inl (4 : Int32)) rfl ?_
                    refine zw_push hm_131 dX11_tokenIs_21 (v := .inr (.inr (some 0))) rfl ?_
                    refine zw_cv hm_131 dX11_tokenIs_22 v_11_288_17 hm_277 [] [.inl (4 : Int32)] rfl rfl ⟨by omega, by omega⟩ rfl (tx_len (v := (5 : Int32)) (by decide) (by omega) (by omega) rfl rfl ?_)
                    show ma_wp X d w 131 25 [(2, .inl (4 : Int32)), (0, .inr (.inr (some 64))), (1, .inr (.inr (some 0)))] [.inl (5 : Int32), .inl (4 : Int32)] S _
                    refine zw_if2 hm_131 dX11_tokenIs_25 (t := 66) rfl zc2_ge (fun hc => absurd hc (by decide)) (fun _ => ?_)
                    refine zw_push hm_131 dX11_tokenIs_28 (v := .inr (.inr (some 64))) rfl ?_
                    refine zw_gf hm_131 dX11_tokenIs_29 (v := .inl (mI S 64 2)) (zT_is hS s_64) (zT_t hS s_64) rfl f_11_92_11 rfl ?_
                    refine zw_push hm_131 dX11_tokenIs_32 (v := .inl (4 : Int32)) rfl ?_
                    refine zw_stk hm_131 dX11_tokenIs_33 (st₉ := [.inl ((mI S 64 2) + (4 : Int32))]) rfl rfl ?_
                    refine zw_push hm_131 dX11_tokenIs_34 (v := .inl (100 : Int32)) rfl ?_
                    refine zw_if2 hm_131 dX11_tokenIs_36 (t := 66) rfl zc2_ge ?_ ?_
                    · intro hc
                      rw [if_pos hc] at h
                      refine zw_push hm_131 dX11_tokenIs_66 (v := .inl (1 : Int32)) rfl ?_
                      exact zw_bret hm_131 dX11_tokenIs_67 (by decide) h
                    · intro hc
                      rw [if_neg hc] at h
                      refine zw_push hm_131 dX11_tokenIs_39 (v := .inr (.inr (some 64))) rfl ?_
                      refine zw_gf hm_131 dX11_tokenIs_40 (v := .inr (.inr (some 65))) (zT_is hS s_64) (zT_t hS s_64) rfl f_11_9_11 (zT_f hS r_64_0) ?_
                      refine zw_push hm_131 dX11_tokenIs_43 (v := .inr (.inr (some 64))) rfl ?_
                      refine zw_gf hm_131 dX11_tokenIs_44 (v := .inl (mI S 64 2)) (zT_is hS s_64) (zT_t hS s_64) rfl f_11_92_11 rfl ?_
                      refine zw_push hm_131 dX11_tokenIs_47 (v := .inl (4 : Int32)) rfl ?_
                      refine zw_stk hm_131 dX11_tokenIs_48 (st₉ := [.inl ((mI S 64 2) + (4 : Int32)), .inr (.inr (some 65))]) rfl rfl ?_
                      obtain ⟨hg, h⟩ := h
                      refine zw_ba hm_131 dX11_tokenIs_49 (zT_is hS s_65) (zT_h hS s_65) rfl rfl hg ?_
                      show ma_wp X d w 131 50 [(2, .inl (4 : Int32)), (0, .inr (.inr (some 64))), (1, .inr (.inr (some 0)))] [.inl (mI S 65 ((mI S 64 2) + (4 : Int32)).toNatClampNeg)] S _
                      refine zw_push hm_131 dX11_tokenIs_50 (v := .inr (.inr (some 0))) rfl ?_
                      refine zw_push hm_131 dX11_tokenIs_51 (v := .inl (4 : Int32)) rfl ?_
                      refine zw_cv hm_131 dX11_tokenIs_52 v_11_293_17 hm_279 [.inl (4 : Int32)] [.inl (mI S 65 ((mI S 64 2) + (4 : Int32)).toNatClampNeg)] rfl rfl ⟨by omega, by omega⟩ rfl (tx_char (v := (112 : Int32)) (by decide) (by omega) (by omega) (by decide) (by decide) (by decide) (by decide) ?_)
                      show ma_wp X d w 131 55 [(2, .inl (4 : Int32)), (0, .inr (.inr (some 64))), (1, .inr (.inr (some 0)))] [.inl (112 : Int32), .inl (mI S 65 ((mI S 64 2) + (4 : Int32)).toNatClampNeg)] S _
                      refine zw_if2 hm_131 dX11_tokenIs_55 (t := 60) rfl zc2_eq ?_ ?_
                      · intro hc
                        rw [if_pos hc] at h
                        refine zw_sto hm_131 dX11_tokenIs_60 [(2, .inl (5 : Int32)), (0, .inr (.inr (some 64))), (1, .inr (.inr (some 0)))] rfl rfl rfl ?_
                        refine zw_goto hm_131 dX11_tokenIs_63 (t := 20) rfl ?_
                        refine zw_push hm_131 dX11_tokenIs_20 (v := .inl (5 : Int32)) rfl ?_
                        refine zw_push hm_131 dX11_tokenIs_21 (v := .inr (.inr (some 0))) rfl ?_
                        refine zw_cv hm_131 dX11_tokenIs_22 v_11_288_17 hm_277 [] [.inl (5 : Int32)] rfl rfl ⟨by omega, by omega⟩ rfl (tx_len (v := (5 : Int32)) (by decide) (by omega) (by omega) rfl rfl ?_)
                        show ma_wp X d w 131 25 [(2, .inl (5 : Int32)), (0, .inr (.inr (some 64))), (1, .inr (.inr (some 0)))] [.inl (5 : Int32), .inl (5 : Int32)] S _
                        refine zw_if2 hm_131 dX11_tokenIs_25 (t := 66) rfl zc2_ge (fun _ => ?_) (fun hc => absurd (by decide) hc)
                        refine zw_push hm_131 dX11_tokenIs_66 (v := .inl (1 : Int32)) rfl ?_
                        exact zw_bret hm_131 dX11_tokenIs_67 (by decide) h
                      · intro hc
                        rw [if_neg hc] at h
                        refine zw_push hm_131 dX11_tokenIs_58 (v := .inl (0 : Int32)) rfl ?_
                        exact zw_bret hm_131 dX11_tokenIs_59 (by decide) h
                  · intro hc
                    rw [if_neg hc] at h
                    refine zw_push hm_131 dX11_tokenIs_58 (v := .inl (0 : Int32)) rfl ?_
                    exact zw_bret hm_131 dX11_tokenIs_59 (by decide) h
              · intro hc
                rw [if_neg hc] at h
                refine zw_push hm_131 dX11_tokenIs_58 (v := .inl (0 : Int32)) rfl ?_
                exact zw_bret hm_131 dX11_tokenIs_59 (by decide) h
          · intro hc
            rw [if_neg hc] at h
            refine zw_push hm_131 dX11_tokenIs_58 (v := .inl (0 : Int32)) rfl ?_
            exact zw_bret hm_131 dX11_tokenIs_59 (by decide) h
      · intro hc
        rw [if_neg hc] at h
        refine zw_push hm_131 dX11_tokenIs_58 (v := .inl (0 : Int32)) rfl ?_
        exact zw_bret hm_131 dX11_tokenIs_59 (by decide) h
  · intro hc
    rw [if_neg hc] at h
    refine zw_push hm_131 dX11_tokenIs_16 (v := .inl (0 : Int32)) rfl ?_
    exact zw_bret hm_131 dX11_tokenIs_17 (by decide) h
theorem sp_131_64_0_sq {X : Nat × (Nat → Int32)} {d w : Nat} {f : Nat → Nat → Int32} {r : Nat → Nat → Option Nat} {C Z N : Nat} {Q : Option ma_V ⊕ Nat → ma_S → Prop} {I0 : Nat→Nat→Int32} {L0 : Nat→Nat→Int64} {R0 : zRT} {S : ma_S}  (hd : 5 ≤ d) (hw : 100 ≤ w) (hI : zY0 f r C Z N S) (hpre0 : zFm I0 L0 R0 S) (K : ∀ v S₉, zY0 f r C Z N S₉ → (v = 0 ∨ v = 1) → ((v = 1 ∧ zwd (f 65) (f 64 2) ((f 64 3).toInt - (f 64 2).toInt) 115 119 101 101 112 0 0) ∨ (v = 0 ∧ ¬ zwd (f 65) (f 64 2) ((f 64 3).toInt - (f 64 2).toInt) 115 119 101 101 112 0 0)) → (zFm I0 L0 R0 S₉) → Q (.inl (some (.inl v))) S₉) : ma_wp X d w 131 0 [(0, .inr (.inr (some 64))), (1, .inr (.inr (some 0)))] [] S Q := by
  refine g_131_64_0_sq_0  (by omega) (by omega) (zG_T hI) ?_
  have q1 : (mI S 64 3).toInt = (f 64 3).toInt := zG_zi hI rfl
  have f2 := zG_s hI (0) (100) (c := 64) (k := 3) (by decide)
  have q3 : (mI S 64 2).toInt = (f 64 2).toInt := zG_zi hI rfl
  have f4 := zG_s hI (0) (100) (c := 64) (k := 2) (by decide)
  first | have e5 : ((mI S 64 3) - (mI S 64 2)).toInt = (mI S 64 3).toInt - (mI S 64 2).toInt := i_sub (by omega) (by omega) | have b6 := i_bd ((mI S 64 3) - (mI S 64 2))
  have li7 : (5 : Int32).toInt = 5 := rfl
  refine zd (fun h8 => ?_) (fun h8 => ?_)
  · skip
    have g9 := i_eq h8
    have li10 : (100 : Int32).toInt = 100 := rfl
    first | have e11 : ((mI S 64 2) + (0 : Int32)).toInt = (mI S 64 2).toInt + (0) := i_addk rfl (by omega) (by omega) | have b12 := i_bd ((mI S 64 2) + (0 : Int32))
    refine zd (fun h13 => ?_) (fun h13 => ?_)
    · skip
      have g14 := i_le h13
      have li15 : (1 : Int32).toInt = 1 := rfl
      exact K ((1 : Int32)) _ hI (by decide) (show ((1 : Int32) = 1 ∧ zwd (f 65) (f 64 2) ((f 64 3).toInt - (f 64 2).toInt) 115 119 101 101 112 0 0) ∨ ((1 : Int32) = 0 ∧ ¬ zwd (f 65) (f 64 2) ((f 64 3).toInt - (f 64 2).toInt) 115 119 101 101 112 0 0) from by first | (rw [show f 65 = mI S 65 from funext (fun k => (zG_z hI rfl).symm), show f 64 2 = mI S 64 2 from (zG_z hI rfl).symm, show f 64 3 = mI S 64 3 from (zG_z hI rfl).symm]; exact Or.inl ⟨rfl, by rw [if_neg (by decide), if_pos rfl]; omega, (by assumption), (by assumption), (by assumption), (by assumption), Or.inr (by assumption), Or.inr (Or.inl rfl), Or.inr (Or.inl rfl)⟩) | (omega) | (exfalso; omega)) (show zFm I0 L0 R0 S from by first | (exact hpre0))
    · skip
      have g16 := i_nle h13
      refine ⟨i_ix (by omega) (by omega), ?_⟩
      have q17 : (mI S 65 ((mI S 64 2) + (0 : Int32)).toNatClampNeg).toInt = (f 65 ((mI S 64 2) + (0 : Int32)).toNatClampNeg).toInt := zG_zi hI rfl
      have b18 := i_bd (mI S 65 ((mI S 64 2) + (0 : Int32)).toNatClampNeg)
      have li19 : (115 : Int32).toInt = 115 := rfl
      refine zd (fun h20 => ?_) (fun h20 => ?_)
      · skip
        have g21 := i_eq h20
        first | have e22 : ((mI S 64 2) + (1 : Int32)).toInt = (mI S 64 2).toInt + (1) := i_addk rfl (by omega) (by omega) | have b23 := i_bd ((mI S 64 2) + (1 : Int32))
        refine zd (fun h24 => ?_) (fun h24 => ?_)
        · skip
          have g25 := i_le h24
          have li26 : (1 : Int32).toInt = 1 := rfl
          exact K ((1 : Int32)) _ hI (by decide) (show ((1 : Int32) = 1 ∧ zwd (f 65) (f 64 2) ((f 64 3).toInt - (f 64 2).toInt) 115 119 101 101 112 0 0) ∨ ((1 : Int32) = 0 ∧ ¬ zwd (f 65) (f 64 2) ((f 64 3).toInt - (f 64 2).toInt) 115 119 101 101 112 0 0) from by first | (rw [show f 65 = mI S 65 from funext (fun k => (zG_z hI rfl).symm), show f 64 2 = mI S 64 2 from (zG_z hI rfl).symm, show f 64 3 = mI S 64 3 from (zG_z hI rfl).symm]; exact Or.inl ⟨rfl, by rw [if_neg (by decide), if_pos rfl]; omega, (by assumption), (by assumption), (by assumption), (by assumption), Or.inr (by assumption), Or.inr (Or.inl rfl), Or.inr (Or.inl rfl)⟩) | (omega) | (exfalso; omega)) (show zFm I0 L0 R0 S from by first | (exact hpre0))
        · skip
          have g27 := i_nle h24
          refine ⟨i_ix (by omega) (by omega), ?_⟩
          have q28 : (mI S 65 ((mI S 64 2) + (1 : Int32)).toNatClampNeg).toInt = (f 65 ((mI S 64 2) + (1 : Int32)).toNatClampNeg).toInt := zG_zi hI rfl
          have b29 := i_bd (mI S 65 ((mI S 64 2) + (1 : Int32)).toNatClampNeg)
          have li30 : (119 : Int32).toInt = 119 := rfl
          refine zd (fun h31 => ?_) (fun h31 => ?_)
          · skip
            have g32 := i_eq h31
            first | have e33 : ((mI S 64 2) + (2 : Int32)).toInt = (mI S 64 2).toInt + (2) := i_addk rfl (by omega) (by omega) | have b34 := i_bd ((mI S 64 2) + (2 : Int32))
            refine zd (fun h35 => ?_) (fun h35 => ?_)
            · skip
              have g36 := i_le h35
              have li37 : (1 : Int32).toInt = 1 := rfl
              exact K ((1 : Int32)) _ hI (by decide) (show ((1 : Int32) = 1 ∧ zwd (f 65) (f 64 2) ((f 64 3).toInt - (f 64 2).toInt) 115 119 101 101 112 0 0) ∨ ((1 : Int32) = 0 ∧ ¬ zwd (f 65) (f 64 2) ((f 64 3).toInt - (f 64 2).toInt) 115 119 101 101 112 0 0) from by first | (rw [show f 65 = mI S 65 from funext (fun k => (zG_z hI rfl).symm), show f 64 2 = mI S 64 2 from (zG_z hI rfl).symm, show f 64 3 = mI S 64 3 from (zG_z hI rfl).symm]; exact Or.inl ⟨rfl, by rw [if_neg (by decide), if_pos rfl]; omega, (by assumption), (by assumption), (by assumption), (by assumption), Or.inr (by assumption), Or.inr (Or.inl rfl), Or.inr (Or.inl rfl)⟩) | (omega) | (exfalso; omega)) (show zFm I0 L0 R0 S from by first | (exact hpre0))
            · skip
              have g38 := i_nle h35
              refine ⟨i_ix (by omega) (by omega), ?_⟩
              have q39 : (mI S 65 ((mI S 64 2) + (2 : Int32)).toNatClampNeg).toInt = (f 65 ((mI S 64 2) + (2 : Int32)).toNatClampNeg).toInt := zG_zi hI rfl
              have b40 := i_bd (mI S 65 ((mI S 64 2) + (2 : Int32)).toNatClampNeg)
              have li41 : (101 : Int32).toInt = 101 := rfl
              refine zd (fun h42 => ?_) (fun h42 => ?_)
              · skip
                have g43 := i_eq h42
                first | have e44 : ((mI S 64 2) + (3 : Int32)).toInt = (mI S 64 2).toInt + (3) := i_addk rfl (by omega) (by omega) | have b45 := i_bd ((mI S 64 2) + (3 : Int32))
                refine zd (fun h46 => ?_) (fun h46 => ?_)
                · skip
                  have g47 := i_le h46
                  have li48 : (1 : Int32).toInt = 1 := rfl
                  exact K ((1 : Int32)) _ hI (by decide) (show ((1 : Int32) = 1 ∧ zwd (f 65) (f 64 2) ((f 64 3).toInt - (f 64 2).toInt) 115 119 101 101 112 0 0) ∨ ((1 : Int32) = 0 ∧ ¬ zwd (f 65) (f 64 2) ((f 64 3).toInt - (f 64 2).toInt) 115 119 101 101 112 0 0) from by first | (rw [show f 65 = mI S 65 from funext (fun k => (zG_z hI rfl).symm), show f 64 2 = mI S 64 2 from (zG_z hI rfl).symm, show f 64 3 = mI S 64 3 from (zG_z hI rfl).symm]; exact Or.inl ⟨rfl, by rw [if_neg (by decide), if_pos rfl]; omega, (by assumption), (by assumption), (by assumption), (by assumption), Or.inr (by assumption), Or.inr (Or.inl rfl), Or.inr (Or.inl rfl)⟩) | (omega) | (exfalso; omega)) (show zFm I0 L0 R0 S from by first | (exact hpre0))
                · skip
                  have g49 := i_nle h46
                  refine ⟨i_ix (by omega) (by omega), ?_⟩
                  have q50 : (mI S 65 ((mI S 64 2) + (3 : Int32)).toNatClampNeg).toInt = (f 65 ((mI S 64 2) + (3 : Int32)).toNatClampNeg).toInt := zG_zi hI rfl
                  have b51 := i_bd (mI S 65 ((mI S 64 2) + (3 : Int32)).toNatClampNeg)
                  refine zd (fun h52 => ?_) (fun h52 => ?_)
                  · skip
                    have g53 := i_eq h52
                    first | have e54 : ((mI S 64 2) + (4 : Int32)).toInt = (mI S 64 2).toInt + (4) := i_addk rfl (by omega) (by omega) | have b55 := i_bd ((mI S 64 2) + (4 : Int32))
                    refine zd (fun h56 => ?_) (fun h56 => ?_)
                    · skip
                      have g57 := i_le h56
                      have li58 : (1 : Int32).toInt = 1 := rfl
                      exact K ((1 : Int32)) _ hI (by decide) (show ((1 : Int32) = 1 ∧ zwd (f 65) (f 64 2) ((f 64 3).toInt - (f 64 2).toInt) 115 119 101 101 112 0 0) ∨ ((1 : Int32) = 0 ∧ ¬ zwd (f 65) (f 64 2) ((f 64 3).toInt - (f 64 2).toInt) 115 119 101 101 112 0 0) from by first | (rw [show f 65 = mI S 65 from funext (fun k => (zG_z hI rfl).symm), show f 64 2 = mI S 64 2 from (zG_z hI rfl).symm, show f 64 3 = mI S 64 3 from (zG_z hI rfl).symm]; exact Or.inl ⟨rfl, by rw [if_neg (by decide), if_pos rfl]; omega, (by assumption), (by assumption), (by assumption), (by assumption), Or.inr (by assumption), Or.inr (Or.inl rfl), Or.inr (Or.inl rfl)⟩) | (omega) | (exfalso; omega)) (show zFm I0 L0 R0 S from by first | (exact hpre0))
                    · skip
                      have g59 := i_nle h56
                      refine ⟨i_ix (by omega) (by omega), ?_⟩
                      have q60 : (mI S 65 ((mI S 64 2) + (4 : Int32)).toNatClampNeg).toInt = (f 65 ((mI S 64 2) + (4 : Int32)).toNatClampNeg).toInt := zG_zi hI rfl
                      have b61 := i_bd (mI S 65 ((mI S 64 2) + (4 : Int32)).toNatClampNeg)
                      have li62 : (112 : Int32).toInt = 112 := rfl
                      refine zd (fun h63 => ?_) (fun h63 => ?_)
                      · skip
                        have g64 := i_eq h63
                        have li65 : (1 : Int32).toInt = 1 := rfl
                        exact K ((1 : Int32)) _ hI (by decide) (show ((1 : Int32) = 1 ∧ zwd (f 65) (f 64 2) ((f 64 3).toInt - (f 64 2).toInt) 115 119 101 101 112 0 0) ∨ ((1 : Int32) = 0 ∧ ¬ zwd (f 65) (f 64 2) ((f 64 3).toInt - (f 64 2).toInt) 115 119 101 101 112 0 0) from by first | (rw [show f 65 = mI S 65 from funext (fun k => (zG_z hI rfl).symm), show f 64 2 = mI S 64 2 from (zG_z hI rfl).symm, show f 64 3 = mI S 64 3 from (zG_z hI rfl).symm]; exact Or.inl ⟨rfl, by rw [if_neg (by decide), if_pos rfl]; omega, (by assumption), (by assumption), (by assumption), (by assumption), Or.inr (by assumption), Or.inr (Or.inl rfl), Or.inr (Or.inl rfl)⟩) | (omega) | (exfalso; omega)) (show zFm I0 L0 R0 S from by first | (exact hpre0))
                      · skip
                        have g66 := i_ne h63
                        have li67 : (0 : Int32).toInt = 0 := rfl
                        exact K ((0 : Int32)) _ hI (by decide) (show ((0 : Int32) = 1 ∧ zwd (f 65) (f 64 2) ((f 64 3).toInt - (f 64 2).toInt) 115 119 101 101 112 0 0) ∨ ((0 : Int32) = 0 ∧ ¬ zwd (f 65) (f 64 2) ((f 64 3).toInt - (f 64 2).toInt) 115 119 101 101 112 0 0) from by first | (rw [show f 65 = mI S 65 from funext (fun k => (zG_z hI rfl).symm), show f 64 2 = mI S 64 2 from (zG_z hI rfl).symm, show f 64 3 = mI S 64 3 from (zG_z hI rfl).symm]; exact Or.inr ⟨rfl, fun z => absurd z.2.1 (by assumption)⟩) | (rw [show f 65 = mI S 65 from funext (fun k => (zG_z hI rfl).symm), show f 64 2 = mI S 64 2 from (zG_z hI rfl).symm, show f 64 3 = mI S 64 3 from (zG_z hI rfl).symm]; exact Or.inr ⟨rfl, fun z => absurd z.2.2.1 (by assumption)⟩) | (rw [show f 65 = mI S 65 from funext (fun k => (zG_z hI rfl).symm), show f 64 2 = mI S 64 2 from (zG_z hI rfl).symm, show f 64 3 = mI S 64 3 from (zG_z hI rfl).symm]; exact Or.inr ⟨rfl, fun z => absurd z.2.2.2.1 (by assumption)⟩) | (rw [show f 65 = mI S 65 from funext (fun k => (zG_z hI rfl).symm), show f 64 2 = mI S 64 2 from (zG_z hI rfl).symm, show f 64 3 = mI S 64 3 from (zG_z hI rfl).symm]; exact Or.inr ⟨rfl, fun z => absurd z.2.2.2.2.1 (by assumption)⟩) | (rw [show f 65 = mI S 65 from funext (fun k => (zG_z hI rfl).symm), show f 64 2 = mI S 64 2 from (zG_z hI rfl).symm, show f 64 3 = mI S 64 3 from (zG_z hI rfl).symm]; exact Or.inr ⟨rfl, fun z => absurd (z.2.2.2.2.2.1.elim (fun y => absurd y (by decide)) id) (by assumption)⟩) | (rw [show f 65 = mI S 65 from funext (fun k => (zG_z hI rfl).symm), show f 64 2 = mI S 64 2 from (zG_z hI rfl).symm, show f 64 3 = mI S 64 3 from (zG_z hI rfl).symm]; exact Or.inr ⟨rfl, fun z => by have y := z.1; rw [if_neg (by decide), if_pos rfl] at y; omega⟩) | (omega) | (exfalso; omega)) (show zFm I0 L0 R0 S from by first | (exact hpre0))
                  · skip
                    have g68 := i_ne h52
                    have li69 : (0 : Int32).toInt = 0 := rfl
                    exact K ((0 : Int32)) _ hI (by decide) (show ((0 : Int32) = 1 ∧ zwd (f 65) (f 64 2) ((f 64 3).toInt - (f 64 2).toInt) 115 119 101 101 112 0 0) ∨ ((0 : Int32) = 0 ∧ ¬ zwd (f 65) (f 64 2) ((f 64 3).toInt - (f 64 2).toInt) 115 119 101 101 112 0 0) from by first | (rw [show f 65 = mI S 65 from funext (fun k => (zG_z hI rfl).symm), show f 64 2 = mI S 64 2 from (zG_z hI rfl).symm, show f 64 3 = mI S 64 3 from (zG_z hI rfl).symm]; exact Or.inr ⟨rfl, fun z => absurd z.2.1 (by assumption)⟩) | (rw [show f 65 = mI S 65 from funext (fun k => (zG_z hI rfl).symm), show f 64 2 = mI S 64 2 from (zG_z hI rfl).symm, show f 64 3 = mI S 64 3 from (zG_z hI rfl).symm]; exact Or.inr ⟨rfl, fun z => absurd z.2.2.1 (by assumption)⟩) | (rw [show f 65 = mI S 65 from funext (fun k => (zG_z hI rfl).symm), show f 64 2 = mI S 64 2 from (zG_z hI rfl).symm, show f 64 3 = mI S 64 3 from (zG_z hI rfl).symm]; exact Or.inr ⟨rfl, fun z => absurd z.2.2.2.1 (by assumption)⟩) | (rw [show f 65 = mI S 65 from funext (fun k => (zG_z hI rfl).symm), show f 64 2 = mI S 64 2 from (zG_z hI rfl).symm, show f 64 3 = mI S 64 3 from (zG_z hI rfl).symm]; exact Or.inr ⟨rfl, fun z => absurd z.2.2.2.2.1 (by assumption)⟩) | (rw [show f 65 = mI S 65 from funext (fun k => (zG_z hI rfl).symm), show f 64 2 = mI S 64 2 from (zG_z hI rfl).symm, show f 64 3 = mI S 64 3 from (zG_z hI rfl).symm]; exact Or.inr ⟨rfl, fun z => absurd (z.2.2.2.2.2.1.elim (fun y => absurd y (by decide)) id) (by assumption)⟩) | (rw [show f 65 = mI S 65 from funext (fun k => (zG_z hI rfl).symm), show f 64 2 = mI S 64 2 from (zG_z hI rfl).symm, show f 64 3 = mI S 64 3 from (zG_z hI rfl).symm]; exact Or.inr ⟨rfl, fun z => by have y := z.1; rw [if_neg (by decide), if_pos rfl] at y; omega⟩) | (omega) | (exfalso; omega)) (show zFm I0 L0 R0 S from by first | (exact hpre0))
              · skip
                have g70 := i_ne h42
                have li71 : (0 : Int32).toInt = 0 := rfl
                exact K ((0 : Int32)) _ hI (by decide) (show ((0 : Int32) = 1 ∧ zwd (f 65) (f 64 2) ((f 64 3).toInt - (f 64 2).toInt) 115 119 101 101 112 0 0) ∨ ((0 : Int32) = 0 ∧ ¬ zwd (f 65) (f 64 2) ((f 64 3).toInt - (f 64 2).toInt) 115 119 101 101 112 0 0) from by first | (rw [show f 65 = mI S 65 from funext (fun k => (zG_z hI rfl).symm), show f 64 2 = mI S 64 2 from (zG_z hI rfl).symm, show f 64 3 = mI S 64 3 from (zG_z hI rfl).symm]; exact Or.inr ⟨rfl, fun z => absurd z.2.1 (by assumption)⟩) | (rw [show f 65 = mI S 65 from funext (fun k => (zG_z hI rfl).symm), show f 64 2 = mI S 64 2 from (zG_z hI rfl).symm, show f 64 3 = mI S 64 3 from (zG_z hI rfl).symm]; exact Or.inr ⟨rfl, fun z => absurd z.2.2.1 (by assumption)⟩) | (rw [show f 65 = mI S 65 from funext (fun k => (zG_z hI rfl).symm), show f 64 2 = mI S 64 2 from (zG_z hI rfl).symm, show f 64 3 = mI S 64 3 from (zG_z hI rfl).symm]; exact Or.inr ⟨rfl, fun z => absurd z.2.2.2.1 (by assumption)⟩) | (rw [show f 65 = mI S 65 from funext (fun k => (zG_z hI rfl).symm), show f 64 2 = mI S 64 2 from (zG_z hI rfl).symm, show f 64 3 = mI S 64 3 from (zG_z hI rfl).symm]; exact Or.inr ⟨rfl, fun z => absurd z.2.2.2.2.1 (by assumption)⟩) | (rw [show f 65 = mI S 65 from funext (fun k => (zG_z hI rfl).symm), show f 64 2 = mI S 64 2 from (zG_z hI rfl).symm, show f 64 3 = mI S 64 3 from (zG_z hI rfl).symm]; exact Or.inr ⟨rfl, fun z => absurd (z.2.2.2.2.2.1.elim (fun y => absurd y (by decide)) id) (by assumption)⟩) | (rw [show f 65 = mI S 65 from funext (fun k => (zG_z hI rfl).symm), show f 64 2 = mI S 64 2 from (zG_z hI rfl).symm, show f 64 3 = mI S 64 3 from (zG_z hI rfl).symm]; exact Or.inr ⟨rfl, fun z => by have y := z.1; rw [if_neg (by decide), if_pos rfl] at y; omega⟩) | (omega) | (exfalso; omega)) (show zFm I0 L0 R0 S from by first | (exact hpre0))
          · skip
            have g72 := i_ne h31
            have li73 : (0 : Int32).toInt = 0 := rfl
            exact K ((0 : Int32)) _ hI (by decide) (show ((0 : Int32) = 1 ∧ zwd (f 65) (f 64 2) ((f 64 3).toInt - (f 64 2).toInt) 115 119 101 101 112 0 0) ∨ ((0 : Int32) = 0 ∧ ¬ zwd (f 65) (f 64 2) ((f 64 3).toInt - (f 64 2).toInt) 115 119 101 101 112 0 0) from by first | (rw [show f 65 = mI S 65 from funext (fun k => (zG_z hI rfl).symm), show f 64 2 = mI S 64 2 from (zG_z hI rfl).symm, show f 64 3 = mI S 64 3 from (zG_z hI rfl).symm]; exact Or.inr ⟨rfl, fun z => absurd z.2.1 (by assumption)⟩) | (rw [show f 65 = mI S 65 from funext (fun k => (zG_z hI rfl).symm), show f 64 2 = mI S 64 2 from (zG_z hI rfl).symm, show f 64 3 = mI S 64 3 from (zG_z hI rfl).symm]; exact Or.inr ⟨rfl, fun z => absurd z.2.2.1 (by assumption)⟩) | (rw [show f 65 = mI S 65 from funext (fun k => (zG_z hI rfl).symm), show f 64 2 = mI S 64 2 from (zG_z hI rfl).symm, show f 64 3 = mI S 64 3 from (zG_z hI rfl).symm]; exact Or.inr ⟨rfl, fun z => absurd z.2.2.2.1 (by assumption)⟩) | (rw [show f 65 = mI S 65 from funext (fun k => (zG_z hI rfl).symm), show f 64 2 = mI S 64 2 from (zG_z hI rfl).symm, show f 64 3 = mI S 64 3 from (zG_z hI rfl).symm]; exact Or.inr ⟨rfl, fun z => absurd z.2.2.2.2.1 (by assumption)⟩) | (rw [show f 65 = mI S 65 from funext (fun k => (zG_z hI rfl).symm), show f 64 2 = mI S 64 2 from (zG_z hI rfl).symm, show f 64 3 = mI S 64 3 from (zG_z hI rfl).symm]; exact Or.inr ⟨rfl, fun z => absurd (z.2.2.2.2.2.1.elim (fun y => absurd y (by decide)) id) (by assumption)⟩) | (rw [show f 65 = mI S 65 from funext (fun k => (zG_z hI rfl).symm), show f 64 2 = mI S 64 2 from (zG_z hI rfl).symm, show f 64 3 = mI S 64 3 from (zG_z hI rfl).symm]; exact Or.inr ⟨rfl, fun z => by have y := z.1; rw [if_neg (by decide), if_pos rfl] at y; omega⟩) | (omega) | (exfalso; omega)) (show zFm I0 L0 R0 S from by first | (exact hpre0))
      · skip
        have g74 := i_ne h20
        have li75 : (0 : Int32).toInt = 0 := rfl
        exact K ((0 : Int32)) _ hI (by decide) (show ((0 : Int32) = 1 ∧ zwd (f 65) (f 64 2) ((f 64 3).toInt - (f 64 2).toInt) 115 119 101 101 112 0 0) ∨ ((0 : Int32) = 0 ∧ ¬ zwd (f 65) (f 64 2) ((f 64 3).toInt - (f 64 2).toInt) 115 119 101 101 112 0 0) from by first | (rw [show f 65 = mI S 65 from funext (fun k => (zG_z hI rfl).symm), show f 64 2 = mI S 64 2 from (zG_z hI rfl).symm, show f 64 3 = mI S 64 3 from (zG_z hI rfl).symm]; exact Or.inr ⟨rfl, fun z => absurd z.2.1 (by assumption)⟩) | (rw [show f 65 = mI S 65 from funext (fun k => (zG_z hI rfl).symm), show f 64 2 = mI S 64 2 from (zG_z hI rfl).symm, show f 64 3 = mI S 64 3 from (zG_z hI rfl).symm]; exact Or.inr ⟨rfl, fun z => absurd z.2.2.1 (by assumption)⟩) | (rw [show f 65 = mI S 65 from funext (fun k => (zG_z hI rfl).symm), show f 64 2 = mI S 64 2 from (zG_z hI rfl).symm, show f 64 3 = mI S 64 3 from (zG_z hI rfl).symm]; exact Or.inr ⟨rfl, fun z => absurd z.2.2.2.1 (by assumption)⟩) | (rw [show f 65 = mI S 65 from funext (fun k => (zG_z hI rfl).symm), show f 64 2 = mI S 64 2 from (zG_z hI rfl).symm, show f 64 3 = mI S 64 3 from (zG_z hI rfl).symm]; exact Or.inr ⟨rfl, fun z => absurd z.2.2.2.2.1 (by assumption)⟩) | (rw [show f 65 = mI S 65 from funext (fun k => (zG_z hI rfl).symm), show f 64 2 = mI S 64 2 from (zG_z hI rfl).symm, show f 64 3 = mI S 64 3 from (zG_z hI rfl).symm]; exact Or.inr ⟨rfl, fun z => absurd (z.2.2.2.2.2.1.elim (fun y => absurd y (by decide)) id) (by assumption)⟩) | (rw [show f 65 = mI S 65 from funext (fun k => (zG_z hI rfl).symm), show f 64 2 = mI S 64 2 from (zG_z hI rfl).symm, show f 64 3 = mI S 64 3 from (zG_z hI rfl).symm]; exact Or.inr ⟨rfl, fun z => by have y := z.1; rw [if_neg (by decide), if_pos rfl] at y; omega⟩) | (omega) | (exfalso; omega)) (show zFm I0 L0 R0 S from by first | (exact hpre0))
  · skip
    have g76 := i_ne h8
    have li77 : (0 : Int32).toInt = 0 := rfl
    exact K ((0 : Int32)) _ hI (by decide) (show ((0 : Int32) = 1 ∧ zwd (f 65) (f 64 2) ((f 64 3).toInt - (f 64 2).toInt) 115 119 101 101 112 0 0) ∨ ((0 : Int32) = 0 ∧ ¬ zwd (f 65) (f 64 2) ((f 64 3).toInt - (f 64 2).toInt) 115 119 101 101 112 0 0) from by first | (rw [show f 65 = mI S 65 from funext (fun k => (zG_z hI rfl).symm), show f 64 2 = mI S 64 2 from (zG_z hI rfl).symm, show f 64 3 = mI S 64 3 from (zG_z hI rfl).symm]; exact Or.inr ⟨rfl, fun z => absurd z.2.1 (by assumption)⟩) | (rw [show f 65 = mI S 65 from funext (fun k => (zG_z hI rfl).symm), show f 64 2 = mI S 64 2 from (zG_z hI rfl).symm, show f 64 3 = mI S 64 3 from (zG_z hI rfl).symm]; exact Or.inr ⟨rfl, fun z => absurd z.2.2.1 (by assumption)⟩) | (rw [show f 65 = mI S 65 from funext (fun k => (zG_z hI rfl).symm), show f 64 2 = mI S 64 2 from (zG_z hI rfl).symm, show f 64 3 = mI S 64 3 from (zG_z hI rfl).symm]; exact Or.inr ⟨rfl, fun z => absurd z.2.2.2.1 (by assumption)⟩) | (rw [show f 65 = mI S 65 from funext (fun k => (zG_z hI rfl).symm), show f 64 2 = mI S 64 2 from (zG_z hI rfl).symm, show f 64 3 = mI S 64 3 from (zG_z hI rfl).symm]; exact Or.inr ⟨rfl, fun z => absurd z.2.2.2.2.1 (by assumption)⟩) | (rw [show f 65 = mI S 65 from funext (fun k => (zG_z hI rfl).symm), show f 64 2 = mI S 64 2 from (zG_z hI rfl).symm, show f 64 3 = mI S 64 3 from (zG_z hI rfl).symm]; exact Or.inr ⟨rfl, fun z => absurd (z.2.2.2.2.2.1.elim (fun y => absurd y (by decide)) id) (by assumption)⟩) | (rw [show f 65 = mI S 65 from funext (fun k => (zG_z hI rfl).symm), show f 64 2 = mI S 64 2 from (zG_z hI rfl).symm, show f 64 3 = mI S 64 3 from (zG_z hI rfl).symm]; exact Or.inr ⟨rfl, fun z => by have y := z.1; rw [if_neg (by decide), if_pos rfl] at y; omega⟩) | (omega) | (exfalso; omega)) (show zFm I0 L0 R0 S from by first | (exact hpre0))

/-! from 95.i12 -/
/-! the class opens a heap (written by wip/tools/gen18c.py) -/
theorem g_131_64_1_sq_0 {X : Nat × (Nat → Int32)} {d w : Nat} {S : ma_S} {Q : Option ma_V ⊕ Nat → ma_S → Prop}  (hd : 5 ≤ d) (hw : 100 ≤ w) (hS : zT S) (h : if ((mI S 64 3) - (mI S 64 2)) = (5 : Int32) then (if (100 : Int32) ≤ ((mI S 64 2) + (0 : Int32)) then (Q (.inl (some (.inl (1 : Int32)))) S) else ((0 ≤ ((mI S 64 2) + (0 : Int32)) ∧ ((mI S 64 2) + (0 : Int32)).toNatClampNeg < 100) ∧ (if (mI S 65 ((mI S 64 2) + (0 : Int32)).toNatClampNeg) = (115 : Int32) then (if (100 : Int32) ≤ ((mI S 64 2) + (1 : Int32)) then (Q (.inl (some (.inl (1 : Int32)))) S) else ((0 ≤ ((mI S 64 2) + (1 : Int32)) ∧ ((mI S 64 2) + (1 : Int32)).toNatClampNeg < 100) ∧ (if (mI S 65 ((mI S 64 2) + (1 : Int32)).toNatClampNeg) = (108 : Int32) then (if (100 : Int32) ≤ ((mI S 64 2) + (2 : Int32)) then (Q (.inl (some (.inl (1 : Int32)))) S) else ((0 ≤ ((mI S 64 2) + (2 : Int32)) ∧ ((mI S 64 2) + (2 : Int32)).toNatClampNeg < 100) ∧ (if (mI S 65 ((mI S 64 2) + (2 : Int32)).toNatClampNeg) = (105 : Int32) then (if (100 : Int32) ≤ ((mI S 64 2) + (3 : Int32)) then (Q (.inl (some (.inl (1 : Int32)))) S) else ((0 ≤ ((mI S 64 2) + (3 : Int32)) ∧ ((mI S 64 2) + (3 : Int32)).toNatClampNeg < 100) ∧ (if (mI S 65 ((mI S 64 2) + (3 : Int32)).toNatClampNeg) = (100 : Int32) then (if (100 : Int32) ≤ ((mI S 64 2) + (4 : Int32)) then (Q (.inl (some (.inl (1 : Int32)))) S) else ((0 ≤ ((mI S 64 2) + (4 : Int32)) ∧ ((mI S 64 2) + (4 : Int32)).toNatClampNeg < 100) ∧ (if (mI S 65 ((mI S 64 2) + (4 : Int32)).toNatClampNeg) = (101 : Int32) then (Q (.inl (some (.inl (1 : Int32)))) S) else (Q (.inl (some (.inl (0 : Int32)))) S)))) else (Q (.inl (some (.inl (0 : Int32)))) S)))) else (Q (.inl (some (.inl (0 : Int32)))) S)))) else (Q (.inl (some (.inl (0 : Int32)))) S)))) else (Q (.inl (some (.inl (0 : Int32)))) S)))) else (Q (.inl (some (.inl (0 : Int32)))) S)) : ma_wp X d w 131 0 [(0, .inr (.inr (some 64))), (1, .inr (.inr (some 1)))] [] S Q := by
  refine zw_push hm_131 dX11_tokenIs_0 (v := .inr (.inr (some 64))) rfl ?_
  refine zw_gf hm_131 dX11_tokenIs_1 (v := .inl (mI S 64 3)) (zT_is hS s_64) (zT_t hS s_64) rfl f_11_275_11 rfl ?_
  refine zw_push hm_131 dX11_tokenIs_4 (v := .inr (.inr (some 64))) rfl ?_
  refine zw_gf hm_131 dX11_tokenIs_5 (v := .inl (mI S 64 2)) (zT_is hS s_64) (zT_t hS s_64) rfl f_11_92_11 rfl ?_
  refine zw_stk hm_131 dX11_tokenIs_8 (st₉ := [.inl ((mI S 64 3) - (mI S 64 2))]) rfl rfl ?_
  refine zw_push hm_131 dX11_tokenIs_9 (v := .inr (.inr (some 1))) rfl ?_
  refine zw_cv hm_131 dX11_tokenIs_10 v_11_288_17 hm_277 [] [.inl ((mI S 64 3) - (mI S 64 2))] rfl rfl ⟨by omega, by omega⟩ rfl (tx_len (v := (5 : Int32)) (by decide) (by omega) (by omega) rfl rfl ?_)
  show ma_wp X d w 131 13 [(0, .inr (.inr (some 64))), (1, .inr (.inr (some 1)))] [.inl (5 : Int32), .inl ((mI S 64 3) - (mI S 64 2))] S _
  refine zw_if2 hm_131 dX11_tokenIs_13 (t := 18) rfl zc2_eq ?_ ?_
  · intro hc
    rw [if_pos hc] at h
    refine zw_push hm_131 dX11_tokenIs_18 (v := .inl (0 : Int32)) rfl ?_
    refine zw_sto hm_131 dX11_tokenIs_19 [(2, .inl (0 : Int32)), (0, .inr (.inr (some 64))), (1, .inr (.inr (some 1)))] rfl rfl rfl ?_
    refine zw_push hm_131 dX11_tokenIs_20 (v := .inl (0 : Int32)) rfl ?_
    refine zw_push hm_131 dX11_tokenIs_21 (v := .inr (.inr (some 1))) rfl ?_
    refine zw_cv hm_131 dX11_tokenIs_22 v_11_288_17 hm_277 [] [.inl (0 : Int32)] rfl rfl ⟨by omega, by omega⟩ rfl (tx_len (v := (5 : Int32)) (by decide) (by omega) (by omega) rfl rfl ?_)
    show ma_wp X d w 131 25 [(2, .inl (0 : Int32)), (0, .inr (.inr (some 64))), (1, .inr (.inr (some 1)))] [.inl (5 : Int32), .inl (0 : Int32)] S _
    refine zw_if2 hm_131 dX11_tokenIs_25 (t := 66) rfl zc2_ge (fun hc => absurd hc (by decide)) (fun _ => ?_)
    refine zw_push hm_131 dX11_tokenIs_28 (v := .inr (.inr (some 64))) rfl ?_
    refine zw_gf hm_131 dX11_tokenIs_29 (v := .inl (mI S 64 2)) (zT_is hS s_64) (zT_t hS s_64) rfl f_11_92_11 rfl ?_
    refine zw_push hm_131 dX11_tokenIs_32 (v := .inl (0 : Int32)) rfl ?_
    refine zw_stk hm_131 dX11_tokenIs_33 (st₉ := [.inl ((mI S 64 2) + (0 : Int32))]) rfl rfl ?_
    refine zw_push hm_131 dX11_tokenIs_34 (v := .inl (100 : Int32)) rfl ?_
    refine zw_if2 hm_131 dX11_tokenIs_36 (t := 66) rfl zc2_ge ?_ ?_
    · intro hc
      rw [if_pos hc] at h
      refine zw_push hm_131 dX11_tokenIs_66 (v := .inl (1 : Int32)) rfl ?_
      exact zw_bret hm_131 dX11_tokenIs_67 (by decide) h
    · intro hc
      rw [if_neg hc] at h
      refine zw_push hm_131 dX11_tokenIs_39 (v := .inr (.inr (some 64))) rfl ?_
      refine zw_gf hm_131 dX11_tokenIs_40 (v := .inr (.inr (some 65))) (zT_is hS s_64) (zT_t hS s_64) rfl f_11_9_11 (zT_f hS r_64_0) ?_
      refine zw_push hm_131 dX11_tokenIs_43 (v := .inr (.inr (some 64))) rfl ?_
      refine zw_gf hm_131 dX11_tokenIs_44 (v := .inl (mI S 64 2)) (zT_is hS s_64) (zT_t hS s_64) rfl f_11_92_11 rfl ?_
      refine zw_push hm_131 dX11_tokenIs_47 (v := .inl (0 : Int32)) rfl ?_
      refine zw_stk hm_131 dX11_tokenIs_48 (st₉ := [.inl ((mI S 64 2) + (0 : Int32)), .inr (.inr (some 65))]) rfl rfl ?_
      obtain ⟨hg, h⟩ := h
      refine zw_ba hm_131 dX11_tokenIs_49 (zT_is hS s_65) (zT_h hS s_65) rfl rfl hg ?_
      show ma_wp X d w 131 50 [(2, .inl (0 : Int32)), (0, .inr (.inr (some 64))), (1, .inr (.inr (some 1)))] [.inl (mI S 65 ((mI S 64 2) + (0 : Int32)).toNatClampNeg)] S _
      refine zw_push hm_131 dX11_tokenIs_50 (v := .inr (.inr (some 1))) rfl ?_
      refine zw_push hm_131 dX11_tokenIs_51 (v := .inl (0 : Int32)) rfl ?_
      refine zw_cv hm_131 dX11_tokenIs_52 v_11_293_17 hm_279 [.inl (0 : Int32)] [.inl (mI S 65 ((mI S 64 2) + (0 : Int32)).toNatClampNeg)] rfl rfl ⟨by omega, by omega⟩ rfl (tx_char (v := (115 : Int32)) (by decide) (by omega) (by omega) (by decide) (by decide) (by decide) (by decide) ?_)
      show ma_wp X d w 131 55 [(2, .inl (0 : Int32)), (0, .inr (.inr (some 64))), (1, .inr (.inr (some 1)))] [.inl (115 : Int32), .inl (mI S 65 ((mI S 64 2) + (0 : Int32)).toNatClampNeg)] S _
      refine zw_if2 hm_131 dX11_tokenIs_55 (t := 60) rfl zc2_eq ?_ ?_
      · intro hc
        rw [if_pos hc] at h
        refine zw_sto hm_131 dX11_tokenIs_60 [(2, .inl (1 : Int32)), (0, .inr (.inr (some 64))), (1, .inr (.inr (some 1)))] rfl rfl rfl ?_
        refine zw_goto hm_131 dX11_tokenIs_63 (t := 20) rfl ?_
        refine zw_push hm_131 dX11_tokenIs_20 (v := .inl (1 : Int32)) rfl ?_
        refine zw_push hm_131 dX11_tokenIs_21 (v := .inr (.inr (some 1))) rfl ?_
        refine zw_cv hm_131 dX11_tokenIs_22 v_11_288_17 hm_277 [] [.inl (1 : Int32)] rfl rfl ⟨by omega, by omega⟩ rfl (tx_len (v := (5 : Int32)) (by decide) (by omega) (by omega) rfl rfl ?_)
        show ma_wp X d w 131 25 [(2, .inl (1 : Int32)), (0, .inr (.inr (some 64))), (1, .inr (.inr (some 1)))] [.inl (5 : Int32), .inl (1 : Int32)] S _
        refine zw_if2 hm_131 dX11_tokenIs_25 (t := 66) rfl zc2_ge (fun hc => absurd hc (by decide)) (fun _ => ?_)
        refine zw_push hm_131 dX11_tokenIs_28 (v := .inr (.inr (some 64))) rfl ?_
        refine zw_gf hm_131 dX11_tokenIs_29 (v := .inl (mI S 64 2)) (zT_is hS s_64) (zT_t hS s_64) rfl f_11_92_11 rfl ?_
        refine zw_push hm_131 dX11_tokenIs_32 (v := .inl (1 : Int32)) rfl ?_
        refine zw_stk hm_131 dX11_tokenIs_33 (st₉ := [.inl ((mI S 64 2) + (1 : Int32))]) rfl rfl ?_
        refine zw_push hm_131 dX11_tokenIs_34 (v := .inl (100 : Int32)) rfl ?_
        refine zw_if2 hm_131 dX11_tokenIs_36 (t := 66) rfl zc2_ge ?_ ?_
        · intro hc
          rw [if_pos hc] at h
          refine zw_push hm_131 dX11_tokenIs_66 (v := .inl (1 : Int32)) rfl ?_
          exact zw_bret hm_131 dX11_tokenIs_67 (by decide) h
        · intro hc
          rw [if_neg hc] at h
          refine zw_push hm_131 dX11_tokenIs_39 (v := .inr (.inr (some 64))) rfl ?_
          refine zw_gf hm_131 dX11_tokenIs_40 (v := .inr (.inr (some 65))) (zT_is hS s_64) (zT_t hS s_64) rfl f_11_9_11 (zT_f hS r_64_0) ?_
          refine zw_push hm_131 dX11_tokenIs_43 (v := .inr (.inr (some 64))) rfl ?_
          refine zw_gf hm_131 dX11_tokenIs_44 (v := .inl (mI S 64 2)) (zT_is hS s_64) (zT_t hS s_64) rfl f_11_92_11 rfl ?_
          refine zw_push hm_131 dX11_tokenIs_47 (v := .inl (1 : Int32)) rfl ?_
          refine zw_stk hm_131 dX11_tokenIs_48 (st₉ := [.inl ((mI S 64 2) + (1 : Int32)), .inr (.inr (some 65))]) rfl rfl ?_
          obtain ⟨hg, h⟩ := h
          refine zw_ba hm_131 dX11_tokenIs_49 (zT_is hS s_65) (zT_h hS s_65) rfl rfl hg ?_
          show ma_wp X d w 131 50 [(2, .inl (1 : Int32)), (0, .inr (.inr (some 64))), (1, .inr (.inr (some 1)))] [.inl (mI S 65 ((mI S 64 2) + (1 : Int32)).toNatClampNeg)] S _
          refine zw_push hm_131 dX11_tokenIs_50 (v := .inr (.inr (some 1))) rfl ?_
          refine zw_push hm_131 dX11_tokenIs_51 (v := .inl (1 : Int32)) rfl ?_
          refine zw_cv hm_131 dX11_tokenIs_52 v_11_293_17 hm_279 [.inl (1 : Int32)] [.inl (mI S 65 ((mI S 64 2) + (1 : Int32)).toNatClampNeg)] rfl rfl ⟨by omega, by omega⟩ rfl (tx_char (v := (108 : Int32)) (by decide) (by omega) (by omega) (by decide) (by decide) (by decide) (by decide) ?_)
          show ma_wp X d w 131 55 [(2, .inl (1 : Int32)), (0, .inr (.inr (some 64))), (1, .inr (.inr (some 1)))] [.inl (108 : Int32), .inl (mI S 65 ((mI S 64 2) + (1 : Int32)).toNatClampNeg)] S _
          refine zw_if2 hm_131 dX11_tokenIs_55 (t := 60) rfl zc2_eq ?_ ?_
          · intro hc
            rw [if_pos hc] at h
            refine zw_sto hm_131 dX11_tokenIs_60 [(2, .inl (2 : Int32)), (0, .inr (.inr (some 64))), (1, .inr (.inr (some 1)))] rfl rfl rfl ?_
            refine zw_goto hm_131 dX11_tokenIs_63 (t := 20) rfl ?_
            refine zw_push hm_131 dX11_tokenIs_20 (v := .inl (2 : Int32)) rfl ?_
            refine zw_push hm_131 dX11_tokenIs_21 (v := .inr (.inr (some 1))) rfl ?_
            refine zw_cv hm_131 dX11_tokenIs_22 v_11_288_17 hm_277 [] [.inl (2 : Int32)] rfl rfl ⟨by omega, by omega⟩ rfl (tx_len (v := (5 : Int32)) (by decide) (by omega) (by omega) rfl rfl ?_)
            show ma_wp X d w 131 25 [(2, .inl (2 : Int32)), (0, .inr (.inr (some 64))), (1, .inr (.inr (some 1)))] [.inl (5 : Int32), .inl (2 : Int32)] S _
            refine zw_if2 hm_131 dX11_tokenIs_25 (t := 66) rfl zc2_ge (fun hc => absurd hc (by decide)) (fun _ => ?_)
            refine zw_push hm_131 dX11_tokenIs_28 (v := .inr (.inr (some 64))) rfl ?_
            refine zw_gf hm_131 dX11_tokenIs_29 (v := .inl (mI S 64 2)) (zT_is hS s_64) (zT_t hS s_64) rfl f_11_92_11 rfl ?_
            refine zw_push hm_131 dX11_tokenIs_32 (v := .inl (2 : Int32)) rfl ?_
            refine zw_stk hm_131 dX11_tokenIs_33 (st₉ := [.inl ((mI S 64 2) + (2 : Int32))]) rfl rfl ?_
            refine zw_push hm_131 dX11_tokenIs_34 (v := .inl (100 : Int32)) rfl ?_
            refine zw_if2 hm_131 dX11_tokenIs_36 (t := 66) rfl zc2_ge ?_ ?_
            · intro hc
              rw [if_pos hc] at h
              refine zw_push hm_131 dX11_tokenIs_66 (v := .inl (1 : Int32)) rfl ?_
              exact zw_bret hm_131 dX11_tokenIs_67 (by decide) h
            · intro hc
              rw [if_neg hc] at h
              refine zw_push hm_131 dX11_tokenIs_39 (v := .inr (.inr (some 64))) rfl ?_
              refine zw_gf hm_131 dX11_tokenIs_40 (v := .inr (.inr (some 65))) (zT_is hS s_64) (zT_t hS s_64) rfl f_11_9_11 (zT_f hS r_64_0) ?_
              refine zw_push hm_131 dX11_tokenIs_43 (v := .inr (.inr (some 64))) rfl ?_
              refine zw_gf hm_131 dX11_tokenIs_44 (v := .inl (mI S 64 2)) (zT_is hS s_64) (zT_t hS s_64) rfl f_11_92_11 rfl ?_
              refine zw_push hm_131 dX11_tokenIs_47 (v := .inl (2 : Int32)) rfl ?_
              refine zw_stk hm_131 dX11_tokenIs_48 (st₉ := [.inl ((mI S 64 2) + (2 : Int32)), .inr (.inr (some 65))]) rfl rfl ?_
              obtain ⟨hg, h⟩ := h
              refine zw_ba hm_131 dX11_tokenIs_49 (zT_is hS s_65) (zT_h hS s_65) rfl rfl hg ?_
              show ma_wp X d w 131 50 [(2, .inl (2 : Int32)), (0, .inr (.inr (some 64))), (1, .inr (.inr (some 1)))] [.inl (mI S 65 ((mI S 64 2) + (2 : Int32)).toNatClampNeg)] S _
              refine zw_push hm_131 dX11_tokenIs_50 (v := .inr (.inr (some 1))) rfl ?_
              refine zw_push hm_131 dX11_tokenIs_51 (v := .inl (2 : Int32)) rfl ?_
              refine zw_cv hm_131 dX11_tokenIs_52 v_11_293_17 hm_279 [.inl (2 : Int32)] [.inl (mI S 65 ((mI S 64 2) + (2 : Int32)).toNatClampNeg)] rfl rfl ⟨by omega, by omega⟩ rfl (tx_char (v := (105 : Int32)) (by decide) (by omega) (by omega) (by decide) (by decide) (by decide) (by decide) ?_)
              show ma_wp X d w 131 55 [(2, .inl (2 : Int32)), (0, .inr (.inr (some 64))), (1, .inr (.inr (some 1)))] [.inl (105 : Int32), .inl (mI S 65 ((mI S 64 2) + (2 : Int32)).toNatClampNeg)] S _
              refine zw_if2 hm_131 dX11_tokenIs_55 (t := 60) rfl zc2_eq ?_ ?_
              · intro hc
                rw [if_pos hc] at h
                refine zw_sto hm_131 dX11_tokenIs_60 [(2, .inl (3 : Int32)), (0, .inr (.inr (some 64))), (1, .inr (.inr (some 1)))] rfl rfl rfl ?_
                refine zw_goto hm_131 dX11_tokenIs_63 (t := 20) rfl ?_
                refine zw_push hm_131 dX11_tokenIs_20 (v := .inl (3 : Int32)) rfl ?_
                refine zw_push hm_131 dX11_tokenIs_21 (v := .inr (.inr (some 1))) rfl ?_
                refine zw_cv hm_131 dX11_tokenIs_22 v_11_288_17 hm_277 [] [.inl (3 : Int32)] rfl rfl ⟨by omega, by omega⟩ rfl (tx_len (v := (5 : Int32)) (by decide) (by omega) (by omega) rfl rfl ?_)
                show ma_wp X d w 131 25 [(2, .inl (3 : Int32)), (0, .inr (.inr (some 64))), (1, .inr (.inr (some 1)))] [.inl (5 : Int32), .inl (3 : Int32)] S _
                refine zw_if2 hm_131 dX11_tokenIs_25 (t := 66) rfl zc2_ge (fun hc => absurd hc (by decide)) (fun _ => ?_)
                refine zw_push hm_131 dX11_tokenIs_28 (v := .inr (.inr (some 64))) rfl ?_
                refine zw_gf hm_131 dX11_tokenIs_29 (v := .inl (mI S 64 2)) (zT_is hS s_64) (zT_t hS s_64) rfl f_11_92_11 rfl ?_
                refine zw_push hm_131 dX11_tokenIs_32 (v := .inl (3 : Int32)) rfl ?_
                refine zw_stk hm_131 dX11_tokenIs_33 (st₉ := [.inl ((mI S 64 2) + (3 : Int32))]) rfl rfl ?_
                refine zw_push hm_131 dX11_tokenIs_34 (v := .inl (100 : Int32)) rfl ?_
                refine zw_if2 hm_131 dX11_tokenIs_36 (t := 66) rfl zc2_ge ?_ ?_
                · intro hc
                  rw [if_pos hc] at h
                  refine zw_push hm_131 dX11_tokenIs_66 (v := .inl (1 : Int32)) rfl ?_
                  exact zw_bret hm_131 dX11_tokenIs_67 (by decide) h
                · intro hc
                  rw [if_neg hc] at h
                  refine zw_push hm_131 dX11_tokenIs_39 (v := .inr (.inr (some 64))) rfl ?_
                  refine zw_gf hm_131 dX11_tokenIs_40 (v := .inr (.inr (some 65))) (zT_is hS s_64) (zT_t hS s_64) rfl f_11_9_11 (zT_f hS r_64_0) ?_
                  refine zw_push hm_131 dX11_tokenIs_43 (v := .inr (.inr (some 64))) rfl ?_
                  refine zw_gf hm_131 dX11_tokenIs_44 (v := .inl (mI S 64 2)) (zT_is hS s_64) (zT_t hS s_64) rfl f_11_92_11 rfl ?_
                  refine zw_push hm_131 dX11_tokenIs_47 (v := .inl (3 : Int32)) rfl ?_
                  refine zw_stk hm_131 dX11_tokenIs_48 (st₉ := [.inl ((mI S 64 2) + (3 : Int32)), .inr (.inr (some 65))]) rfl rfl ?_
                  obtain ⟨hg, h⟩ := h
                  refine zw_ba hm_131 dX11_tokenIs_49 (zT_is hS s_65) (zT_h hS s_65) rfl rfl hg ?_
                  show ma_wp X d w 131 50 [(2, .inl (3 : Int32)), (0, .inr (.inr (some 64))), (1, .inr (.inr (some 1)))] [.inl (mI S 65 ((mI S 64 2) + (3 : Int32)).toNatClampNeg)] S _
                  refine zw_push hm_131 dX11_tokenIs_50 (v := .inr (.inr (some 1))) rfl ?_
                  refine zw_push hm_131 dX11_tokenIs_51 (v := .inl (3 : Int32)) rfl ?_
                  refine zw_cv hm_131 dX11_tokenIs_52 v_11_293_17 hm_279 [.inl (3 : Int32)] [.inl (mI S 65 ((mI S 64 2) + (3 : Int32)).toNatClampNeg)] rfl rfl ⟨by omega, by omega⟩ rfl (tx_char (v := (100 : Int32)) (by decide) (by omega) (by omega) (by decide) (by decide) (by decide) (by decide) ?_)
                  show ma_wp X d w 131 55 [(2, .inl (3 : Int32)), (0, .inr (.inr (some 64))), (1, .inr (.inr (some 1)))] [.inl (100 : Int32), .inl (mI S 65 ((mI S 64 2) + (3 : Int32)).toNatClampNeg)] S _
                  refine zw_if2 hm_131 dX11_tokenIs_55 (t := 60) rfl zc2_eq ?_ ?_
                  · intro hc
                    rw [if_pos hc] at h
                    refine zw_sto hm_131 dX11_tokenIs_60 [(2, .inl (4 : Int32)), (0, .inr (.inr (some 64))), (1, .inr (.inr (some 1)))] rfl rfl rfl ?_
                    refine zw_goto hm_131 dX11_tokenIs_63 (t := 20) rfl ?_
                    refine zw_push hm_131 dX11_tokenIs_20 (v := .inl (4 : Int32)) rfl ?_
                    refine zw_push hm_131 dX11_tokenIs_21 (v := .inr (.inr (some 1))) rfl ?_
                    refine zw_cv hm_131 dX11_tokenIs_22 v_11_288_17 hm_277 [] [.inl (4 : Int32)] rfl rfl ⟨by omega, by omega⟩ rfl (tx_len (v := (5 : Int32)) (by decide) (by omega) (by omega) rfl rfl ?_)
                    show ma_wp X d w 131 25 [(2, .inl (4 : Int32)), (0, .inr (.inr (some 64))), (1, .inr (.inr (some 1)))] [.inl (5 : Int32), .inl (4 : Int32)] S _
                    refine zw_if2 hm_131 dX11_tokenIs_25 (t := 66) rfl zc2_ge (fun hc => absurd hc (by decide)) (fun _ => ?_)
                    refine zw_push hm_131 dX11_tokenIs_28 (v := .inr (.inr (some 64))) rfl ?_
                    refine zw_gf hm_131 dX11_tokenIs_29 (v := .inl (mI S 64 2)) (zT_is hS s_64) (zT_t hS s_64) rfl f_11_92_11 rfl ?_
                    refine zw_push hm_131 dX11_tokenIs_32 (v := .inl (4 : Int32)) rfl ?_
                    refine zw_stk hm_131 dX11_tokenIs_33 (st₉ := [.inl ((mI S 64 2) + (4 : Int32))]) rfl rfl ?_
                    refine zw_push hm_131 dX11_tokenIs_34 (v := .inl (100 : Int32)) rfl ?_
                    refine zw_if2 hm_131 dX11_tokenIs_36 (t := 66) rfl zc2_ge ?_ ?_
                    · intro hc
                      rw [if_pos hc] at h
                      refine zw_push hm_131 dX11_tokenIs_66 (v := .inl (1 : Int32)) rfl ?_
                      exact zw_bret hm_131 dX11_tokenIs_67 (by decide) h
                    · intro hc
                      rw [if_neg hc] at h
                      refine zw_push hm_131 dX11_tokenIs_39 (v := .inr (.inr (some 64))) rfl ?_
                      refine zw_gf hm_131 dX11_tokenIs_40 (v := .inr (.inr (some 65))) (zT_is hS s_64) (zT_t hS s_64) rfl f_11_9_11 (zT_f hS r_64_0) ?_
                      refine zw_push hm_131 dX11_tokenIs_43 (v := .inr (.inr (some 64))) rfl ?_
                      refine zw_gf hm_131 dX11_tokenIs_44 (v := .inl (mI S 64 2)) (zT_is hS s_64) (zT_t hS s_64) rfl f_11_92_11 rfl ?_
                      refine zw_push hm_131 dX11_tokenIs_47 (v := .inl (4 : Int32)) rfl ?_
                      refine zw_stk hm_131 dX11_tokenIs_48 (st₉ := [.inl ((mI S 64 2) + (4 : Int32)), .inr (.inr (some 65))]) rfl rfl ?_
                      obtain ⟨hg, h⟩ := h
                      refine zw_ba hm_131 dX11_tokenIs_49 (zT_is hS s_65) (zT_h hS s_65) rfl rfl hg ?_
                      show ma_wp X d w 131 50 [(2, .inl (4 : Int32)), (0, .inr (.inr (some 64))), (1, .inr (.inr (some 1)))] [.inl (mI S 65 ((mI S 64 2) + (4 : Int32)).toNatClampNeg)] S _
                      refine zw_push hm_131 dX11_tokenIs_50 (v := .inr (.inr (some 1))) rfl ?_
                      refine zw_push hm_131 dX11_tokenIs_51 (v := .inl (4 : Int32)) rfl ?_
                      refine zw_cv hm_131 dX11_tokenIs_52 v_11_293_17 hm_279 [.inl (4 : Int32)] [.inl (mI S 65 ((mI S 64 2) + (4 : Int32)).toNatClampNeg)] rfl rfl ⟨by omega, by omega⟩ rfl (tx_char (v := (101 : Int32)) (by decide) (by omega) (by omega) (by decide) (by decide) (by decide) (by decide) ?_)
                      show ma_wp X d w 131 55 [(2, .inl (4 : Int32)), (0, .inr (.inr (some 64))), (1, .inr (.inr (some 1)))] [.inl (101 : Int32), .inl (mI S 65 ((mI S 64 2) + (4 : Int32)).toNatClampNeg)] S _
                      refine zw_if2 hm_131 dX11_tokenIs_55 (t := 60) rfl zc2_eq ?_ ?_
                      · intro hc
                        rw [if_pos hc] at h
                        refine zw_sto hm_131 dX11_tokenIs_60 [(2, .inl (5 : Int32)), (0, .inr (.inr (some 64))), (1, .inr (.inr (some 1)))] rfl rfl rfl ?_
                        refine zw_goto hm_131 dX11_tokenIs_63 (t := 20) rfl ?_
                        refine zw_push hm_131 dX11_tokenIs_20 (v := .inl (5 : Int32)) rfl ?_
                        refine zw_push hm_131 dX11_tokenIs_21 (v := .inr (.inr (some 1))) rfl ?_
                        refine zw_cv hm_131 dX11_tokenIs_22 v_11_288_17 hm_277 [] [.inl (5 : Int32)] rfl rfl ⟨by omega, by omega⟩ rfl (tx_len (v := (5 : Int32)) (by decide) (by omega) (by omega) rfl rfl ?_)
                        show ma_wp X d w 131 25 [(2, .inl (5 : Int32)), (0, .inr (.inr (some 64))), (1, .inr (.inr (some 1)))] [.inl (5 : Int32), .inl (5 : Int32)] S _
                        refine zw_if2 hm_131 dX11_tokenIs_25 (t := 66) rfl zc2_ge (fun _ => ?_) (fun hc => absurd (by decide) hc)
                        refine zw_push hm_131 dX11_tokenIs_66 (v := .inl (1 : Int32)) rfl ?_
                        exact zw_bret hm_131 dX11_tokenIs_67 (by decide) h
                      · intro hc
                        rw [if_neg hc] at h
                        refine zw_push hm_131 dX11_tokenIs_58 (v := .inl (0 : Int32)) rfl ?_
                        exact zw_bret hm_131 dX11_tokenIs_59 (by decide) h
                  · intro hc
                    rw [if_neg hc] at h
                    refine zw_push hm_131 dX11_tokenIs_58 (v := .inl (0 : Int32)) rfl ?_
                    exact zw_bret hm_131 dX11_tokenIs_59 (by decide) h
              · intro hc
                rw [if_neg hc] at h
                refine zw_push hm_131 dX11_tokenIs_58 (v := .inl (0 : Int32)) rfl ?_
                exact zw_bret hm_131 dX11_tokenIs_59 (by decide) h
          · intro hc
            rw [if_neg hc] at h
            refine zw_push hm_131 dX11_tokenIs_58 (v := .inl (0 : Int32)) rfl ?_
            exact zw_bret hm_131 dX11_tokenIs_59 (by decide) h
      · intro hc
        rw [if_neg hc] at h
        refine zw_push hm_131 dX11_tokenIs_58 (v := .inl (0 : Int32)) rfl ?_
        exact zw_bret hm_131 dX11_tokenIs_59 (by decide) h
  · intro hc
    rw [if_neg hc] at h
    refine zw_push hm_131 dX11_tokenIs_16 (v := .inl (0 : Int32)) rfl ?_
    exact zw_bret hm_131 dX11_tokenIs_17 (by decide) h
theorem sp_131_64_1_sq {X : Nat × (Nat → Int32)} {d w : Nat} {f : Nat → Nat → Int32} {r : Nat → Nat → Option Nat} {C Z N : Nat} {Q : Option ma_V ⊕ Nat → ma_S → Prop} {I0 : Nat→Nat→Int32} {L0 : Nat→Nat→Int64} {R0 : zRT} {S : ma_S}  (hd : 5 ≤ d) (hw : 100 ≤ w) (hI : zY0 f r C Z N S) (hpre0 : zFm I0 L0 R0 S) (K : ∀ v S₉, zY0 f r C Z N S₉ → (v = 0 ∨ v = 1) → ((v = 1 ∧ zwd (f 65) (f 64 2) ((f 64 3).toInt - (f 64 2).toInt) 115 108 105 100 101 0 0) ∨ (v = 0 ∧ ¬ zwd (f 65) (f 64 2) ((f 64 3).toInt - (f 64 2).toInt) 115 108 105 100 101 0 0)) → (zFm I0 L0 R0 S₉) → Q (.inl (some (.inl v))) S₉) : ma_wp X d w 131 0 [(0, .inr (.inr (some 64))), (1, .inr (.inr (some 1)))] [] S Q := by
  refine g_131_64_1_sq_0  (by omega) (by omega) (zG_T hI) ?_
  have q1 : (mI S 64 3).toInt = (f 64 3).toInt := zG_zi hI rfl
  have f2 := zG_s hI (0) (100) (c := 64) (k := 3) (by decide)
  have q3 : (mI S 64 2).toInt = (f 64 2).toInt := zG_zi hI rfl
  have f4 := zG_s hI (0) (100) (c := 64) (k := 2) (by decide)
  first | have e5 : ((mI S 64 3) - (mI S 64 2)).toInt = (mI S 64 3).toInt - (mI S 64 2).toInt := i_sub (by omega) (by omega) | have b6 := i_bd ((mI S 64 3) - (mI S 64 2))
  have li7 : (5 : Int32).toInt = 5 := rfl
  refine zd (fun h8 => ?_) (fun h8 => ?_)
  · skip
    have g9 := i_eq h8
    have li10 : (100 : Int32).toInt = 100 := rfl
    first | have e11 : ((mI S 64 2) + (0 : Int32)).toInt = (mI S 64 2).toInt + (0) := i_addk rfl (by omega) (by omega) | have b12 := i_bd ((mI S 64 2) + (0 : Int32))
    refine zd (fun h13 => ?_) (fun h13 => ?_)
    · skip
      have g14 := i_le h13
      have li15 : (1 : Int32).toInt = 1 := rfl
      exact K ((1 : Int32)) _ hI (by decide) (show ((1 : Int32) = 1 ∧ zwd (f 65) (f 64 2) ((f 64 3).toInt - (f 64 2).toInt) 115 108 105 100 101 0 0) ∨ ((1 : Int32) = 0 ∧ ¬ zwd (f 65) (f 64 2) ((f 64 3).toInt - (f 64 2).toInt) 115 108 105 100 101 0 0) from by first | (rw [show f 65 = mI S 65 from funext (fun k => (zG_z hI rfl).symm), show f 64 2 = mI S 64 2 from (zG_z hI rfl).symm, show f 64 3 = mI S 64 3 from (zG_z hI rfl).symm]; exact Or.inl ⟨rfl, by rw [if_neg (by decide), if_pos rfl]; omega, (by assumption), (by assumption), (by assumption), (by assumption), Or.inr (by assumption), Or.inr (Or.inl rfl), Or.inr (Or.inl rfl)⟩) | (omega) | (exfalso; omega)) (show zFm I0 L0 R0 S from by first | (exact hpre0))
    · skip
      have g16 := i_nle h13
      refine ⟨i_ix (by omega) (by omega), ?_⟩
      have q17 : (mI S 65 ((mI S 64 2) + (0 : Int32)).toNatClampNeg).toInt = (f 65 ((mI S 64 2) + (0 : Int32)).toNatClampNeg).toInt := zG_zi hI rfl
      have b18 := i_bd (mI S 65 ((mI S 64 2) + (0 : Int32)).toNatClampNeg)
      have li19 : (115 : Int32).toInt = 115 := rfl
      refine zd (fun h20 => ?_) (fun h20 => ?_)
      · skip
        have g21 := i_eq h20
        first | have e22 : ((mI S 64 2) + (1 : Int32)).toInt = (mI S 64 2).toInt + (1) := i_addk rfl (by omega) (by omega) | have b23 := i_bd ((mI S 64 2) + (1 : Int32))
        refine zd (fun h24 => ?_) (fun h24 => ?_)
        · skip
          have g25 := i_le h24
          have li26 : (1 : Int32).toInt = 1 := rfl
          exact K ((1 : Int32)) _ hI (by decide) (show ((1 : Int32) = 1 ∧ zwd (f 65) (f 64 2) ((f 64 3).toInt - (f 64 2).toInt) 115 108 105 100 101 0 0) ∨ ((1 : Int32) = 0 ∧ ¬ zwd (f 65) (f 64 2) ((f 64 3).toInt - (f 64 2).toInt) 115 108 105 100 101 0 0) from by first | (rw [show f 65 = mI S 65 from funext (fun k => (zG_z hI rfl).symm), show f 64 2 = mI S 64 2 from (zG_z hI rfl).symm, show f 64 3 = mI S 64 3 from (zG_z hI rfl).symm]; exact Or.inl ⟨rfl, by rw [if_neg (by decide), if_pos rfl]; omega, (by assumption), (by assumption), (by assumption), (by assumption), Or.inr (by assumption), Or.inr (Or.inl rfl), Or.inr (Or.inl rfl)⟩) | (omega) | (exfalso; omega)) (show zFm I0 L0 R0 S from by first | (exact hpre0))
        · skip
          have g27 := i_nle h24
          refine ⟨i_ix (by omega) (by omega), ?_⟩
          have q28 : (mI S 65 ((mI S 64 2) + (1 : Int32)).toNatClampNeg).toInt = (f 65 ((mI S 64 2) + (1 : Int32)).toNatClampNeg).toInt := zG_zi hI rfl
          have b29 := i_bd (mI S 65 ((mI S 64 2) + (1 : Int32)).toNatClampNeg)
          have li30 : (108 : Int32).toInt = 108 := rfl
          refine zd (fun h31 => ?_) (fun h31 => ?_)
          · skip
            have g32 := i_eq h31
            first | have e33 : ((mI S 64 2) + (2 : Int32)).toInt = (mI S 64 2).toInt + (2) := i_addk rfl (by omega) (by omega) | have b34 := i_bd ((mI S 64 2) + (2 : Int32))
            refine zd (fun h35 => ?_) (fun h35 => ?_)
            · skip
              have g36 := i_le h35
              have li37 : (1 : Int32).toInt = 1 := rfl
              exact K ((1 : Int32)) _ hI (by decide) (show ((1 : Int32) = 1 ∧ zwd (f 65) (f 64 2) ((f 64 3).toInt - (f 64 2).toInt) 115 108 105 100 101 0 0) ∨ ((1 : Int32) = 0 ∧ ¬ zwd (f 65) (f 64 2) ((f 64 3).toInt - (f 64 2).toInt) 115 108 105 100 101 0 0) from by first | (rw [show f 65 = mI S 65 from funext (fun k => (zG_z hI rfl).symm), show f 64 2 = mI S 64 2 from (zG_z hI rfl).symm, show f 64 3 = mI S 64 3 from (zG_z hI rfl).symm]; exact Or.inl ⟨rfl, by rw [if_neg (by decide), if_pos rfl]; omega, (by assumption), (by assumption), (by assumption), (by assumption), Or.inr (by assumption), Or.inr (Or.inl rfl), Or.inr (Or.inl rfl)⟩) | (omega) | (exfalso; omega)) (show zFm I0 L0 R0 S from by first | (exact hpre0))
            · skip
              have g38 := i_nle h35
              refine ⟨i_ix (by omega) (by omega), ?_⟩
              have q39 : (mI S 65 ((mI S 64 2) + (2 : Int32)).toNatClampNeg).toInt = (f 65 ((mI S 64 2) + (2 : Int32)).toNatClampNeg).toInt := zG_zi hI rfl
              have b40 := i_bd (mI S 65 ((mI S 64 2) + (2 : Int32)).toNatClampNeg)
              have li41 : (105 : Int32).toInt = 105 := rfl
              refine zd (fun h42 => ?_) (fun h42 => ?_)
              · skip
                have g43 := i_eq h42
                first | have e44 : ((mI S 64 2) + (3 : Int32)).toInt = (mI S 64 2).toInt + (3) := i_addk rfl (by omega) (by omega) | have b45 := i_bd ((mI S 64 2) + (3 : Int32))
                refine zd (fun h46 => ?_) (fun h46 => ?_)
                · skip
                  have g47 := i_le h46
                  have li48 : (1 : Int32).toInt = 1 := rfl
                  exact K ((1 : Int32)) _ hI (by decide) (show ((1 : Int32) = 1 ∧ zwd (f 65) (f 64 2) ((f 64 3).toInt - (f 64 2).toInt) 115 108 105 100 101 0 0) ∨ ((1 : Int32) = 0 ∧ ¬ zwd (f 65) (f 64 2) ((f 64 3).toInt - (f 64 2).toInt) 115 108 105 100 101 0 0) from by first | (rw [show f 65 = mI S 65 from funext (fun k => (zG_z hI rfl).symm), show f 64 2 = mI S 64 2 from (zG_z hI rfl).symm, show f 64 3 = mI S 64 3 from (zG_z hI rfl).symm]; exact Or.inl ⟨rfl, by rw [if_neg (by decide), if_pos rfl]; omega, (by assumption), (by assumption), (by assumption), (by assumption), Or.inr (by assumption), Or.inr (Or.inl rfl), Or.inr (Or.inl rfl)⟩) | (omega) | (exfalso; omega)) (show zFm I0 L0 R0 S from by first | (exact hpre0))
                · skip
                  have g49 := i_nle h46
                  refine ⟨i_ix (by omega) (by omega), ?_⟩
                  have q50 : (mI S 65 ((mI S 64 2) + (3 : Int32)).toNatClampNeg).toInt = (f 65 ((mI S 64 2) + (3 : Int32)).toNatClampNeg).toInt := zG_zi hI rfl
                  have b51 := i_bd (mI S 65 ((mI S 64 2) + (3 : Int32)).toNatClampNeg)
                  refine zd (fun h52 => ?_) (fun h52 => ?_)
                  · skip
                    have g53 := i_eq h52
                    first | have e54 : ((mI S 64 2) + (4 : Int32)).toInt = (mI S 64 2).toInt + (4) := i_addk rfl (by omega) (by omega) | have b55 := i_bd ((mI S 64 2) + (4 : Int32))
                    refine zd (fun h56 => ?_) (fun h56 => ?_)
                    · skip
                      have g57 := i_le h56
                      have li58 : (1 : Int32).toInt = 1 := rfl
                      exact K ((1 : Int32)) _ hI (by decide) (show ((1 : Int32) = 1 ∧ zwd (f 65) (f 64 2) ((f 64 3).toInt - (f 64 2).toInt) 115 108 105 100 101 0 0) ∨ ((1 : Int32) = 0 ∧ ¬ zwd (f 65) (f 64 2) ((f 64 3).toInt - (f 64 2).toInt) 115 108 105 100 101 0 0) from by first | (rw [show f 65 = mI S 65 from funext (fun k => (zG_z hI rfl).symm), show f 64 2 = mI S 64 2 from (zG_z hI rfl).symm, show f 64 3 = mI S 64 3 from (zG_z hI rfl).symm]; exact Or.inl ⟨rfl, by rw [if_neg (by decide), if_pos rfl]; omega, (by assumption), (by assumption), (by assumption), (by assumption), Or.inr (by assumption), Or.inr (Or.inl rfl), Or.inr (Or.inl rfl)⟩) | (omega) | (exfalso; omega)) (show zFm I0 L0 R0 S from by first | (exact hpre0))
                    · skip
                      have g59 := i_nle h56
                      refine ⟨i_ix (by omega) (by omega), ?_⟩
                      have q60 : (mI S 65 ((mI S 64 2) + (4 : Int32)).toNatClampNeg).toInt = (f 65 ((mI S 64 2) + (4 : Int32)).toNatClampNeg).toInt := zG_zi hI rfl
                      have b61 := i_bd (mI S 65 ((mI S 64 2) + (4 : Int32)).toNatClampNeg)
                      have li62 : (101 : Int32).toInt = 101 := rfl
                      refine zd (fun h63 => ?_) (fun h63 => ?_)
                      · skip
                        have g64 := i_eq h63
                        have li65 : (1 : Int32).toInt = 1 := rfl
                        exact K ((1 : Int32)) _ hI (by decide) (show ((1 : Int32) = 1 ∧ zwd (f 65) (f 64 2) ((f 64 3).toInt - (f 64 2).toInt) 115 108 105 100 101 0 0) ∨ ((1 : Int32) = 0 ∧ ¬ zwd (f 65) (f 64 2) ((f 64 3).toInt - (f 64 2).toInt) 115 108 105 100 101 0 0) from by first | (rw [show f 65 = mI S 65 from funext (fun k => (zG_z hI rfl).symm), show f 64 2 = mI S 64 2 from (zG_z hI rfl).symm, show f 64 3 = mI S 64 3 from (zG_z hI rfl).symm]; exact Or.inl ⟨rfl, by rw [if_neg (by decide), if_pos rfl]; omega, (by assumption), (by assumption), (by assumption), (by assumption), Or.inr (by assumption), Or.inr (Or.inl rfl), Or.inr (Or.inl rfl)⟩) | (omega) | (exfalso; omega)) (show zFm I0 L0 R0 S from by first | (exact hpre0))
                      · skip
                        have g66 := i_ne h63
                        have li67 : (0 : Int32).toInt = 0 := rfl
                        exact K ((0 : Int32)) _ hI (by decide) (show ((0 : Int32) = 1 ∧ zwd (f 65) (f 64 2) ((f 64 3).toInt - (f 64 2).toInt) 115 108 105 100 101 0 0) ∨ ((0 : Int32) = 0 ∧ ¬ zwd (f 65) (f 64 2) ((f 64 3).toInt - (f 64 2).toInt) 115 108 105 100 101 0 0) from by first | (rw [show f 65 = mI S 65 from funext (fun k => (zG_z hI rfl).symm), show f 64 2 = mI S 64 2 from (zG_z hI rfl).symm, show f 64 3 = mI S 64 3 from (zG_z hI rfl).symm]; exact Or.inr ⟨rfl, fun z => absurd z.2.1 (by assumption)⟩) | (rw [show f 65 = mI S 65 from funext (fun k => (zG_z hI rfl).symm), show f 64 2 = mI S 64 2 from (zG_z hI rfl).symm, show f 64 3 = mI S 64 3 from (zG_z hI rfl).symm]; exact Or.inr ⟨rfl, fun z => absurd z.2.2.1 (by assumption)⟩) | (rw [show f 65 = mI S 65 from funext (fun k => (zG_z hI rfl).symm), show f 64 2 = mI S 64 2 from (zG_z hI rfl).symm, show f 64 3 = mI S 64 3 from (zG_z hI rfl).symm]; exact Or.inr ⟨rfl, fun z => absurd z.2.2.2.1 (by assumption)⟩) | (rw [show f 65 = mI S 65 from funext (fun k => (zG_z hI rfl).symm), show f 64 2 = mI S 64 2 from (zG_z hI rfl).symm, show f 64 3 = mI S 64 3 from (zG_z hI rfl).symm]; exact Or.inr ⟨rfl, fun z => absurd z.2.2.2.2.1 (by assumption)⟩) | (rw [show f 65 = mI S 65 from funext (fun k => (zG_z hI rfl).symm), show f 64 2 = mI S 64 2 from (zG_z hI rfl).symm, show f 64 3 = mI S 64 3 from (zG_z hI rfl).symm]; exact Or.inr ⟨rfl, fun z => absurd (z.2.2.2.2.2.1.elim (fun y => absurd y (by decide)) id) (by assumption)⟩) | (rw [show f 65 = mI S 65 from funext (fun k => (zG_z hI rfl).symm), show f 64 2 = mI S 64 2 from (zG_z hI rfl).symm, show f 64 3 = mI S 64 3 from (zG_z hI rfl).symm]; exact Or.inr ⟨rfl, fun z => by have y := z.1; rw [if_neg (by decide), if_pos rfl] at y; omega⟩) | (omega) | (exfalso; omega)) (show zFm I0 L0 R0 S from by first | (exact hpre0))
                  · skip
                    have g68 := i_ne h52
                    have li69 : (0 : Int32).toInt = 0 := rfl
                    exact K ((0 : Int32)) _ hI (by decide) (show ((0 : Int32) = 1 ∧ zwd (f 65) (f 64 2) ((f 64 3).toInt - (f 64 2).toInt) 115 108 105 100 101 0 0) ∨ ((0 : Int32) = 0 ∧ ¬ zwd (f 65) (f 64 2) ((f 64 3).toInt - (f 64 2).toInt) 115 108 105 100 101 0 0) from by first | (rw [show f 65 = mI S 65 from funext (fun k => (zG_z hI rfl).symm), show f 64 2 = mI S 64 2 from (zG_z hI rfl).symm, show f 64 3 = mI S 64 3 from (zG_z hI rfl).symm]; exact Or.inr ⟨rfl, fun z => absurd z.2.1 (by assumption)⟩) | (rw [show f 65 = mI S 65 from funext (fun k => (zG_z hI rfl).symm), show f 64 2 = mI S 64 2 from (zG_z hI rfl).symm, show f 64 3 = mI S 64 3 from (zG_z hI rfl).symm]; exact Or.inr ⟨rfl, fun z => absurd z.2.2.1 (by assumption)⟩) | (rw [show f 65 = mI S 65 from funext (fun k => (zG_z hI rfl).symm), show f 64 2 = mI S 64 2 from (zG_z hI rfl).symm, show f 64 3 = mI S 64 3 from (zG_z hI rfl).symm]; exact Or.inr ⟨rfl, fun z => absurd z.2.2.2.1 (by assumption)⟩) | (rw [show f 65 = mI S 65 from funext (fun k => (zG_z hI rfl).symm), show f 64 2 = mI S 64 2 from (zG_z hI rfl).symm, show f 64 3 = mI S 64 3 from (zG_z hI rfl).symm]; exact Or.inr ⟨rfl, fun z => absurd z.2.2.2.2.1 (by assumption)⟩) | (rw [show f 65 = mI S 65 from funext (fun k => (zG_z hI rfl).symm), show f 64 2 = mI S 64 2 from (zG_z hI rfl).symm, show f 64 3 = mI S 64 3 from (zG_z hI rfl).symm]; exact Or.inr ⟨rfl, fun z => absurd (z.2.2.2.2.2.1.elim (fun y => absurd y (by decide)) id) (by assumption)⟩) | (rw [show f 65 = mI S 65 from funext (fun k => (zG_z hI rfl).symm), show f 64 2 = mI S 64 2 from (zG_z hI rfl).symm, show f 64 3 = mI S 64 3 from (zG_z hI rfl).symm]; exact Or.inr ⟨rfl, fun z => by have y := z.1; rw [if_neg (by decide), if_pos rfl] at y; omega⟩) | (omega) | (exfalso; omega)) (show zFm I0 L0 R0 S from by first | (exact hpre0))
              · skip
                have g70 := i_ne h42
                have li71 : (0 : Int32).toInt = 0 := rfl
                exact K ((0 : Int32)) _ hI (by decide) (show ((0 : Int32) = 1 ∧ zwd (f 65) (f 64 2) ((f 64 3).toInt - (f 64 2).toInt) 115 108 105 100 101 0 0) ∨ ((0 : Int32) = 0 ∧ ¬ zwd (f 65) (f 64 2) ((f 64 3).toInt - (f 64 2).toInt) 115 108 105 100 101 0 0) from by first | (rw [show f 65 = mI S 65 from funext (fun k => (zG_z hI rfl).symm), show f 64 2 = mI S 64 2 from (zG_z hI rfl).symm, show f 64 3 = mI S 64 3 from (zG_z hI rfl).symm]; exact Or.inr ⟨rfl, fun z => absurd z.2.1 (by assumption)⟩) | (rw [show f 65 = mI S 65 from funext (fun k => (zG_z hI rfl).symm), show f 64 2 = mI S 64 2 from (zG_z hI rfl).symm, show f 64 3 = mI S 64 3 from (zG_z hI rfl).symm]; exact Or.inr ⟨rfl, fun z => absurd z.2.2.1 (by assumption)⟩) | (rw [show f 65 = mI S 65 from funext (fun k => (zG_z hI rfl).symm), show f 64 2 = mI S 64 2 from (zG_z hI rfl).symm, show f 64 3 = mI S 64 3 from (zG_z hI rfl).symm]; exact Or.inr ⟨rfl, fun z => absurd z.2.2.2.1 (by assumption)⟩) | (rw [show f 65 = mI S 65 from funext (fun k => (zG_z hI rfl).symm), show f 64 2 = mI S 64 2 from (zG_z hI rfl).symm, show f 64 3 = mI S 64 3 from (zG_z hI rfl).symm]; exact Or.inr ⟨rfl, fun z => absurd z.2.2.2.2.1 (by assumption)⟩) | (rw [show f 65 = mI S 65 from funext (fun k => (zG_z hI rfl).symm), show f 64 2 = mI S 64 2 from (zG_z hI rfl).symm, show f 64 3 = mI S 64 3 from (zG_z hI rfl).symm]; exact Or.inr ⟨rfl, fun z => absurd (z.2.2.2.2.2.1.elim (fun y => absurd y (by decide)) id) (by assumption)⟩) | (rw [show f 65 = mI S 65 from funext (fun k => (zG_z hI rfl).symm), show f 64 2 = mI S 64 2 from (zG_z hI rfl).symm, show f 64 3 = mI S 64 3 from (zG_z hI rfl).symm]; exact Or.inr ⟨rfl, fun z => by have y := z.1; rw [if_neg (by decide), if_pos rfl] at y; omega⟩) | (omega) | (exfalso; omega)) (show zFm I0 L0 R0 S from by first | (exact hpre0))
          · skip
            have g72 := i_ne h31
            have li73 : (0 : Int32).toInt = 0 := rfl
            exact K ((0 : Int32)) _ hI (by decide) (show ((0 : Int32) = 1 ∧ zwd (f 65) (f 64 2) ((f 64 3).toInt - (f 64 2).toInt) 115 108 105 100 101 0 0) ∨ ((0 : Int32) = 0 ∧ ¬ zwd (f 65) (f 64 2) ((f 64 3).toInt - (f 64 2).toInt) 115 108 105 100 101 0 0) from by first | (rw [show f 65 = mI S 65 from funext (fun k => (zG_z hI rfl).symm), show f 64 2 = mI S 64 2 from (zG_z hI rfl).symm, show f 64 3 = mI S 64 3 from (zG_z hI rfl).symm]; exact Or.inr ⟨rfl, fun z => absurd z.2.1 (by assumption)⟩) | (rw [show f 65 = mI S 65 from funext (fun k => (zG_z hI rfl).symm), show f 64 2 = mI S 64 2 from (zG_z hI rfl).symm, show f 64 3 = mI S 64 3 from (zG_z hI rfl).symm]; exact Or.inr ⟨rfl, fun z => absurd z.2.2.1 (by assumption)⟩) | (rw [show f 65 = mI S 65 from funext (fun k => (zG_z hI rfl).symm), show f 64 2 = mI S 64 2 from (zG_z hI rfl).symm, show f 64 3 = mI S 64 3 from (zG_z hI rfl).symm]; exact Or.inr ⟨rfl, fun z => absurd z.2.2.2.1 (by assumption)⟩) | (rw [show f 65 = mI S 65 from funext (fun k => (zG_z hI rfl).symm), show f 64 2 = mI S 64 2 from (zG_z hI rfl).symm, show f 64 3 = mI S 64 3 from (zG_z hI rfl).symm]; exact Or.inr ⟨rfl, fun z => absurd z.2.2.2.2.1 (by assumption)⟩) | (rw [show f 65 = mI S 65 from funext (fun k => (zG_z hI rfl).symm), show f 64 2 = mI S 64 2 from (zG_z hI rfl).symm, show f 64 3 = mI S 64 3 from (zG_z hI rfl).symm]; exact Or.inr ⟨rfl, fun z => absurd (z.2.2.2.2.2.1.elim (fun y => absurd y (by decide)) id) (by assumption)⟩) | (rw [show f 65 = mI S 65 from funext (fun k => (zG_z hI rfl).symm), show f 64 2 = mI S 64 2 from (zG_z hI rfl).symm, show f 64 3 = mI S 64 3 from (zG_z hI rfl).symm]; exact Or.inr ⟨rfl, fun z => by have y := z.1; rw [if_neg (by decide), if_pos rfl] at y; omega⟩) | (omega) | (exfalso; omega)) (show zFm I0 L0 R0 S from by first | (exact hpre0))
      · skip
        have g74 := i_ne h20
        have li75 : (0 : Int32).toInt = 0 := rfl
        exact K ((0 : Int32)) _ hI (by decide) (show ((0 : Int32) = 1 ∧ zwd (f 65) (f 64 2) ((f 64 3).toInt - (f 64 2).toInt) 115 108 105 100 101 0 0) ∨ ((0 : Int32) = 0 ∧ ¬ zwd (f 65) (f 64 2) ((f 64 3).toInt - (f 64 2).toInt) 115 108 105 100 101 0 0) from by first | (rw [show f 65 = mI S 65 from funext (fun k => (zG_z hI rfl).symm), show f 64 2 = mI S 64 2 from (zG_z hI rfl).symm, show f 64 3 = mI S 64 3 from (zG_z hI rfl).symm]; exact Or.inr ⟨rfl, fun z => absurd z.2.1 (by assumption)⟩) | (rw [show f 65 = mI S 65 from funext (fun k => (zG_z hI rfl).symm), show f 64 2 = mI S 64 2 from (zG_z hI rfl).symm, show f 64 3 = mI S 64 3 from (zG_z hI rfl).symm]; exact Or.inr ⟨rfl, fun z => absurd z.2.2.1 (by assumption)⟩) | (rw [show f 65 = mI S 65 from funext (fun k => (zG_z hI rfl).symm), show f 64 2 = mI S 64 2 from (zG_z hI rfl).symm, show f 64 3 = mI S 64 3 from (zG_z hI rfl).symm]; exact Or.inr ⟨rfl, fun z => absurd z.2.2.2.1 (by assumption)⟩) | (rw [show f 65 = mI S 65 from funext (fun k => (zG_z hI rfl).symm), show f 64 2 = mI S 64 2 from (zG_z hI rfl).symm, show f 64 3 = mI S 64 3 from (zG_z hI rfl).symm]; exact Or.inr ⟨rfl, fun z => absurd z.2.2.2.2.1 (by assumption)⟩) | (rw [show f 65 = mI S 65 from funext (fun k => (zG_z hI rfl).symm), show f 64 2 = mI S 64 2 from (zG_z hI rfl).symm, show f 64 3 = mI S 64 3 from (zG_z hI rfl).symm]; exact Or.inr ⟨rfl, fun z => absurd (z.2.2.2.2.2.1.elim (fun y => absurd y (by decide)) id) (by assumption)⟩) | (rw [show f 65 = mI S 65 from funext (fun k => (zG_z hI rfl).symm), show f 64 2 = mI S 64 2 from (zG_z hI rfl).symm, show f 64 3 = mI S 64 3 from (zG_z hI rfl).symm]; exact Or.inr ⟨rfl, fun z => by have y := z.1; rw [if_neg (by decide), if_pos rfl] at y; omega⟩) | (omega) | (exfalso; omega)) (show zFm I0 L0 R0 S from by first | (exact hpre0))
  · skip
    have g76 := i_ne h8
    have li77 : (0 : Int32).toInt = 0 := rfl
    exact K ((0 : Int32)) _ hI (by decide) (show ((0 : Int32) = 1 ∧ zwd (f 65) (f 64 2) ((f 64 3).toInt - (f 64 2).toInt) 115 108 105 100 101 0 0) ∨ ((0 : Int32) = 0 ∧ ¬ zwd (f 65) (f 64 2) ((f 64 3).toInt - (f 64 2).toInt) 115 108 105 100 101 0 0) from by first | (rw [show f 65 = mI S 65 from funext (fun k => (zG_z hI rfl).symm), show f 64 2 = mI S 64 2 from (zG_z hI rfl).symm, show f 64 3 = mI S 64 3 from (zG_z hI rfl).symm]; exact Or.inr ⟨rfl, fun z => absurd z.2.1 (by assumption)⟩) | (rw [show f 65 = mI S 65 from funext (fun k => (zG_z hI rfl).symm), show f 64 2 = mI S 64 2 from (zG_z hI rfl).symm, show f 64 3 = mI S 64 3 from (zG_z hI rfl).symm]; exact Or.inr ⟨rfl, fun z => absurd z.2.2.1 (by assumption)⟩) | (rw [show f 65 = mI S 65 from funext (fun k => (zG_z hI rfl).symm), show f 64 2 = mI S 64 2 from (zG_z hI rfl).symm, show f 64 3 = mI S 64 3 from (zG_z hI rfl).symm]; exact Or.inr ⟨rfl, fun z => absurd z.2.2.2.1 (by assumption)⟩) | (rw [show f 65 = mI S 65 from funext (fun k => (zG_z hI rfl).symm), show f 64 2 = mI S 64 2 from (zG_z hI rfl).symm, show f 64 3 = mI S 64 3 from (zG_z hI rfl).symm]; exact Or.inr ⟨rfl, fun z => absurd z.2.2.2.2.1 (by assumption)⟩) | (rw [show f 65 = mI S 65 from funext (fun k => (zG_z hI rfl).symm), show f 64 2 = mI S 64 2 from (zG_z hI rfl).symm, show f 64 3 = mI S 64 3 from (zG_z hI rfl).symm]; exact Or.inr ⟨rfl, fun z => absurd (z.2.2.2.2.2.1.elim (fun y => absurd y (by decide)) id) (by assumption)⟩) | (rw [show f 65 = mI S 65 from funext (fun k => (zG_z hI rfl).symm), show f 64 2 = mI S 64 2 from (zG_z hI rfl).symm, show f 64 3 = mI S 64 3 from (zG_z hI rfl).symm]; exact Or.inr ⟨rfl, fun z => by have y := z.1; rw [if_neg (by decide), if_pos rfl] at y; omega⟩) | (omega) | (exfalso; omega)) (show zFm I0 L0 R0 S from by first | (exact hpre0))

