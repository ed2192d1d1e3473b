/-! from 95.l12 -/
/-! the reference where it sweeps (written by wip/tools/gen20r.py) -/
set_option maxHeartbeats 8000000 in
theorem lp_183r0_142 {X : Nat × (Nat → Int32)} {P : Option ma_V → (Nat → Nat → Int32) → Prop} {T : Nat} {aa : Nat→Nat→Int32} {LL : Int64} {kk : Int32} {nn : Int32} {r1 : Int32} {m0 : Nat → Nat → Int32} (h0 : zV m0) (K : ∀ v m₉, zF wr_183 m0 m₉ → zV m₉ → (zW (m₉ 94 7) (m₉ 98) (m₉ 101) (m₉ 102) (m₉ 108)) → (zGW (T + 1) (m₉ 94 55) (m₉ 109)) → (zGU (T + 1) (m₉ 94 46) (m₉ 99)) → (zOw (m₉ 99) (m₉ 103) (m₉ 111)) → (zGG (m₉ 94 58) (m₉ 94 56) (m₉ 94 57) (m₉ 106)) → (qRB (m₉ 99) (m₉ 100) (m₉ 98) (m₉ 101) (m₉ 102) (m₉ 103) (m₉ 107) (m₉ 108) (m₉ 109) (m₉ 111) (m₉ 112) (m₉ 113) (m₉ 114) (m₉ 94 55) (m₉ 94 46) (m₉ 94 11) (m₉ 94 12) (m₉ 94 62) (m₉ 94 17) (m₉ 94 9) (sMk aa kk nn LL r1)) → (qI (sMk aa kk nn LL r1)) → (qMG (m₉ 94 58) (m₉ 106) (m₉ 115) (m₉ 94 57) (m₉ 94 56) (m₉ 99) (m₉ 100) (sMk aa kk nn LL r1)) → ((sMk aa kk nn LL r1) 87 8 = (m₉ 94 58)) → ((m₉ 94 45).toInt = sm (zbU (m₉ 99)) (m₉ 102) 3100) → ((m₉ 94 58).toInt = 0) → (v = sMn aa nn) → P (some (.inl v)) m₉) : ∀ (n : Nat) (m : Nat → Nat → Int32) (l2 : Int32) (l3 : Int32) (l4 : Int32) (l5 : Int32) (l6 : Int32), (61 - l6.toInt).toNat = n → zF wr_183 m0 m → zV m → (l2.toInt = nn.toInt) → (0 ≤ l2.toInt) → (l2.toInt ≤ 60) → (0 ≤ l3.toInt) → (l3.toInt ≤ 15) → (0 ≤ l4.toInt) → (l4.toInt ≤ 1500) → (0 ≤ l5.toInt) → (l5.toInt ≤ 3099) → (T + 1 ≤ 512) → (0 ≤ l6.toInt) → ((m 94 10).toInt = 0 ∧ (m 94 58).toInt = 0) → ((m 94 8).toInt = 1) → ((m 94 46).toInt ≤ 511) → (l2 = nn) → (l3 = r1) → (qEq l4.toInt (zRp aa (nn + (1 : Int32)).toInt)) → ((m 102 l5.toNatClampNeg).toInt = l2.toInt) → ((m 99) l5.toNatClampNeg ≠ 0) → (zGUp T (m 94 46) (m 99)) → (zOw (m 99) (m 103) (m 111)) → (zGG (m 94 58) (m 94 56) (m 94 57) (m 106)) → (qI (zRs aa (nn + (1 : Int32)).toInt)) → (qNs (m 99) (m 100) (m 98) (m 101) (m 102) (m 103) (m 107) (m 108) (m 109) (m 111) (m 112) (m 113) (m 114) (m 94 55) (m 94 46) (m 94 11) (m 94 12) (m 94 62) (m 94 17) (m 94 9) (zRs aa (nn + (1 : Int32)).toInt) l5.toNatClampNeg (m 94 46) kk nn l4) → (qMG (m 94 58) (m 106) (m 115) (m 94 57) (m 94 56) (zmk (m 99) l5.toNatClampNeg) (m 100) (zRs aa (nn + (1 : Int32)).toInt)) → ((zRs aa (nn + (1 : Int32)).toInt) 87 8 = (m 94 58)) → ((m 94 45).toInt = sm (zbU (zmk (m 99) l5.toNatClampNeg)) (m 102) 3100) → (∀ j : Nat, (j : Int) < nn.toInt → (zbit LL (Int32.ofNat j) ≠ 0 ↔ (kk = 16 ∨ (kk < 16 ∧ (((m 98) kk.toNatClampNeg >>> (Int32.ofNat j &&& 31)) &&& 1) = 1)))) → ((aa 69 6).toInt < 512) → (zWn (m 94 7) (m 98) (m 101) (m 102) (m 108) l5.toNatClampNeg l6.toNatClampNeg) → (zGW (T + 1) (m 94 55) (m 109)) → (qCo (m 94 58) (m 106) l5.toNatClampNeg) → ((m 107) l5.toNatClampNeg = 0) → ((m 109) l5.toNatClampNeg = 0) → zm X 9 198 183 142 [(0, .inr (.inr (some 94))), (2, .inl l2), (3, .inl l3), (4, .inl l4), (5, .inl l5), (6, .inl l6)] m P := by
  intro n
  induction n using Nat.strongRecOn with
  | _ n IH =>
    intro m l2 l3 l4 l5 l6 hmu hF hV hi0 hi1 hi2 hi3 hi4 hi5 hi6 hi7 hi8 hi9 hi10 hi11 hi12 hi13 r_L2n r_L3r r_PLq hi17 r_USn r_GUp r_OW r_GG r_QIb r_NS r_MGz r_MKb r_WTz r_BTS r_N6 r_WN r_GW r_COs r_HOs r_WIs
    refine g_183_142 l2 l3 l4 l5 l6 ?_
    have f1 : 0 ≤ (m 94 10).toInt ∧ (m 94 10).toInt ≤ 6 := rs_94_10 (m := m) hV
    have f2 : 0 ≤ (m 94 58).toInt ∧ (m 94 58).toInt ≤ 1 := rs_94_58 (m := m) hV
    have f3 : 0 ≤ (m 94 8).toInt ∧ (m 94 8).toInt ≤ 1 := rs_94_8 (m := m) hV
    have f4 : 0 ≤ (m 94 46).toInt ∧ (m 94 46).toInt ≤ 100000 := rs_94_46 (m := m) hV
    have b5 := i_bd l5
    first | have f6 : 0 ≤ (m 102 l5.toNatClampNeg).toInt ∧ (m 102 l5.toNatClampNeg).toInt ≤ 60 := ra_102 (m := m) hV (k := l5.toNatClampNeg) (i_ix (n := 3100) (by omega) (by omega)).2 | have b7 := i_bd (m 102 l5.toNatClampNeg)
    have b8 := i_bd l2
    have b9 := i_bd l6
    refine zd (fun (h10 : l2 ≤ l6) => ?_) (fun (h10 : ¬ l2 ≤ l6) => ?_)
    · skip
      have g11 := i_le h10
      have b12 := i_bd l3
      first | have e14 : ((m 94 46) + (1 : Int32)).toInt = (m 94 46).toInt + (1) := i_addk rfl (by omega) (by omega) | have b15 := i_bd ((m 94 46) + (1 : Int32))
      have hV13 : zV (ma_u m 94 46 ((m 94 46) + (1 : Int32))) := us_94_46 hV (by omega) (by omega)
      have hV16 : zV (ma_u (ma_u m 94 46 ((m 94 46) + (1 : Int32))) 94 44 ((m 94 44) + (1 : Int32))) := uf_94_44 hV13
      have hV17 : zV (ma_u (ma_u (ma_u m 94 46 ((m 94 46) + (1 : Int32))) 94 44 ((m 94 44) + (1 : Int32))) 94 45 ((m 94 45) + (l2 + (1 : Int32)))) := uf_94_45 hV16
      have b19 := i_bd l4
      first | have e20 : (l4 + l2).toInt = l4.toInt + l2.toInt := i_add (by omega) (by omega) | have b21 := i_bd (l4 + l2)
      first | have e22 : ((l4 + l2) + (1 : Int32)).toInt = (l4 + l2).toInt + (1) := i_addk rfl (by omega) (by omega) | have b23 := i_bd ((l4 + l2) + (1 : Int32))
      have hV18 : zV (ma_u (ma_u (ma_u (ma_u m 94 46 ((m 94 46) + (1 : Int32))) 94 44 ((m 94 44) + (1 : Int32))) 94 45 ((m 94 45) + (l2 + (1 : Int32)))) 94 62 ((l4 + l2) + (1 : Int32))) := us_94_62 hV17 (by omega) (by omega)
      refine sp_238r0 (T := (T + 1)) (aa := (aMd (aAd (zRs aa (nn + (1 : Int32)).toInt) (m 94 46) (zFn (m 94 46) kk (nn + (1 : Int32)) l4) LL) (m 94 46))) (l3) (l5) hV18 (by omega) (by omega) (by omega) (by omega) (show (m 94 10).toInt = 0 ∧ (m 94 58).toInt = 0 from by omega) (show zW (m 94 7) (m 98) (m 101) (m 102) (m 108) from by first | (exact Wn_end r_WN (by rw [tn_cast (x := l6) (by omega)]; omega)) | (exfalso; omega; done) | (exfalso; contradiction; done)) r_GW (show zGU (T + 1) ((m 94 46) + (1 : Int32)) (m 99) from by first | (exact GUp_end r_GUp (by omega)) | (exfalso; omega; done) | (exfalso; contradiction; done)) r_OW r_GG (show qRB (m 99) (m 100) (m 98) (m 101) (m 102) (m 103) (m 107) (m 108) (m 109) (m 111) (m 112) (m 113) (m 114) (m 94 55) ((m 94 46) + (1 : Int32)) (m 94 11) (m 94 12) ((l4 + l2) + (1 : Int32)) (m 94 17) (m 94 9) (aMd (aAd (zRs aa (nn + (1 : Int32)).toInt) (m 94 46) (zFn (m 94 46) kk (nn + (1 : Int32)) l4) LL) (m 94 46)) from by first | (exact RB_ns r_NS (Ne_o0 r_QIb r_PLq (by omega) (by omega) (by omega) r_NS.1.2.2.2.2.2.2.2.1 (by omega)) (Ad_of (b := (zRs aa (nn + (1 : Int32)).toInt)) (y := (m 94 46)) (kk := kk) (w := nn) (pl := l4) (L := LL) (by omega) (by omega) (by omega) (by omega) (by omega)) (tn_lt (by omega) (by omega)) r_HOs r_WIs (fun j hj => r_WN.2.1 j (by have := tn_cast (x := l6) (by omega); omega)) (fun j hj => (r_BTS j hj).trans (by unfold qIr; rw [r_NS.2.2.2.1])) rfl (by rw [r_L2n, Int32.add_assoc])) | (exfalso; omega; done) | (exfalso; contradiction; done)) (show qI (aMd (aAd (zRs aa (nn + (1 : Int32)).toInt) (m 94 46) (zFn (m 94 46) kk (nn + (1 : Int32)) l4) LL) (m 94 46)) from by first | (exact I_ad (Ne_o0 r_QIb r_PLq (by omega) (by omega) (by omega) r_NS.1.2.2.2.2.2.2.2.1 (by omega)) (Ad_of (b := (zRs aa (nn + (1 : Int32)).toInt)) (y := (m 94 46)) (kk := kk) (w := nn) (pl := l4) (L := LL) (by omega) (by omega) (by omega) (by omega) (by omega))) | (exfalso; omega; done) | (exfalso; contradiction; done)) (show qMG (m 94 58) (m 106) (m 115) (m 94 57) (m 94 56) (m 99) (m 100) (aMd (aAd (zRs aa (nn + (1 : Int32)).toInt) (m 94 46) (zFn (m 94 46) kk (nn + (1 : Int32)) l4) LL) (m 94 46)) from by first | (exact MG_ad r_NS (Ne_o0 r_QIb r_PLq (by omega) (by omega) (by omega) r_NS.1.2.2.2.2.2.2.2.1 (by omega)) (Ad_of (b := (zRs aa (nn + (1 : Int32)).toInt)) (y := (m 94 46)) (kk := kk) (w := nn) (pl := l4) (L := LL) (by omega) (by omega) (by omega) (by omega) (by omega)) A7_of r_MKb r_MGz r_COs) | (exfalso; omega; done) | (exfalso; contradiction; done)) (show (aMd (aAd (zRs aa (nn + (1 : Int32)).toInt) (m 94 46) (zFn (m 94 46) kk (nn + (1 : Int32)) l4) LL) (m 94 46)) 87 8 = (m 94 58) from by first | (exact ((Ad_of (b := (zRs aa (nn + (1 : Int32)).toInt)) (y := (m 94 46)) (kk := kk) (w := nn) (pl := l4) (L := LL) (by omega) (by omega) (by omega) (by omega) (by omega)).2.2.2.2.2.2.1 8 (by decide)).trans r_MKb) | (exfalso; omega; done) | (exfalso; contradiction; done)) (show ((m 94 45) + (l2 + (1 : Int32))).toInt = sm (zbU (m 99)) (m 102) 3100 from by first | (have q := WT_ad r_WTz (tn_lt (by omega) (by omega)) r_USn (fun t ht => ra_102 hV ht); rw [r_NS.2.2.2.2.1, ← r_L2n] at q; exact q; done) | (exfalso; omega; done) | (exfalso; contradiction; done)) (show qU (m 99) l5 from by first | (exact Or.inr ⟨by omega, r_USn⟩) | (assumption; done) | (exact ow5.1) | (exact ow3.1) | (exfalso; omega; done) | (exfalso; contradiction; done)) (show qMS (m 94 58) (aMd (aAd (zRs aa (nn + (1 : Int32)).toInt) (m 94 46) (zFn (m 94 46) kk (nn + (1 : Int32)) l4) LL) (m 94 46)) (qNo (m 100) l5) from by first | (rw [No_y (by omega), r_NS.2.2.1]; exact MS_ad (Ne_o0 r_QIb r_PLq (by omega) (by omega) (by omega) r_NS.1.2.2.2.2.2.2.2.1 (by omega)) A7_of r_MKb; done) | (exfalso; omega; done) | (exfalso; contradiction; done)) (fun m1 hV_m1 p0_m1 p1_m1 p2_m1 p3_m1 p4_m1 p5_m1 p6_m1 p7_m1 p8_m1 => zmv_n ?_)
      have p0_m1 : zGW (T + 1) (m1 94 55) (m1 109) := p0_m1
      have p1_m1 : zGU (T + 1) ((m 94 46) + (1 : Int32)) (m1 99) := p1_m1
      have p2_m1 : zOw (m1 99) (m 103) (m1 111) := p2_m1
      have p3_m1 : zGG (m 94 58) (m1 94 56) (m 94 57) (m1 106) := p3_m1
      have p4_m1 : qRB (m1 99) (m 100) (m 98) (m 101) (m 102) (m 103) (m 107) (m 108) (m1 109) (m1 111) (m1 112) (m1 113) (m1 114) (m1 94 55) ((m 94 46) + (1 : Int32)) (m 94 11) (m 94 12) ((l4 + l2) + (1 : Int32)) (m 94 17) (m 94 9) (aRt (aMd (aAd (zRs aa (nn + (1 : Int32)).toInt) (m 94 46) (zFn (m 94 46) kk (nn + (1 : Int32)) l4) LL) (m 94 46)) l3 (qNo (m 100) l5)) := p4_m1
      have p5_m1 : qI (aRt (aMd (aAd (zRs aa (nn + (1 : Int32)).toInt) (m 94 46) (zFn (m 94 46) kk (nn + (1 : Int32)) l4) LL) (m 94 46)) l3 (qNo (m 100) l5)) := p5_m1
      have p6_m1 : qMG (m 94 58) (m1 106) (m1 115) (m 94 57) (m1 94 56) (m1 99) (m 100) (aRt (aMd (aAd (zRs aa (nn + (1 : Int32)).toInt) (m 94 46) (zFn (m 94 46) kk (nn + (1 : Int32)) l4) LL) (m 94 46)) l3 (qNo (m 100) l5)) := p6_m1
      have p7_m1 : (aRt (aMd (aAd (zRs aa (nn + (1 : Int32)).toInt) (m 94 46) (zFn (m 94 46) kk (nn + (1 : Int32)) l4) LL) (m 94 46)) l3 (qNo (m 100) l5)) 87 8 = (m 94 58) := p7_m1
      have p8_m1 : (m1 94 45).toInt = sm (zbU (m1 99)) (m 102) 3100 := p8_m1
      have hg24 : (0 ≤ l5 ∧ l5.toNatClampNeg < 3100) := i_ix (by omega) (by omega)
      refine ⟨hg24, ?_⟩
      try have e21 : (l2 + (1 : Int32)).toInt = l2.toInt + 1 := i_addk rfl (by omega) (by omega)
      try have gun := GU_nu p1_m1
      first | have f25 : 0 ≤ (m 100 l5.toNatClampNeg).toInt ∧ (m 100 l5.toNatClampNeg).toInt ≤ 100000 := ra_100 (m := m) hV (k := l5.toNatClampNeg) (i_ix (n := 3100) (by omega) (by omega)).2 | have b26 := i_bd (m 100 l5.toNatClampNeg)
      exact K ((m 100 l5.toNatClampNeg)) _ (zF_zov (zF_u (zF_u (zF_u (zF_u hF rfl) rfl) rfl) rfl) ws_238_183) hV_m1 (show zW (m 94 7) (m 98) (m 101) (m 102) (m 108) from by first | (exact Wn_end r_WN (by rw [tn_cast (x := l6) (by omega)]; omega)) | (exfalso; omega; done) | (exfalso; contradiction; done)) p0_m1 p1_m1 p2_m1 p3_m1 (show qRB (m1 99) (m 100) (m 98) (m 101) (m 102) (m 103) (m 107) (m 108) (m1 109) (m1 111) (m1 112) (m1 113) (m1 114) (m1 94 55) ((m 94 46) + (1 : Int32)) (m 94 11) (m 94 12) ((l4 + l2) + (1 : Int32)) (m 94 17) (m 94 9) (sMk aa kk nn LL r1) from by first | (have e := p4_m1; rw [No_y (by omega), r_NS.2.2.1, r_L3r] at e; rw [(sMk_2 (a := aa) (b := (zRs aa (nn + (1 : Int32)).toInt)) (kd := kk) (wd := nn) (rt := r1) (L := LL) (pl := l4) (y := (m 94 46)) r_N6 rfl (qE r_PLq) (by omega) r_NS.1.2.2.2.2.2.2.2.1.symm).1]; exact e; done) | (exfalso; omega; done) | (exfalso; contradiction; done)) (show qI (sMk aa kk nn LL r1) from by first | (have e := p5_m1; rw [No_y (by omega), r_NS.2.2.1, r_L3r] at e; rw [(sMk_2 (a := aa) (b := (zRs aa (nn + (1 : Int32)).toInt)) (kd := kk) (wd := nn) (rt := r1) (L := LL) (pl := l4) (y := (m 94 46)) r_N6 rfl (qE r_PLq) (by omega) r_NS.1.2.2.2.2.2.2.2.1.symm).1]; exact e; done) | (exfalso; omega; done) | (exfalso; contradiction; done)) (show qMG (m 94 58) (m1 106) (m1 115) (m 94 57) (m1 94 56) (m1 99) (m 100) (sMk aa kk nn LL r1) from by first | (have e := p6_m1; rw [No_y (by omega), r_NS.2.2.1, r_L3r] at e; rw [(sMk_2 (a := aa) (b := (zRs aa (nn + (1 : Int32)).toInt)) (kd := kk) (wd := nn) (rt := r1) (L := LL) (pl := l4) (y := (m 94 46)) r_N6 rfl (qE r_PLq) (by omega) r_NS.1.2.2.2.2.2.2.2.1.symm).1]; exact e; done) | (exfalso; omega; done) | (exfalso; contradiction; done)) (show (sMk aa kk nn LL r1) 87 8 = (m 94 58) from by first | (have e := p7_m1; rw [No_y (by omega), r_NS.2.2.1, r_L3r] at e; rw [(sMk_2 (a := aa) (b := (zRs aa (nn + (1 : Int32)).toInt)) (kd := kk) (wd := nn) (rt := r1) (L := LL) (pl := l4) (y := (m 94 46)) r_N6 rfl (qE r_PLq) (by omega) r_NS.1.2.2.2.2.2.2.2.1.symm).1]; exact e; done) | (exfalso; omega; done) | (exfalso; contradiction; done)) p8_m1 (show (m 94 58).toInt = 0 from by omega) (show (m 100 l5.toNatClampNeg) = sMn aa nn from by first | (rw [r_NS.2.2.1]; exact (sMk_2 (a := aa) (b := (zRs aa (nn + (1 : Int32)).toInt)) (kd := kk) (wd := nn) (rt := r1) (L := LL) (pl := l4) (y := (m 94 46)) r_N6 rfl (qE r_PLq) (by omega) r_NS.1.2.2.2.2.2.2.2.1.symm).2.symm; done) | (exfalso; omega; done) | (exfalso; contradiction; done))
    · skip
      have g27 := i_nle h10
      have hg28 : (0 ≤ l5 ∧ l5.toNatClampNeg < 3100) := i_ix (by omega) (by omega)
      refine ⟨hg28, ?_⟩
      first | have f29 : 0 ≤ (m 101 l5.toNatClampNeg).toInt ∧ (m 101 l5.toNatClampNeg).toInt ≤ 17 := ra_101 (m := m) hV (k := l5.toNatClampNeg) (i_ix (n := 3100) (by omega) (by omega)).2 | have b30 := i_bd (m 101 l5.toNatClampNeg)
      have li31 : (16 : Int32).toInt = 16 := rfl
      refine zd (fun (h32 : (m 101 l5.toNatClampNeg) = (16 : Int32)) => ?_) (fun (h32 : ¬ (m 101 l5.toNatClampNeg) = (16 : Int32)) => ?_)
      · skip
        have g33 := i_eq h32
        have li34 : (60 : Int32).toInt = 60 := rfl
        first | have e35 : (l5 * (60 : Int32)).toInt = l5.toInt * 60 := i_mulk rfl (by omega) (by omega) | have b36 := i_bd (l5 * (60 : Int32))
        first | have e37 : ((l5 * (60 : Int32)) + l6).toInt = (l5 * (60 : Int32)).toInt + l6.toInt := i_add (by omega) (by omega) | have b38 := i_bd ((l5 * (60 : Int32)) + l6)
        have hg39 : (0 ≤ ((l5 * (60 : Int32)) + l6) ∧ ((l5 * (60 : Int32)) + l6).toNatClampNeg < 186000) := i_ix (by omega) (by omega)
        refine ⟨hg39, ?_⟩
        try have e21 : (l2 + (1 : Int32)).toInt = l2.toInt + 1 := i_addk rfl (by omega) (by omega)
        have hV40 : zV (ma_u m 108 ((l5 * (60 : Int32)) + l6).toNatClampNeg (-1 : Int32)) := ua_108 hV
        have b41 := i_bd l3
        have b42 := i_bd l4
        first | have e43 : (l6 + (1 : Int32)).toInt = l6.toInt + (1) := i_addk rfl (by omega) (by omega) | have b44 := i_bd (l6 + (1 : Int32))
        exact IH (61 - (l6 + (1 : Int32)).toInt).toNat (by omega) _ (l2) (l3) (l4) (l5) ((l6 + (1 : Int32))) rfl (zF_u hF rfl) hV40 (by omega) (by omega) (by omega) (by omega) (by omega) (by omega) (by omega) (by omega) (by omega) (by omega) (by omega) (show (m 94 10).toInt = 0 ∧ (m 94 58).toInt = 0 from by omega) (show (m 94 8).toInt = 1 from by omega) (show (m 94 46).toInt ≤ 511 from by omega) r_L2n r_L3r r_PLq (show (m 102 l5.toNatClampNeg).toInt = l2.toInt from by omega) r_USn r_GUp r_OW r_GG r_QIb (show qNs (m 99) (m 100) (m 98) (m 101) (m 102) (m 103) (m 107) ((ma_u m 108 ((l5 * (60 : Int32)) + l6).toNatClampNeg (-1 : Int32)) 108) (m 109) (m 111) (m 112) (m 113) (m 114) (m 94 55) (m 94 46) (m 94 11) (m 94 12) (m 94 62) (m 94 17) (m 94 9) (zRs aa (nn + (1 : Int32)).toInt) l5.toNatClampNeg (m 94 46) kk nn l4 from by first | (exact NS_h r_NS (fun _ _ => rfl) (fun _ _ => rfl) (fun t ht hne i hi => (zrf_oth (ix_word (by omega) (by omega) (by omega) (by omega)) (by rw [tn_eq]; omega) (fun t ht => (ra_102 hV ht).2)) t i hne ht hi)) | (exfalso; omega; done) | (exfalso; contradiction; done)) r_MGz r_MKb r_WTz r_BTS r_N6 (show zWn (m 94 7) (m 98) (m 101) (m 102) ((ma_u m 108 ((l5 * (60 : Int32)) + l6).toNatClampNeg (-1 : Int32)) 108) l5.toNatClampNeg (l6 + (1 : Int32)).toNatClampNeg from by first | (exact Wn_put r_WN (zrf_oth (ix_word (by omega) (by omega) (by omega) (by omega)) (by rw [tn_eq]; omega) (fun t ht => (ra_102 hV ht).2)) (zrf_bef (ix_word (by omega) (by omega) (by omega) (by omega))) (zrf_m1 (ix_word (by omega) (by omega) (by omega) (by omega)) rfl) (tn_succ (by omega) (by omega))) | (exact Wn_put r_WN (zrf_oth (ix_word (by omega) (by omega) (by omega) (by omega)) (by rw [tn_eq]; omega) (fun t ht => (ra_102 hV ht).2)) (zrf_bef (ix_word (by omega) (by omega) (by omega) (by omega))) (zrf_nr rfl (by omega) (by assumption) (fun z => by first | exact absurd (Int32.lt_iff_toInt_lt.mp z.1) (by omega) | exact absurd z.2 (by assumption))) (tn_succ (by omega) (by omega))) | (exfalso; omega; done) | (exfalso; contradiction; done)) r_GW r_COs r_HOs r_WIs
      · skip
        have g45 := i_ne h32
        have hg46 : (0 ≤ l5 ∧ l5.toNatClampNeg < 3100) := i_ix (by omega) (by omega)
        refine ⟨hg46, ?_⟩
        refine zd (fun (h47 : (16 : Int32) ≤ (m 101 l5.toNatClampNeg)) => ?_) (fun (h47 : ¬ (16 : Int32) ≤ (m 101 l5.toNatClampNeg)) => ?_)
        · skip
          have g48 := i_le h47
          have li49 : (60 : Int32).toInt = 60 := rfl
          first | have e50 : (l5 * (60 : Int32)).toInt = l5.toInt * 60 := i_mulk rfl (by omega) (by omega) | have b51 := i_bd (l5 * (60 : Int32))
          first | have e52 : ((l5 * (60 : Int32)) + l6).toInt = (l5 * (60 : Int32)).toInt + l6.toInt := i_add (by omega) (by omega) | have b53 := i_bd ((l5 * (60 : Int32)) + l6)
          have hg54 : (0 ≤ ((l5 * (60 : Int32)) + l6) ∧ ((l5 * (60 : Int32)) + l6).toNatClampNeg < 186000) := i_ix (by omega) (by omega)
          refine ⟨hg54, ?_⟩
          try have e21 : (l2 + (1 : Int32)).toInt = l2.toInt + 1 := i_addk rfl (by omega) (by omega)
          have hV55 : zV (ma_u m 108 ((l5 * (60 : Int32)) + l6).toNatClampNeg (0 : Int32)) := ua_108 hV
          have b56 := i_bd l3
          have b57 := i_bd l4
          first | have e58 : (l6 + (1 : Int32)).toInt = l6.toInt + (1) := i_addk rfl (by omega) (by omega) | have b59 := i_bd (l6 + (1 : Int32))
          exact IH (61 - (l6 + (1 : Int32)).toInt).toNat (by omega) _ (l2) (l3) (l4) (l5) ((l6 + (1 : Int32))) rfl (zF_u hF rfl) hV55 (by omega) (by omega) (by omega) (by omega) (by omega) (by omega) (by omega) (by omega) (by omega) (by omega) (by omega) (show (m 94 10).toInt = 0 ∧ (m 94 58).toInt = 0 from by omega) (show (m 94 8).toInt = 1 from by omega) (show (m 94 46).toInt ≤ 511 from by omega) r_L2n r_L3r r_PLq (show (m 102 l5.toNatClampNeg).toInt = l2.toInt from by omega) r_USn r_GUp r_OW r_GG r_QIb (show qNs (m 99) (m 100) (m 98) (m 101) (m 102) (m 103) (m 107) ((ma_u m 108 ((l5 * (60 : Int32)) + l6).toNatClampNeg (0 : Int32)) 108) (m 109) (m 111) (m 112) (m 113) (m 114) (m 94 55) (m 94 46) (m 94 11) (m 94 12) (m 94 62) (m 94 17) (m 94 9) (zRs aa (nn + (1 : Int32)).toInt) l5.toNatClampNeg (m 94 46) kk nn l4 from by first | (exact NS_h r_NS (fun _ _ => rfl) (fun _ _ => rfl) (fun t ht hne i hi => (zrf_oth (ix_word (by omega) (by omega) (by omega) (by omega)) (by rw [tn_eq]; omega) (fun t ht => (ra_102 hV ht).2)) t i hne ht hi)) | (exfalso; omega; done) | (exfalso; contradiction; done)) r_MGz r_MKb r_WTz r_BTS r_N6 (show zWn (m 94 7) (m 98) (m 101) (m 102) ((ma_u m 108 ((l5 * (60 : Int32)) + l6).toNatClampNeg (0 : Int32)) 108) l5.toNatClampNeg (l6 + (1 : Int32)).toNatClampNeg from by first | (exact Wn_put r_WN (zrf_oth (ix_word (by omega) (by omega) (by omega) (by omega)) (by rw [tn_eq]; omega) (fun t ht => (ra_102 hV ht).2)) (zrf_bef (ix_word (by omega) (by omega) (by omega) (by omega))) (zrf_m1 (ix_word (by omega) (by omega) (by omega) (by omega)) rfl) (tn_succ (by omega) (by omega))) | (exact Wn_put r_WN (zrf_oth (ix_word (by omega) (by omega) (by omega) (by omega)) (by rw [tn_eq]; omega) (fun t ht => (ra_102 hV ht).2)) (zrf_bef (ix_word (by omega) (by omega) (by omega) (by omega))) (zrf_nr rfl (by omega) (by assumption) (fun z => by first | exact absurd (Int32.lt_iff_toInt_lt.mp z.1) (by omega) | exact absurd z.2 (by assumption))) (tn_succ (by omega) (by omega))) | (exfalso; omega; done) | (exfalso; contradiction; done)) r_GW r_COs r_HOs r_WIs
        · skip
          have g60 := i_nle h47
          have hg61 : (0 ≤ l5 ∧ l5.toNatClampNeg < 3100) := i_ix (by omega) (by omega)
          refine ⟨hg61, ?_⟩
          have hg62 : (0 ≤ (m 101 l5.toNatClampNeg) ∧ (m 101 l5.toNatClampNeg).toNatClampNeg < 16) := i_ix (by omega) (by omega)
          refine ⟨hg62, ?_⟩
          have b63 := i_bd (((m 98 (m 101 l5.toNatClampNeg).toNatClampNeg) >>> (l6 &&& 31)) &&& (1 : Int32))
          have li64 : (1 : Int32).toInt = 1 := rfl
          refine zd (fun (h65 : (((m 98 (m 101 l5.toNatClampNeg).toNatClampNeg) >>> (l6 &&& 31)) &&& (1 : Int32)) = (1 : Int32)) => ?_) (fun (h65 : ¬ (((m 98 (m 101 l5.toNatClampNeg).toNatClampNeg) >>> (l6 &&& 31)) &&& (1 : Int32)) = (1 : Int32)) => ?_)
          · skip
            have g66 := i_eq h65
            have li67 : (60 : Int32).toInt = 60 := rfl
            first | have e68 : (l5 * (60 : Int32)).toInt = l5.toInt * 60 := i_mulk rfl (by omega) (by omega) | have b69 := i_bd (l5 * (60 : Int32))
            first | have e70 : ((l5 * (60 : Int32)) + l6).toInt = (l5 * (60 : Int32)).toInt + l6.toInt := i_add (by omega) (by omega) | have b71 := i_bd ((l5 * (60 : Int32)) + l6)
            have hg72 : (0 ≤ ((l5 * (60 : Int32)) + l6) ∧ ((l5 * (60 : Int32)) + l6).toNatClampNeg < 186000) := i_ix (by omega) (by omega)
            refine ⟨hg72, ?_⟩
            try have e21 : (l2 + (1 : Int32)).toInt = l2.toInt + 1 := i_addk rfl (by omega) (by omega)
            have hV73 : zV (ma_u m 108 ((l5 * (60 : Int32)) + l6).toNatClampNeg (-1 : Int32)) := ua_108 hV
            have b74 := i_bd l3
            have b75 := i_bd l4
            first | have e76 : (l6 + (1 : Int32)).toInt = l6.toInt + (1) := i_addk rfl (by omega) (by omega) | have b77 := i_bd (l6 + (1 : Int32))
            exact IH (61 - (l6 + (1 : Int32)).toInt).toNat (by omega) _ (l2) (l3) (l4) (l5) ((l6 + (1 : Int32))) rfl (zF_u hF rfl) hV73 (by omega) (by omega) (by omega) (by omega) (by omega) (by omega) (by omega) (by omega) (by omega) (by omega) (by omega) (show (m 94 10).toInt = 0 ∧ (m 94 58).toInt = 0 from by omega) (show (m 94 8).toInt = 1 from by omega) (show (m 94 46).toInt ≤ 511 from by omega) r_L2n r_L3r r_PLq (show (m 102 l5.toNatClampNeg).toInt = l2.toInt from by omega) r_USn r_GUp r_OW r_GG r_QIb (show qNs (m 99) (m 100) (m 98) (m 101) (m 102) (m 103) (m 107) ((ma_u m 108 ((l5 * (60 : Int32)) + l6).toNatClampNeg (-1 : Int32)) 108) (m 109) (m 111) (m 112) (m 113) (m 114) (m 94 55) (m 94 46) (m 94 11) (m 94 12) (m 94 62) (m 94 17) (m 94 9) (zRs aa (nn + (1 : Int32)).toInt) l5.toNatClampNeg (m 94 46) kk nn l4 from by first | (exact NS_h r_NS (fun _ _ => rfl) (fun _ _ => rfl) (fun t ht hne i hi => (zrf_oth (ix_word (by omega) (by omega) (by omega) (by omega)) (by rw [tn_eq]; omega) (fun t ht => (ra_102 hV ht).2)) t i hne ht hi)) | (exfalso; omega; done) | (exfalso; contradiction; done)) r_MGz r_MKb r_WTz r_BTS r_N6 (show zWn (m 94 7) (m 98) (m 101) (m 102) ((ma_u m 108 ((l5 * (60 : Int32)) + l6).toNatClampNeg (-1 : Int32)) 108) l5.toNatClampNeg (l6 + (1 : Int32)).toNatClampNeg from by first | (exact Wn_put r_WN (zrf_oth (ix_word (by omega) (by omega) (by omega) (by omega)) (by rw [tn_eq]; omega) (fun t ht => (ra_102 hV ht).2)) (zrf_bef (ix_word (by omega) (by omega) (by omega) (by omega))) (zrf_m1 (ix_word (by omega) (by omega) (by omega) (by omega)) rfl) (tn_succ (by omega) (by omega))) | (exact Wn_put r_WN (zrf_oth (ix_word (by omega) (by omega) (by omega) (by omega)) (by rw [tn_eq]; omega) (fun t ht => (ra_102 hV ht).2)) (zrf_bef (ix_word (by omega) (by omega) (by omega) (by omega))) (zrf_nr rfl (by omega) (by assumption) (fun z => by first | exact absurd (Int32.lt_iff_toInt_lt.mp z.1) (by omega) | exact absurd z.2 (by assumption))) (tn_succ (by omega) (by omega))) | (exfalso; omega; done) | (exfalso; contradiction; done)) r_GW r_COs r_HOs r_WIs
          · skip
            have g78 := i_ne h65
            have li79 : (60 : Int32).toInt = 60 := rfl
            first | have e80 : (l5 * (60 : Int32)).toInt = l5.toInt * 60 := i_mulk rfl (by omega) (by omega) | have b81 := i_bd (l5 * (60 : Int32))
            first | have e82 : ((l5 * (60 : Int32)) + l6).toInt = (l5 * (60 : Int32)).toInt + l6.toInt := i_add (by omega) (by omega) | have b83 := i_bd ((l5 * (60 : Int32)) + l6)
            have hg84 : (0 ≤ ((l5 * (60 : Int32)) + l6) ∧ ((l5 * (60 : Int32)) + l6).toNatClampNeg < 186000) := i_ix (by omega) (by omega)
            refine ⟨hg84, ?_⟩
            try have e21 : (l2 + (1 : Int32)).toInt = l2.toInt + 1 := i_addk rfl (by omega) (by omega)
            have hV85 : zV (ma_u m 108 ((l5 * (60 : Int32)) + l6).toNatClampNeg (0 : Int32)) := ua_108 hV
            have b86 := i_bd l3
            have b87 := i_bd l4
            first | have e88 : (l6 + (1 : Int32)).toInt = l6.toInt + (1) := i_addk rfl (by omega) (by omega) | have b89 := i_bd (l6 + (1 : Int32))
            exact IH (61 - (l6 + (1 : Int32)).toInt).toNat (by omega) _ (l2) (l3) (l4) (l5) ((l6 + (1 : Int32))) rfl (zF_u hF rfl) hV85 (by omega) (by omega) (by omega) (by omega) (by omega) (by omega) (by omega) (by omega) (by omega) (by omega) (by omega) (show (m 94 10).toInt = 0 ∧ (m 94 58).toInt = 0 from by omega) (show (m 94 8).toInt = 1 from by omega) (show (m 94 46).toInt ≤ 511 from by omega) r_L2n r_L3r r_PLq (show (m 102 l5.toNatClampNeg).toInt = l2.toInt from by omega) r_USn r_GUp r_OW r_GG r_QIb (show qNs (m 99) (m 100) (m 98) (m 101) (m 102) (m 103) (m 107) ((ma_u m 108 ((l5 * (60 : Int32)) + l6).toNatClampNeg (0 : Int32)) 108) (m 109) (m 111) (m 112) (m 113) (m 114) (m 94 55) (m 94 46) (m 94 11) (m 94 12) (m 94 62) (m 94 17) (m 94 9) (zRs aa (nn + (1 : Int32)).toInt) l5.toNatClampNeg (m 94 46) kk nn l4 from by first | (exact NS_h r_NS (fun _ _ => rfl) (fun _ _ => rfl) (fun t ht hne i hi => (zrf_oth (ix_word (by omega) (by omega) (by omega) (by omega)) (by rw [tn_eq]; omega) (fun t ht => (ra_102 hV ht).2)) t i hne ht hi)) | (exfalso; omega; done) | (exfalso; contradiction; done)) r_MGz r_MKb r_WTz r_BTS r_N6 (show zWn (m 94 7) (m 98) (m 101) (m 102) ((ma_u m 108 ((l5 * (60 : Int32)) + l6).toNatClampNeg (0 : Int32)) 108) l5.toNatClampNeg (l6 + (1 : Int32)).toNatClampNeg from by first | (exact Wn_put r_WN (zrf_oth (ix_word (by omega) (by omega) (by omega) (by omega)) (by rw [tn_eq]; omega) (fun t ht => (ra_102 hV ht).2)) (zrf_bef (ix_word (by omega) (by omega) (by omega) (by omega))) (zrf_m1 (ix_word (by omega) (by omega) (by omega) (by omega)) rfl) (tn_succ (by omega) (by omega))) | (exact Wn_put r_WN (zrf_oth (ix_word (by omega) (by omega) (by omega) (by omega)) (by rw [tn_eq]; omega) (fun t ht => (ra_102 hV ht).2)) (zrf_bef (ix_word (by omega) (by omega) (by omega) (by omega))) (zrf_nr rfl (by omega) (by assumption) (fun z => by first | exact absurd (Int32.lt_iff_toInt_lt.mp z.1) (by omega) | exact absurd z.2 (by assumption))) (tn_succ (by omega) (by omega))) | (exfalso; omega; done) | (exfalso; contradiction; done)) r_GW r_COs r_HOs r_WIs
set_option maxHeartbeats 8000000 in
theorem lp_183r0_123 {X : Nat × (Nat → Int32)} {P : Option ma_V → (Nat → Nat → Int32) → Prop} {T : Nat} {aa : Nat→Nat→Int32} {LL : Int64} {kk : Int32} {nn : Int32} {r1 : Int32} {m0 : Nat → Nat → Int32} (h0 : zV m0) (K : ∀ v m₉, zF wr_183 m0 m₉ → zV m₉ → (zW (m₉ 94 7) (m₉ 98) (m₉ 101) (m₉ 102) (m₉ 108)) → (zGW (T + 1) (m₉ 94 55) (m₉ 109)) → (zGU (T + 1) (m₉ 94 46) (m₉ 99)) → (zOw (m₉ 99) (m₉ 103) (m₉ 111)) → (zGG (m₉ 94 58) (m₉ 94 56) (m₉ 94 57) (m₉ 106)) → (qRB (m₉ 99) (m₉ 100) (m₉ 98) (m₉ 101) (m₉ 102) (m₉ 103) (m₉ 107) (m₉ 108) (m₉ 109) (m₉ 111) (m₉ 112) (m₉ 113) (m₉ 114) (m₉ 94 55) (m₉ 94 46) (m₉ 94 11) (m₉ 94 12) (m₉ 94 62) (m₉ 94 17) (m₉ 94 9) (sMk aa kk nn LL r1)) → (qI (sMk aa kk nn LL r1)) → (qMG (m₉ 94 58) (m₉ 106) (m₉ 115) (m₉ 94 57) (m₉ 94 56) (m₉ 99) (m₉ 100) (sMk aa kk nn LL r1)) → ((sMk aa kk nn LL r1) 87 8 = (m₉ 94 58)) → ((m₉ 94 45).toInt = sm (zbU (m₉ 99)) (m₉ 102) 3100) → ((m₉ 94 58).toInt = 0) → (v = sMn aa nn) → P (some (.inl v)) m₉) : ∀ (n : Nat) (m : Nat → Nat → Int32) (l2 : Int32) (l3 : Int32) (l4 : Int32) (l5 : Int32), ((0 : Int)).toNat = n → zF wr_183 m0 m → zV m → (l2.toInt = nn.toInt) → (0 ≤ l2.toInt) → (l2.toInt ≤ 60) → (0 ≤ l3.toInt) → (l3.toInt ≤ 15) → (0 ≤ l4.toInt) → (l4.toInt ≤ 1500) → (0 ≤ l5.toInt) → (l5.toInt ≤ 3099) → (T + 1 ≤ 512) → ((m 94 10).toInt = 0 ∧ (m 94 58).toInt = 0) → ((m 94 8).toInt = 1) → ((m 94 46).toInt ≤ 511) → (l2 = nn) → (l3 = r1) → (qEq l4.toInt (zRp aa (nn + (1 : Int32)).toInt)) → ((m 102 l5.toNatClampNeg).toInt = l2.toInt) → ((m 99) l5.toNatClampNeg ≠ 0) → (zGUp T (m 94 46) (m 99)) → (zOw (m 99) (m 103) (m 111)) → (zGG (m 94 58) (m 94 56) (m 94 57) (m 106)) → (qI (zRs aa (nn + (1 : Int32)).toInt)) → (qNs (m 99) (m 100) (m 98) (m 101) (m 102) (m 103) (m 107) (m 108) (m 109) (m 111) (m 112) (m 113) (m 114) (m 94 55) (m 94 46) (m 94 11) (m 94 12) (m 94 62) (m 94 17) (m 94 9) (zRs aa (nn + (1 : Int32)).toInt) l5.toNatClampNeg (m 94 46) kk nn l4) → (qMG (m 94 58) (m 106) (m 115) (m 94 57) (m 94 56) (zmk (m 99) l5.toNatClampNeg) (m 100) (zRs aa (nn + (1 : Int32)).toInt)) → ((zRs aa (nn + (1 : Int32)).toInt) 87 8 = (m 94 58)) → ((m 94 45).toInt = sm (zbU (zmk (m 99) l5.toNatClampNeg)) (m 102) 3100) → (∀ j : Nat, (j : Int) < nn.toInt → (zbit LL (Int32.ofNat j) ≠ 0 ↔ (kk = 16 ∨ (kk < 16 ∧ (((m 98) kk.toNatClampNeg >>> (Int32.ofNat j &&& 31)) &&& 1) = 1)))) → ((aa 69 6).toInt < 512) → (zWn (m 94 7) (m 98) (m 101) (m 102) (m 108) l5.toNatClampNeg (0 : Int32).toNatClampNeg) → (zGW T (m 94 55) (m 109)) → (qCo (m 94 58) (m 106) l5.toNatClampNeg) → zm X 9 198 183 123 [(0, .inr (.inr (some 94))), (2, .inl l2), (3, .inl l3), (4, .inl l4), (5, .inl l5)] m P := by
  intro n
  induction n using Nat.strongRecOn with
  | _ n IH =>
    intro m l2 l3 l4 l5 hmu hF hV hi0 hi1 hi2 hi3 hi4 hi5 hi6 hi7 hi8 hi9 hi10 hi11 hi12 r_L2n r_L3r r_PLq hi16 r_USn r_GUp r_OW r_GG r_QIb r_NS r_MGz r_MKb r_WTz r_BTS r_N6 r_WN r_GW r_COs
    refine g_183_123 l2 l3 l4 l5 ?_
    have f1 : 0 ≤ (m 94 10).toInt ∧ (m 94 10).toInt ≤ 6 := rs_94_10 (m := m) hV
    have f2 : 0 ≤ (m 94 58).toInt ∧ (m 94 58).toInt ≤ 1 := rs_94_58 (m := m) hV
    have f3 : 0 ≤ (m 94 8).toInt ∧ (m 94 8).toInt ≤ 1 := rs_94_8 (m := m) hV
    have f4 : 0 ≤ (m 94 46).toInt ∧ (m 94 46).toInt ≤ 100000 := rs_94_46 (m := m) hV
    have b5 := i_bd l5
    first | have f6 : 0 ≤ (m 102 l5.toNatClampNeg).toInt ∧ (m 102 l5.toNatClampNeg).toInt ≤ 60 := ra_102 (m := m) hV (k := l5.toNatClampNeg) (i_ix (n := 3100) (by omega) (by omega)).2 | have b7 := i_bd (m 102 l5.toNatClampNeg)
    have hg8 : (0 ≤ l5 ∧ l5.toNatClampNeg < 3100) := i_ix (by omega) (by omega)
    refine ⟨hg8, ?_⟩
    have hg9 : (0 ≤ l5 ∧ l5.toNatClampNeg < 3100) := i_ix (by omega) (by omega)
    refine ⟨hg9, ?_⟩
    try have e21 : (l2 + (1 : Int32)).toInt = l2.toInt + 1 := i_addk rfl (by omega) (by omega)
    have hV10 : zV (ma_u m 107 l5.toNatClampNeg (0 : Int32)) := ua_107 hV
    have li12 : (0 : Int32).toInt = 0 := rfl
    have hV11 : zV (ma_u (ma_u m 107 l5.toNatClampNeg (0 : Int32)) 109 l5.toNatClampNeg (0 : Int32)) := ua_109 hV10 (by omega) (by omega)
    have b13 := i_bd l2
    have b14 := i_bd l3
    have b15 := i_bd l4
    exact lp_183r0_142 (kk := kk) (nn := nn) (r1 := r1) h0 K _ _ (l2) (l3) (l4) (l5) ((0 : Int32)) rfl (zF_u (zF_u hF rfl) rfl) hV11 (by omega) (by omega) (by omega) (by omega) (by omega) (by omega) (by omega) (by omega) (by omega) (by omega) (by omega) (show (m 94 10).toInt = 0 ∧ (m 94 58).toInt = 0 from by omega) (show (m 94 8).toInt = 1 from by omega) (show (m 94 46).toInt ≤ 511 from by omega) r_L2n r_L3r r_PLq (show (m 102 l5.toNatClampNeg).toInt = l2.toInt from by omega) r_USn r_GUp r_OW r_GG r_QIb (show qNs (m 99) (m 100) (m 98) (m 101) (m 102) (m 103) ((ma_u m 107 l5.toNatClampNeg (0 : Int32)) 107) (m 108) ((ma_u m 109 l5.toNatClampNeg (0 : Int32)) 109) (m 111) (m 112) (m 113) (m 114) (m 94 55) (m 94 46) (m 94 11) (m 94 12) (m 94 62) (m 94 17) (m 94 9) (zRs aa (nn + (1 : Int32)).toInt) l5.toNatClampNeg (m 94 46) kk nn l4 from by first | (exact NS_h r_NS (fun t ht => mu_ne ht) (fun t ht => mu_ne ht) (fun _ _ _ _ _ => rfl)) | (exfalso; omega; done) | (exfalso; contradiction; done)) r_MGz r_MKb r_WTz r_BTS r_N6 r_WN (show zGW (T + 1) (m 94 55) ((ma_u m 109 l5.toNatClampNeg (0 : Int32)) 109) from by first | (exact GW_up (GW_0 r_GW) (by omega)) | (exfalso; omega; done) | (exfalso; contradiction; done)) r_COs (show ((ma_u m 107 l5.toNatClampNeg (0 : Int32)) 107) l5.toNatClampNeg = 0 from by first | (exact mu_self) | (exfalso; omega; done) | (exfalso; contradiction; done)) (show ((ma_u m 109 l5.toNatClampNeg (0 : Int32)) 109) l5.toNatClampNeg = 0 from by first | (exact mu_self) | (exfalso; omega; done) | (exfalso; contradiction; done))
set_option maxHeartbeats 8000000 in
theorem lp_183r0_88 {X : Nat × (Nat → Int32)} {P : Option ma_V → (Nat → Nat → Int32) → Prop} {T : Nat} {aa : Nat→Nat→Int32} {LL : Int64} {kk : Int32} {nn : Int32} {r1 : Int32} {m0 : Nat → Nat → Int32} (h0 : zV m0) (K : ∀ v m₉, zF wr_183 m0 m₉ → zV m₉ → (zW (m₉ 94 7) (m₉ 98) (m₉ 101) (m₉ 102) (m₉ 108)) → (zGW (T + 1) (m₉ 94 55) (m₉ 109)) → (zGU (T + 1) (m₉ 94 46) (m₉ 99)) → (zOw (m₉ 99) (m₉ 103) (m₉ 111)) → (zGG (m₉ 94 58) (m₉ 94 56) (m₉ 94 57) (m₉ 106)) → (qRB (m₉ 99) (m₉ 100) (m₉ 98) (m₉ 101) (m₉ 102) (m₉ 103) (m₉ 107) (m₉ 108) (m₉ 109) (m₉ 111) (m₉ 112) (m₉ 113) (m₉ 114) (m₉ 94 55) (m₉ 94 46) (m₉ 94 11) (m₉ 94 12) (m₉ 94 62) (m₉ 94 17) (m₉ 94 9) (sMk aa kk nn LL r1)) → (qI (sMk aa kk nn LL r1)) → (qMG (m₉ 94 58) (m₉ 106) (m₉ 115) (m₉ 94 57) (m₉ 94 56) (m₉ 99) (m₉ 100) (sMk aa kk nn LL r1)) → ((sMk aa kk nn LL r1) 87 8 = (m₉ 94 58)) → ((m₉ 94 45).toInt = sm (zbU (m₉ 99)) (m₉ 102) 3100) → ((m₉ 94 58).toInt = 0) → (v = sMn aa nn) → P (some (.inl v)) m₉) : ∀ (n : Nat) (m : Nat → Nat → Int32) (l2 : Int32) (l3 : Int32) (l4 : Int32) (l5 : Int32), ((0 : Int)).toNat = n → zF wr_183 m0 m → zV m → (l2.toInt = nn.toInt) → (0 ≤ l2.toInt) → (l2.toInt ≤ 60) → (0 ≤ l3.toInt) → (l3.toInt ≤ 15) → (0 ≤ l4.toInt) → (l4.toInt ≤ 1500) → (0 ≤ l5.toInt) → (l5.toInt ≤ 3099) → (T + 1 ≤ 512) → ((m 94 10).toInt = 0 ∧ (m 94 58).toInt = 0) → ((m 94 8).toInt = 1) → ((m 94 46).toInt ≤ 511) → (l2 = nn) → (l3 = r1) → (qEq l4.toInt (zRp aa (nn + (1 : Int32)).toInt)) → ((m 102 l5.toNatClampNeg).toInt = l2.toInt) → ((m 99) l5.toNatClampNeg ≠ 0) → (zGUp T (m 94 46) (m 99)) → (zOw (m 99) (m 103) (m 111)) → (zGG (m 94 58) (m 94 56) (m 94 57) (m 106)) → (qI (zRs aa (nn + (1 : Int32)).toInt)) → (qNs (m 99) (m 100) (m 98) (m 101) (m 102) (m 103) (m 107) (m 108) (m 109) (m 111) (m 112) (m 113) (m 114) (m 94 55) (m 94 46) (m 94 11) (m 94 12) (m 94 62) (m 94 17) (m 94 9) (zRs aa (nn + (1 : Int32)).toInt) l5.toNatClampNeg (m 94 46) kk nn l4) → (qMG (m 94 58) (m 106) (m 115) (m 94 57) (m 94 56) (zmk (m 99) l5.toNatClampNeg) (m 100) (zRs aa (nn + (1 : Int32)).toInt)) → ((zRs aa (nn + (1 : Int32)).toInt) 87 8 = (m 94 58)) → ((m 94 45).toInt = sm (zbU (zmk (m 99) l5.toNatClampNeg)) (m 102) 3100) → (∀ j : Nat, (j : Int) < nn.toInt → (zbit LL (Int32.ofNat j) ≠ 0 ↔ (kk = 16 ∨ (kk < 16 ∧ (((m 98) kk.toNatClampNeg >>> (Int32.ofNat j &&& 31)) &&& 1) = 1)))) → ((aa 69 6).toInt < 512) → (zWn (m 94 7) (m 98) (m 101) (m 102) (m 108) l5.toNatClampNeg (0 : Int32).toNatClampNeg) → (zGW T (m 94 55) (m 109)) → zm X 9 198 183 88 [(0, .inr (.inr (some 94))), (2, .inl l2), (3, .inl l3), (4, .inl l4), (5, .inl l5)] m P := by
  intro n
  induction n using Nat.strongRecOn with
  | _ n IH =>
    intro m l2 l3 l4 l5 hmu hF hV hi0 hi1 hi2 hi3 hi4 hi5 hi6 hi7 hi8 hi9 hi10 hi11 hi12 r_L2n r_L3r r_PLq hi16 r_USn r_GUp r_OW r_GG r_QIb r_NS r_MGz r_MKb r_WTz r_BTS r_N6 r_WN r_GW
    refine g_183_88 l2 l3 l4 l5 ?_
    have f1 : 0 ≤ (m 94 10).toInt ∧ (m 94 10).toInt ≤ 6 := rs_94_10 (m := m) hV
    have f2 : 0 ≤ (m 94 58).toInt ∧ (m 94 58).toInt ≤ 1 := rs_94_58 (m := m) hV
    have f3 : 0 ≤ (m 94 8).toInt ∧ (m 94 8).toInt ≤ 1 := rs_94_8 (m := m) hV
    have f4 : 0 ≤ (m 94 46).toInt ∧ (m 94 46).toInt ≤ 100000 := rs_94_46 (m := m) hV
    have b5 := i_bd l5
    first | have f6 : 0 ≤ (m 102 l5.toNatClampNeg).toInt ∧ (m 102 l5.toNatClampNeg).toInt ≤ 60 := ra_102 (m := m) hV (k := l5.toNatClampNeg) (i_ix (n := 3100) (by omega) (by omega)).2 | have b7 := i_bd (m 102 l5.toNatClampNeg)
    have hg8 : (0 ≤ l5 ∧ l5.toNatClampNeg < 3100) := i_ix (by omega) (by omega)
    refine ⟨hg8, ?_⟩
    have hg9 : (0 ≤ l5 ∧ l5.toNatClampNeg < 3100) := i_ix (by omega) (by omega)
    refine ⟨hg9, ?_⟩
    have li10 : (0 : Int32).toInt = 0 := rfl
    refine zd (fun (h11 : (m 94 58) = (0 : Int32)) => ?_) (fun (h11 : ¬ (m 94 58) = (0 : Int32)) => ?_)
    · skip
      have g12 := i_eq h11
      have hg13 : (0 ≤ l5 ∧ l5.toNatClampNeg < 3100) := i_ix (by omega) (by omega)
      refine ⟨hg13, ?_⟩
      try have e21 : (l2 + (1 : Int32)).toInt = l2.toInt + 1 := i_addk rfl (by omega) (by omega)
      have hV14 : zV (ma_u m 104 l5.toNatClampNeg (0 : Int32)) := ua_104 hV
      have hV15 : zV (ma_u (ma_u m 104 l5.toNatClampNeg (0 : Int32)) 105 l5.toNatClampNeg (0 : Int32)) := ua_105 hV14
      have hV16 : zV (ma_u (ma_u (ma_u m 104 l5.toNatClampNeg (0 : Int32)) 105 l5.toNatClampNeg (0 : Int32)) 106 l5.toNatClampNeg (0 : Int32)) := ua_106 hV15
      have b17 := i_bd l2
      have b18 := i_bd l3
      have b19 := i_bd l4
      exact lp_183r0_123 (kk := kk) (nn := nn) (r1 := r1) h0 K _ _ (l2) (l3) (l4) (l5) rfl (zF_u (zF_u (zF_u hF rfl) rfl) rfl) hV16 (by omega) (by omega) (by omega) (by omega) (by omega) (by omega) (by omega) (by omega) (by omega) (by omega) (show (m 94 10).toInt = 0 ∧ (m 94 58).toInt = 0 from by omega) (show (m 94 8).toInt = 1 from by omega) (show (m 94 46).toInt ≤ 511 from by omega) r_L2n r_L3r r_PLq (show (m 102 l5.toNatClampNeg).toInt = l2.toInt from by omega) r_USn r_GUp r_OW (show zGG (m 94 58) (m 94 56) (m 94 57) ((ma_u m 106 l5.toNatClampNeg (0 : Int32)) 106) from by first | (exact fun z => G1_dark0 (r_GG z) (by decide)) | (exact fun z => absurd z (by omega)) | (exact fun z => absurd z (by decide)) | (exact fun z => absurd z (by omega)) | (exfalso; omega; done) | (exfalso; contradiction; done)) r_QIb r_NS (show qMG (m 94 58) ((ma_u m 106 l5.toNatClampNeg (0 : Int32)) 106) (m 115) (m 94 57) (m 94 56) (zmk (m 99) l5.toNatClampNeg) (m 100) (zRs aa (nn + (1 : Int32)).toInt) from by first | (exact MG_1 r_MGz (fun t ht => mu_ne ht)) | (exfalso; omega; done) | (exfalso; contradiction; done)) r_MKb r_WTz r_BTS r_N6 r_WN r_GW (show qCo (m 94 58) ((ma_u m 106 l5.toNatClampNeg (0 : Int32)) 106) l5.toNatClampNeg from by first | (exact fun z => absurd (by omega) z) | (exact fun _ => mu_self) | (exfalso; omega; done) | (exfalso; contradiction; done))
    · skip
      have g20 := i_ne h11
      have hg21 : (0 ≤ l5 ∧ l5.toNatClampNeg < 3100) := i_ix (by omega) (by omega)
      refine ⟨hg21, ?_⟩
      try have e21 : (l2 + (1 : Int32)).toInt = l2.toInt + 1 := i_addk rfl (by omega) (by omega)
      have hV22 : zV (ma_u m 104 l5.toNatClampNeg (0 : Int32)) := ua_104 hV
      have hV23 : zV (ma_u (ma_u m 104 l5.toNatClampNeg (0 : Int32)) 105 l5.toNatClampNeg (0 : Int32)) := ua_105 hV22
      have hV24 : zV (ma_u (ma_u (ma_u m 104 l5.toNatClampNeg (0 : Int32)) 105 l5.toNatClampNeg (0 : Int32)) 106 l5.toNatClampNeg (2 : Int32)) := ua_106 hV23
      have b25 := i_bd l2
      have b26 := i_bd l3
      have b27 := i_bd l4
      exact lp_183r0_123 (kk := kk) (nn := nn) (r1 := r1) h0 K _ _ (l2) (l3) (l4) (l5) rfl (zF_u (zF_u (zF_u hF rfl) rfl) rfl) hV24 (by omega) (by omega) (by omega) (by omega) (by omega) (by omega) (by omega) (by omega) (by omega) (by omega) (show (m 94 10).toInt = 0 ∧ (m 94 58).toInt = 0 from by omega) (show (m 94 8).toInt = 1 from by omega) (show (m 94 46).toInt ≤ 511 from by omega) r_L2n r_L3r r_PLq (show (m 102 l5.toNatClampNeg).toInt = l2.toInt from by omega) r_USn r_GUp r_OW (show zGG (m 94 58) (m 94 56) (m 94 57) ((ma_u m 106 l5.toNatClampNeg (2 : Int32)) 106) from by first | (exact fun z => G1_dark0 (r_GG z) (by decide)) | (exact fun z => absurd z (by omega)) | (exact fun z => absurd z (by decide)) | (exact fun z => absurd z (by omega)) | (exfalso; omega; done) | (exfalso; contradiction; done)) r_QIb r_NS (show qMG (m 94 58) ((ma_u m 106 l5.toNatClampNeg (2 : Int32)) 106) (m 115) (m 94 57) (m 94 56) (zmk (m 99) l5.toNatClampNeg) (m 100) (zRs aa (nn + (1 : Int32)).toInt) from by first | (exact MG_1 r_MGz (fun t ht => mu_ne ht)) | (exfalso; omega; done) | (exfalso; contradiction; done)) r_MKb r_WTz r_BTS r_N6 r_WN r_GW (show qCo (m 94 58) ((ma_u m 106 l5.toNatClampNeg (2 : Int32)) 106) l5.toNatClampNeg from by first | (exact fun z => absurd (by omega) z) | (exact fun _ => mu_self) | (exfalso; omega; done) | (exfalso; contradiction; done))
set_option maxHeartbeats 8000000 in
theorem lp_183r0_19 {X : Nat × (Nat → Int32)} {P : Option ma_V → (Nat → Nat → Int32) → Prop} {T : Nat} {aa : Nat→Nat→Int32} {LL : Int64} {kk : Int32} {nn : Int32} {r1 : Int32} {m0 : Nat → Nat → Int32} (h0 : zV m0) (K : ∀ v m₉, zF wr_183 m0 m₉ → zV m₉ → (zW (m₉ 94 7) (m₉ 98) (m₉ 101) (m₉ 102) (m₉ 108)) → (zGW (T + 1) (m₉ 94 55) (m₉ 109)) → (zGU (T + 1) (m₉ 94 46) (m₉ 99)) → (zOw (m₉ 99) (m₉ 103) (m₉ 111)) → (zGG (m₉ 94 58) (m₉ 94 56) (m₉ 94 57) (m₉ 106)) → (qRB (m₉ 99) (m₉ 100) (m₉ 98) (m₉ 101) (m₉ 102) (m₉ 103) (m₉ 107) (m₉ 108) (m₉ 109) (m₉ 111) (m₉ 112) (m₉ 113) (m₉ 114) (m₉ 94 55) (m₉ 94 46) (m₉ 94 11) (m₉ 94 12) (m₉ 94 62) (m₉ 94 17) (m₉ 94 9) (sMk aa kk nn LL r1)) → (qI (sMk aa kk nn LL r1)) → (qMG (m₉ 94 58) (m₉ 106) (m₉ 115) (m₉ 94 57) (m₉ 94 56) (m₉ 99) (m₉ 100) (sMk aa kk nn LL r1)) → ((sMk aa kk nn LL r1) 87 8 = (m₉ 94 58)) → ((m₉ 94 45).toInt = sm (zbU (m₉ 99)) (m₉ 102) 3100) → ((m₉ 94 58).toInt = 0) → (v = sMn aa nn) → P (some (.inl v)) m₉) : ∀ (n : Nat) (m : Nat → Nat → Int32) (l1 : Int32) (l2 : Int32) (l3 : Int32) (l4 : Int32) (l5 : Int32), (3100 - l5.toInt).toNat = n → zF wr_183 m0 m → zV m → (l2.toInt = nn.toInt) → (0 ≤ l5.toInt) → (l5.toInt ≤ 3100) → (0 ≤ l4.toInt) → (l4.toInt ≤ 1500) → (0 ≤ l2.toInt) → (l2.toInt ≤ 60) → (0 ≤ l3.toInt) → (l3.toInt ≤ 15) → (0 ≤ l1.toInt) → (l1.toInt ≤ 17) → (T + 1 ≤ 512) → (16 ≤ l1.toInt ∨ l1.toInt < (m 94 7).toInt) → (zW (m 94 7) (m 98) (m 101) (m 102) (m 108)) → (zGW T (m 94 55) (m 109)) → (zGU T (m 94 46) (m 99)) → (zOw (m 99) (m 103) (m 111)) → (zGG (m 94 58) (m 94 56) (m 94 57) (m 106)) → ((m 94 10).toInt = 0 ∧ (m 94 58).toInt = 0) → ((m 94 8).toInt = 1) → (qRB (m 99) (m 100) (m 98) (m 101) (m 102) (m 103) (m 107) (m 108) (m 109) (m 111) (m 112) (m 113) (m 114) (m 94 55) (m 94 46) (m 94 11) (m 94 12) (m 94 62) (m 94 17) (m 94 9) (zRs aa (nn + (1 : Int32)).toInt)) → (qI (zRs aa (nn + (1 : Int32)).toInt)) → (qMG (m 94 58) (m 106) (m 115) (m 94 57) (m 94 56) (m 99) (m 100) (zRs aa (nn + (1 : Int32)).toInt)) → ((zRs aa (nn + (1 : Int32)).toInt) 87 8 = (m 94 58)) → ((m 94 45).toInt = sm (zbU (m 99)) (m 102) 3100) → (∀ j : Nat, (j : Int) < l5.toInt → (m 99) j ≠ 0) → (l1 = kk) → (l2 = nn) → (l3 = r1) → (qEq l4.toInt (zRp aa (nn + (1 : Int32)).toInt)) → (∀ j : Nat, (j : Int) < nn.toInt → (zbit LL (Int32.ofNat j) ≠ 0 ↔ (kk = 16 ∨ (kk < 16 ∧ (((m 98) kk.toNatClampNeg >>> (Int32.ofNat j &&& 31)) &&& 1) = 1)))) → ((aa 69 6).toInt < 512) → zm X 9 198 183 19 [(0, .inr (.inr (some 94))), (1, .inl l1), (2, .inl l2), (3, .inl l3), (4, .inl l4), (5, .inl l5)] m P := by
  intro n
  induction n using Nat.strongRecOn with
  | _ n IH =>
    intro m l1 l2 l3 l4 l5 hmu hF hV hi0 hi1 hi2 hi3 hi4 hi5 hi6 hi7 hi8 hi9 hi10 hi11 hi12 r_W r_GW r_GU r_OW r_GG hi18 hi19 r_RB r_QI r_MG r_MK r_WTS r_AU r_L1k r_L2n r_L3r r_PLq r_BTS r_N6
    refine g_183_19 l1 l2 l3 l4 l5 ?_
    have f1 : 0 ≤ (m 94 7).toInt ∧ (m 94 7).toInt ≤ 16 := rs_94_7 (m := m) hV
    have f2 : 0 ≤ (m 94 10).toInt ∧ (m 94 10).toInt ≤ 6 := rs_94_10 (m := m) hV
    have f3 : 0 ≤ (m 94 58).toInt ∧ (m 94 58).toInt ≤ 1 := rs_94_58 (m := m) hV
    have f4 : 0 ≤ (m 94 8).toInt ∧ (m 94 8).toInt ≤ 1 := rs_94_8 (m := m) hV
    have b5 := i_bd l5
    try have gk := AU_room r_AU r_GU (by omega)
    have hg6 : (0 ≤ l5 ∧ l5.toNatClampNeg < 3100) := i_ix (by omega) (by omega)
    refine ⟨hg6, ?_⟩
    first | have f7 : 0 ≤ (m 99 l5.toNatClampNeg).toInt ∧ (m 99 l5.toNatClampNeg).toInt ≤ 1 := ra_99 (m := m) hV (k := l5.toNatClampNeg) (i_ix (n := 3100) (by omega) (by omega)).2 | have b8 := i_bd (m 99 l5.toNatClampNeg)
    have li9 : (0 : Int32).toInt = 0 := rfl
    refine zd (fun (h10 : (m 99 l5.toNatClampNeg) = (0 : Int32)) => ?_) (fun (h10 : ¬ (m 99 l5.toNatClampNeg) = (0 : Int32)) => ?_)
    · skip
      have g11 := i_eq h10
      try have gk := AU_room r_AU r_GU (by omega)
      have hg12 : (0 ≤ l5 ∧ l5.toNatClampNeg < 3100) := i_ix (by omega) (by omega)
      refine ⟨hg12, ?_⟩
      have hg13 : (0 ≤ l5 ∧ l5.toNatClampNeg < 3100) := i_ix (by omega) (by omega)
      refine ⟨hg13, ?_⟩
      have hg14 : (0 ≤ l5 ∧ l5.toNatClampNeg < 3100) := i_ix (by omega) (by omega)
      refine ⟨hg14, ?_⟩
      have hg15 : (0 ≤ l5 ∧ l5.toNatClampNeg < 3100) := i_ix (by omega) (by omega)
      refine ⟨hg15, ?_⟩
      have hg16 : (0 ≤ l5 ∧ l5.toNatClampNeg < 3100) := i_ix (by omega) (by omega)
      refine ⟨hg16, ?_⟩
      have b17 := i_bd l4
      have hg18 : (0 ≤ l4 ∧ l4.toNatClampNeg < 4600) := i_ix (by omega) (by omega)
      refine ⟨hg18, ?_⟩
      try have gk := AU_room r_AU r_GU (by omega)
      try have e21 : (l2 + (1 : Int32)).toInt = l2.toInt + 1 := i_addk rfl (by omega) (by omega)
      try have gun := GU_nu r_GU
      have li20 : (1 : Int32).toInt = 1 := rfl
      have hV19 : zV (ma_u m 99 l5.toNatClampNeg (1 : Int32)) := ua_99 hV (by omega) (by omega)
      have f22 : 0 ≤ (m 94 46).toInt ∧ (m 94 46).toInt ≤ 100000 := rs_94_46 (m := m) hV
      have hV21 : zV (ma_u (ma_u m 99 l5.toNatClampNeg (1 : Int32)) 100 l5.toNatClampNeg (m 94 46)) := ua_100 hV19 (by omega) (by omega)
      have b24 := i_bd l1
      have hV23 : zV (ma_u (ma_u (ma_u m 99 l5.toNatClampNeg (1 : Int32)) 100 l5.toNatClampNeg (m 94 46)) 101 l5.toNatClampNeg l1) := ua_101 hV21 (by omega) (by omega)
      have b26 := i_bd l2
      have hV25 : zV (ma_u (ma_u (ma_u (ma_u m 99 l5.toNatClampNeg (1 : Int32)) 100 l5.toNatClampNeg (m 94 46)) 101 l5.toNatClampNeg l1) 102 l5.toNatClampNeg l2) := ua_102 hV23 (by omega) (by omega)
      have hV27 : zV (ma_u (ma_u (ma_u (ma_u (ma_u m 99 l5.toNatClampNeg (1 : Int32)) 100 l5.toNatClampNeg (m 94 46)) 101 l5.toNatClampNeg l1) 102 l5.toNatClampNeg l2) 103 l5.toNatClampNeg l4) := ua_103 hV25 (by omega) (by omega)
      have hV28 : zV (ma_u (ma_u (ma_u (ma_u (ma_u (ma_u m 99 l5.toNatClampNeg (1 : Int32)) 100 l5.toNatClampNeg (m 94 46)) 101 l5.toNatClampNeg l1) 102 l5.toNatClampNeg l2) 103 l5.toNatClampNeg l4) 111 l4.toNatClampNeg l5) := ua_111 hV27 (by omega) (by omega)
      have b29 := i_bd l3
      have q30 : ((ma_u m 102 l5.toNatClampNeg l2) 102 l5.toNatClampNeg).toInt = l2.toInt := congrArg Int32.toInt mu_self
      first | have f31 : 0 ≤ ((ma_u m 102 l5.toNatClampNeg l2) 102 l5.toNatClampNeg).toInt ∧ ((ma_u m 102 l5.toNatClampNeg l2) 102 l5.toNatClampNeg).toInt ≤ 60 := ra_102 (m := (ma_u (ma_u (ma_u (ma_u m 99 l5.toNatClampNeg (1 : Int32)) 100 l5.toNatClampNeg (m 94 46)) 101 l5.toNatClampNeg l1) 102 l5.toNatClampNeg l2)) hV25 (k := l5.toNatClampNeg) (i_ix (n := 3100) (by omega) (by omega)).2 | have b32 := i_bd ((ma_u m 102 l5.toNatClampNeg l2) 102 l5.toNatClampNeg)
      exact lp_183r0_88 (kk := kk) (nn := nn) (r1 := r1) h0 K _ _ (l2) (l3) (l4) (l5) rfl (zF_u (zF_u (zF_u (zF_u (zF_u (zF_u hF rfl) rfl) rfl) rfl) rfl) rfl) hV28 (by omega) (by omega) (by omega) (by omega) (by omega) (by omega) (by omega) (by omega) (by omega) (by omega) (show (m 94 10).toInt = 0 ∧ (m 94 58).toInt = 0 from by omega) (show (m 94 8).toInt = 1 from by omega) (show (m 94 46).toInt ≤ 511 from by omega) r_L2n r_L3r r_PLq (show ((ma_u m 102 l5.toNatClampNeg l2) 102 l5.toNatClampNeg).toInt = l2.toInt from by omega) (show ((ma_u m 99 l5.toNatClampNeg (1 : Int32)) 99) l5.toNatClampNeg ≠ 0 from by first | (rw [mu_self]; decide; done) | (exfalso; omega; done) | (exfalso; contradiction; done)) (show zGUp T (m 94 46) ((ma_u m 99 l5.toNatClampNeg (1 : Int32)) 99) from by first | (exact GUp_0 r_GU (by omega)) | (exfalso; omega; done) | (exfalso; contradiction; done)) (show zOw ((ma_u m 99 l5.toNatClampNeg (1 : Int32)) 99) ((ma_u m 103 l5.toNatClampNeg l4) 103) ((ma_u m 111 l4.toNatClampNeg l5) 111) from by first | (exact Ow_new r_OW (by assumption) (fun t ht => mu_ne ht) (by rw [mu_self]; decide) (fun t ht => mu_ne ht) mu_self (by omega) (fun t ht => mu_ne ht) (by rw [mu_self])) | (exact Ow_rm r_OW (by decide) (tn_cast (by omega)).symm) | (exfalso; omega; done) | (exfalso; contradiction; done)) r_GG (show qI (zRs aa (nn + (1 : Int32)).toInt) from by first | (exact r_QI) | (exfalso; omega; done) | (exfalso; contradiction; done)) (show qNs ((ma_u m 99 l5.toNatClampNeg (1 : Int32)) 99) ((ma_u m 100 l5.toNatClampNeg (m 94 46)) 100) (m 98) ((ma_u m 101 l5.toNatClampNeg l1) 101) ((ma_u m 102 l5.toNatClampNeg l2) 102) ((ma_u m 103 l5.toNatClampNeg l4) 103) (m 107) (m 108) (m 109) ((ma_u m 111 l4.toNatClampNeg l5) 111) (m 112) (m 113) (m 114) (m 94 55) (m 94 46) (m 94 11) (m 94 12) (m 94 62) (m 94 17) (m 94 9) (zRs aa (nn + (1 : Int32)).toInt) l5.toNatClampNeg (m 94 46) kk nn l4 from by first | (exact NS_0 r_RB r_QI (z := nn.toInt + 1) (by omega) (Ne_o0 r_QI r_PLq (by omega) (by omega) (by omega) r_RB.2.2.2.2.2.2.2.1 (by have gun := GU_nu r_GU; omega)).2.2.2.2 (by assumption) (by rw [mu_self]; decide) (fun t ht => mu_ne ht) mu_self (fun t ht => mu_ne ht) (mu_self.trans r_L1k) (fun t ht => mu_ne ht) (mu_self.trans r_L2n) (fun t ht => mu_ne ht) mu_self (fun t ht => mu_ne ht) (mu_self.trans (ofN_tn (by omega)).symm) (fun t ht => mu_ne ht)) | (exfalso; omega; done) | (exfalso; contradiction; done)) (show qMG (m 94 58) (m 106) (m 115) (m 94 57) (m 94 56) (zmk ((ma_u m 99 l5.toNatClampNeg (1 : Int32)) 99) l5.toNatClampNeg) ((ma_u m 100 l5.toNatClampNeg (m 94 46)) 100) (zRs aa (nn + (1 : Int32)).toInt) from by first | (exact MG_0 r_MG (by assumption) (fun t ht => mu_ne ht) (fun t ht => mu_ne ht) (fun _ _ => rfl)) | (exfalso; omega; done) | (exfalso; contradiction; done)) (show (zRs aa (nn + (1 : Int32)).toInt) 87 8 = (m 94 58) from by first | (exact r_MK) | (exfalso; omega; done) | (exfalso; contradiction; done)) (show (m 94 45).toInt = sm (zbU (zmk ((ma_u m 99 l5.toNatClampNeg (1 : Int32)) 99) l5.toNatClampNeg)) ((ma_u m 102 l5.toNatClampNeg l2) 102) 3100 from by first | (exact WT_0 r_WTS (by assumption) (fun t ht => mu_ne ht) (fun t ht => mu_ne ht)) | (exfalso; omega; done) | (exfalso; contradiction; done)) r_BTS r_N6 (show zWn (m 94 7) (m 98) ((ma_u m 101 l5.toNatClampNeg l1) 101) ((ma_u m 102 l5.toNatClampNeg l2) 102) (m 108) l5.toNatClampNeg (0 : Int32).toNatClampNeg from by first | (exact Wn_0 r_W (fun t ht => mu_ne ht) (fun t ht => mu_ne ht) (by rw [mu_self]; assumption) rfl) | (exfalso; omega; done) | (exfalso; contradiction; done)) r_GW
    · skip
      have g33 := i_ne h10
      try have gk := AU_room r_AU r_GU (by omega)
      try have e21 : (l2 + (1 : Int32)).toInt = l2.toInt + 1 := i_addk rfl (by omega) (by omega)
      try have gun := GU_nu r_GU
      have b34 := i_bd l1
      have b35 := i_bd l2
      have b36 := i_bd l3
      have b37 := i_bd l4
      first | have e38 : (l5 + (1 : Int32)).toInt = l5.toInt + (1) := i_addk rfl (by omega) (by omega) | have b39 := i_bd (l5 + (1 : Int32))
      exact IH (3100 - (l5 + (1 : Int32)).toInt).toNat (by omega) _ (l1) (l2) (l3) (l4) ((l5 + (1 : Int32))) rfl hF hV (by omega) (by omega) (by omega) (by omega) (by omega) (by omega) (by omega) (by omega) (by omega) (by omega) (by omega) (by omega) (show 16 ≤ l1.toInt ∨ l1.toInt < (m 94 7).toInt from by omega) r_W r_GW r_GU r_OW r_GG (show (m 94 10).toInt = 0 ∧ (m 94 58).toInt = 0 from by omega) (show (m 94 8).toInt = 1 from by omega) r_RB r_QI r_MG r_MK r_WTS (show ∀ j : Nat, (j : Int) < (l5 + (1 : Int32)).toInt → (m 99) j ≠ 0 from by first | (exact AU_step r_AU (by omega) (by assumption) (by omega)) | (exfalso; omega; done) | (exfalso; contradiction; done)) r_L1k r_L2n r_L3r r_PLq r_BTS r_N6
set_option maxHeartbeats 8000000 in
theorem sp_183r0 {X : Nat × (Nat → Int32)} {P : Option ma_V → (Nat → Nat → Int32) → Prop} {T : Nat} {aa : Nat→Nat→Int32} {LL : Int64} {m : Nat → Nat → Int32} (kk : Int32) (nn : Int32) (r1 : Int32) (hV : zV m) (hpre0 : 0 ≤ nn.toInt) (hpre1 : nn.toInt ≤ 60) (hpre2 : 0 ≤ r1.toInt) (hpre3 : r1.toInt ≤ 15) (hpre4 : 0 ≤ kk.toInt) (hpre5 : kk.toInt ≤ 17) (hpre6 : T + 1 ≤ 512) (hpre7 : 16 ≤ kk.toInt ∨ kk.toInt < (m 94 7).toInt) (hpre8 : T ≤ 512) (r_W : zW (m 94 7) (m 98) (m 101) (m 102) (m 108)) (r_GW : zGW T (m 94 55) (m 109)) (r_GU : zGU T (m 94 46) (m 99)) (r_OW : zOw (m 99) (m 103) (m 111)) (r_GG : zGG (m 94 58) (m 94 56) (m 94 57) (m 106)) (hpre14 : (m 94 10).toInt = 0 ∧ (m 94 58).toInt = 0) (hpre15 : (m 94 8).toInt = 1) (r_RB : qRB (m 99) (m 100) (m 98) (m 101) (m 102) (m 103) (m 107) (m 108) (m 109) (m 111) (m 112) (m 113) (m 114) (m 94 55) (m 94 46) (m 94 11) (m 94 12) (m 94 62) (m 94 17) (m 94 9) aa) (r_QI : qI aa) (r_MG : qMG (m 94 58) (m 106) (m 115) (m 94 57) (m 94 56) (m 99) (m 100) aa) (r_MK : aa 87 8 = (m 94 58)) (r_WTS : (m 94 45).toInt = sm (zbU (m 99)) (m 102) 3100) (r_BTS : ∀ j : Nat, (j : Int) < nn.toInt → (zbit LL (Int32.ofNat j) ≠ 0 ↔ (kk = 16 ∨ (kk < 16 ∧ (((m 98) kk.toNatClampNeg >>> (Int32.ofNat j &&& 31)) &&& 1) = 1)))) (KZ : ∀ v m₉, zV (zov wr_183 m m₉) → (zW (m 94 7) (m 98) (m₉ 101) (m₉ 102) (m₉ 108)) → (zGW (T + 1) (m₉ 94 55) (m₉ 109)) → (zGU (T + 1) (m₉ 94 46) (m₉ 99)) → (zOw (m₉ 99) (m₉ 103) (m₉ 111)) → (zGG (m₉ 94 58) (m₉ 94 56) (m₉ 94 57) (m₉ 106)) → (qRB (m₉ 99) (m₉ 100) (m 98) (m₉ 101) (m₉ 102) (m₉ 103) (m₉ 107) (m₉ 108) (m₉ 109) (m₉ 111) (m₉ 112) (m₉ 113) (m₉ 114) (m₉ 94 55) (m₉ 94 46) (m 94 11) (m 94 12) (m₉ 94 62) (m 94 17) (m 94 9) (sMk aa kk nn LL r1)) → (qI (sMk aa kk nn LL r1)) → (qMG (m₉ 94 58) (m₉ 106) (m₉ 115) (m₉ 94 57) (m₉ 94 56) (m₉ 99) (m₉ 100) (sMk aa kk nn LL r1)) → ((sMk aa kk nn LL r1) 87 8 = (m₉ 94 58)) → ((m₉ 94 45).toInt = sm (zbU (m₉ 99)) (m₉ 102) 3100) → ((m₉ 94 58).toInt = 0) → (v = sMn aa nn) → P (some (.inl v)) (zov wr_183 m m₉)) : zm X 9 198 183 0 [(0, .inr (.inr (some 94))), (1, .inl kk), (2, .inl nn), (3, .inl r1)] m P := by
  have K : ∀ v m₉, zF wr_183 m m₉ → zV m₉ → (zW (m₉ 94 7) (m₉ 98) (m₉ 101) (m₉ 102) (m₉ 108)) → (zGW (T + 1) (m₉ 94 55) (m₉ 109)) → (zGU (T + 1) (m₉ 94 46) (m₉ 99)) → (zOw (m₉ 99) (m₉ 103) (m₉ 111)) → (zGG (m₉ 94 58) (m₉ 94 56) (m₉ 94 57) (m₉ 106)) → (qRB (m₉ 99) (m₉ 100) (m₉ 98) (m₉ 101) (m₉ 102) (m₉ 103) (m₉ 107) (m₉ 108) (m₉ 109) (m₉ 111) (m₉ 112) (m₉ 113) (m₉ 114) (m₉ 94 55) (m₉ 94 46) (m₉ 94 11) (m₉ 94 12) (m₉ 94 62) (m₉ 94 17) (m₉ 94 9) (sMk aa kk nn LL r1)) → (qI (sMk aa kk nn LL r1)) → (qMG (m₉ 94 58) (m₉ 106) (m₉ 115) (m₉ 94 57) (m₉ 94 56) (m₉ 99) (m₉ 100) (sMk aa kk nn LL r1)) → ((sMk aa kk nn LL r1) 87 8 = (m₉ 94 58)) → ((m₉ 94 45).toInt = sm (zbU (m₉ 99)) (m₉ 102) 3100) → ((m₉ 94 58).toInt = 0) → (v = sMn aa nn) → P (some (.inl v)) m₉ := by
    intro v m₉ hf z q0 q1 q2 q3 q4 q5 q6 q7 q8 q9 q10 q11
    have e := zov_eq hf
    rw [e] at z ⊢
    try rw [e] at q0
    try rw [e] at q1
    try rw [e] at q2
    try rw [e] at q3
    try rw [e] at q4
    try rw [e] at q5
    try rw [e] at q6
    try rw [e] at q7
    try rw [e] at q8
    try rw [e] at q9
    try rw [e] at q10
    try rw [e] at q11
    exact KZ v m₉ z q0 q1 q2 q3 q4 q5 q6 q7 q8 q9 q10 q11
  refine g_183_0 kk nn r1 ?_
  have f1 : 0 ≤ (m 94 7).toInt ∧ (m 94 7).toInt ≤ 16 := rs_94_7 (m := m) hV
  have f2 : 0 ≤ (m 94 10).toInt ∧ (m 94 10).toInt ≤ 6 := rs_94_10 (m := m) hV
  have f3 : 0 ≤ (m 94 58).toInt ∧ (m 94 58).toInt ≤ 1 := rs_94_58 (m := m) hV
  have f4 : 0 ≤ (m 94 8).toInt ∧ (m 94 8).toInt ≤ 1 := rs_94_8 (m := m) hV
  have b5 := i_bd nn
  first | have e6 : (nn + (1 : Int32)).toInt = nn.toInt + (1) := i_addk rfl (by omega) (by omega) | have b7 := i_bd (nn + (1 : Int32))
  refine sp_184r0 (aa := aa) ((nn + (1 : Int32))) hV (by omega) r_W r_GW r_GU r_OW r_GG (show (m 94 10).toInt = 0 ∧ (m 94 58).toInt = 0 from by omega) r_RB r_QI r_MG r_MK r_WTS (fun v2 m1 hV_m1 p0_m1 p1_m1 p2_m1 p3_m1 p4_m1 p5_m1 p6_m1 p7_m1 p8_m1 p9_m1 p10_m1 p11_m1 => zmi_n ?_)
  have p0_m1 : zGW T (m1 94 55) (m1 109) := p0_m1
  have p1_m1 : zGU T (m 94 46) (m1 99) := p1_m1
  have p2_m1 : zOw (m1 99) (m1 103) (m1 111) := p2_m1
  have p3_m1 : zGG (m1 94 58) (m1 94 56) (m1 94 57) (m1 106) := p3_m1
  have p4_m1 : -1 ≤ v2.toInt ∧ v2.toInt ≤ 1500 := p4_m1
  have p5_m1 : qRB (m1 99) (m 100) (m 98) (m 101) (m 102) (m1 103) (m 107) (m 108) (m1 109) (m1 111) (m 112) (m1 113) (m1 114) (m1 94 55) (m 94 46) (m 94 11) (m 94 12) (m 94 62) (m 94 17) (m 94 9) (zRs aa (nn + (1 : Int32)).toInt) := p5_m1
  have p6_m1 : qI (zRs aa (nn + (1 : Int32)).toInt) := p6_m1
  have p7_m1 : qMG (m1 94 58) (m1 106) (m1 115) (m1 94 57) (m1 94 56) (m1 99) (m 100) (zRs aa (nn + (1 : Int32)).toInt) := p7_m1
  have p8_m1 : (zRs aa (nn + (1 : Int32)).toInt) 87 8 = (m1 94 58) := p8_m1
  have p9_m1 : (m1 94 45).toInt = sm (zbU (m1 99)) (m 102) 3100 := p9_m1
  have p10_m1 : qEq v2.toInt (zRp aa (nn + (1 : Int32)).toInt) := p10_m1
  have p11_m1 : (m1 94 58).toInt = 0 := p11_m1
  have f8 : 0 ≤ (m1 94 58).toInt ∧ (m1 94 58).toInt ≤ 1 := rs_94_58 (m := (zov wr_184 m m1)) hV_m1
  have li9 : (0 : Int32).toInt = 0 := rfl
  have b10 := i_bd v2
  refine zd (fun (h11 : (0 : Int32) ≤ v2) => ?_) (fun (h11 : ¬ (0 : Int32) ≤ v2) => ?_)
  · skip
    have g12 := i_le h11
    try have e21 : (l2 + (1 : Int32)).toInt = l2.toInt + 1 := i_addk rfl (by omega) (by omega)
    try have gun := GU_nu p1_m1
    have b13 := i_bd kk
    have b14 := i_bd r1
    exact lp_183r0_19 (kk := kk) (nn := nn) (r1 := r1) hV K _ _ (kk) (nn) (r1) (v2) ((0 : Int32)) rfl (zF_zov zF_rfl ws_184_183) hV_m1 (by omega) (by omega) (by omega) (by omega) (by omega) (by omega) (by omega) (by omega) (by omega) (by omega) (by omega) (by omega) (show 16 ≤ kk.toInt ∨ kk.toInt < (m 94 7).toInt from by omega) r_W p0_m1 p1_m1 p2_m1 p3_m1 (show (m 94 10).toInt = 0 ∧ (m1 94 58).toInt = 0 from by omega) (show (m 94 8).toInt = 1 from by omega) p5_m1 p6_m1 p7_m1 p8_m1 p9_m1 (show ∀ j : Nat, (j : Int) < (0 : Int32).toInt → (m1 99) j ≠ 0 from by first | (intro j hj; omega; done) | (exfalso; omega; done) | (exfalso; contradiction; done)) (show kk = kk from by first | (exact rfl) | (exfalso; omega; done) | (exfalso; contradiction; done)) (show nn = nn from by first | (exact rfl) | (exfalso; omega; done) | (exfalso; contradiction; done)) (show r1 = r1 from by first | (exact rfl) | (exfalso; omega; done) | (exfalso; contradiction; done)) (show qEq v2.toInt (zRp aa (nn + (1 : Int32)).toInt) from by first | (exact p10_m1) | (exfalso; omega; done) | (exfalso; contradiction; done)) r_BTS (show (aa 69 6).toInt < 512 from by first | (exact (show (aa 69 6).toInt < 512 from by rw [r_RB.2.2.2.2.2.2.2.1]; have gun := GU_nu r_GU; omega)) | (exfalso; omega; done) | (exfalso; contradiction; done))
  · skip
    have g15 := i_nle h11
    try have e21 : (l2 + (1 : Int32)).toInt = l2.toInt + 1 := i_addk rfl (by omega) (by omega)
    try have gun := GU_nu p1_m1
    have li16 : (-1 : Int32).toInt = -1 := rfl
    exact K ((-1 : Int32)) _ (zF_zov zF_rfl ws_184_183) hV_m1 r_W (show zGW (T + 1) (m1 94 55) (m1 109) from by first | (exact GW_up p0_m1 (by omega)) | (exfalso; omega; done) | (exfalso; contradiction; done)) (show zGU (T + 1) (m 94 46) (m1 99) from by first | (exact GU_up p1_m1 (by omega)) | (exact GU_0 p1_m1) | (exfalso; omega; done) | (exfalso; contradiction; done)) p2_m1 p3_m1 (show qRB (m1 99) (m 100) (m 98) (m 101) (m 102) (m1 103) (m 107) (m 108) (m1 109) (m1 111) (m 112) (m1 113) (m1 114) (m1 94 55) (m 94 46) (m 94 11) (m 94 12) (m 94 62) (m 94 17) (m 94 9) (sMk aa kk nn LL r1) from by first | (rw [(sMk_1 (a := aa) (kd := kk) (wd := nn) (rt := r1) (L := LL) (show (aa 69 6).toInt < 512 from by rw [r_RB.2.2.2.2.2.2.2.1]; have gun := GU_nu r_GU; omega) ((qE p10_m1).symm.trans (by omega))).1]; exact p5_m1; done) | (exfalso; omega; done) | (exfalso; contradiction; done)) (show qI (sMk aa kk nn LL r1) from by first | (rw [(sMk_1 (a := aa) (kd := kk) (wd := nn) (rt := r1) (L := LL) (show (aa 69 6).toInt < 512 from by rw [r_RB.2.2.2.2.2.2.2.1]; have gun := GU_nu r_GU; omega) ((qE p10_m1).symm.trans (by omega))).1]; exact p6_m1; done) | (exfalso; omega; done) | (exfalso; contradiction; done)) (show qMG (m1 94 58) (m1 106) (m1 115) (m1 94 57) (m1 94 56) (m1 99) (m 100) (sMk aa kk nn LL r1) from by first | (rw [(sMk_1 (a := aa) (kd := kk) (wd := nn) (rt := r1) (L := LL) (show (aa 69 6).toInt < 512 from by rw [r_RB.2.2.2.2.2.2.2.1]; have gun := GU_nu r_GU; omega) ((qE p10_m1).symm.trans (by omega))).1]; exact p7_m1; done) | (exfalso; omega; done) | (exfalso; contradiction; done)) (show (sMk aa kk nn LL r1) 87 8 = (m1 94 58) from by first | (rw [(sMk_1 (a := aa) (kd := kk) (wd := nn) (rt := r1) (L := LL) (show (aa 69 6).toInt < 512 from by rw [r_RB.2.2.2.2.2.2.2.1]; have gun := GU_nu r_GU; omega) ((qE p10_m1).symm.trans (by omega))).1]; exact p8_m1; done) | (exfalso; omega; done) | (exfalso; contradiction; done)) p9_m1 (show (m1 94 58).toInt = 0 from by omega) (show (-1 : Int32) = sMn aa nn from by first | (exact (sMk_1 (a := aa) (kd := kk) (wd := nn) (rt := r1) (L := LL) (show (aa 69 6).toInt < 512 from by rw [r_RB.2.2.2.2.2.2.2.1]; have gun := GU_nu r_GU; omega) ((qE p10_m1).symm.trans (by omega))).2.symm) | (exfalso; omega; done) | (exfalso; contradiction; done))

/-! from 95.l13 -/
/-! the reference where it sweeps (written by wip/tools/gen20r.py) -/
set_option maxHeartbeats 8000000 in
theorem sp_181r0 {X : Nat × (Nat → Int32)} {P : Option ma_V → (Nat → Nat → Int32) → Prop} {T : Nat} {aa : Nat→Nat→Int32} {LL : Int64} {m : Nat → Nat → Int32} (kk : Int32) (r1 : Int32) (hV : zV m) (hpre0 : T + 1 ≤ 512) (hpre1 : T ≤ 512) (r_W : zW (m 94 7) (m 98) (m 101) (m 102) (m 108)) (r_GW : zGW T (m 94 55) (m 109)) (r_GU : zGU T (m 94 46) (m 99)) (r_OW : zOw (m 99) (m 103) (m 111)) (r_GG : zGG (m 94 58) (m 94 56) (m 94 57) (m 106)) (hpre7 : (m 94 10).toInt = 0 ∧ (m 94 58).toInt = 0) (hpre8 : (m 94 8).toInt = 1) (r_RB : qRB (m 99) (m 100) (m 98) (m 101) (m 102) (m 103) (m 107) (m 108) (m 109) (m 111) (m 112) (m 113) (m 114) (m 94 55) (m 94 46) (m 94 11) (m 94 12) (m 94 62) (m 94 17) (m 94 9) aa) (r_QI : qI aa) (r_MG : qMG (m 94 58) (m 106) (m 115) (m 94 57) (m 94 56) (m 99) (m 100) aa) (r_MK : aa 87 8 = (m 94 58)) (r_WTS : (m 94 45).toInt = sm (zbU (m 99)) (m 102) 3100) (r_BT1 : (0 ≤ kk.toInt ∧ kk.toInt < (m 94 7).toInt) → ∀ j : Nat, (j : Int) < ((m 97) kk.toNatClampNeg).toInt → (zbit LL (Int32.ofNat j) ≠ 0 ↔ (kk = 16 ∨ (kk < 16 ∧ (((m 98) kk.toNatClampNeg >>> (Int32.ofNat j &&& 31)) &&& 1) = 1)))) (KZ : ∀ v m₉, zV (zov wr_181 m m₉) → (zW (m 94 7) (m 98) (m₉ 101) (m₉ 102) (m₉ 108)) → (zGW (T + 1) (m₉ 94 55) (m₉ 109)) → (zGU (T + 1) (m₉ 94 46) (m₉ 99)) → (zOw (m₉ 99) (m₉ 103) (m₉ 111)) → (zGG (m₉ 94 58) (m₉ 94 56) (m₉ 94 57) (m₉ 106)) → (qRB (m₉ 99) (m₉ 100) (m 98) (m₉ 101) (m₉ 102) (m₉ 103) (m₉ 107) (m₉ 108) (m₉ 109) (m₉ 111) (m₉ 112) (m₉ 113) (m₉ 114) (m₉ 94 55) (m₉ 94 46) (m 94 11) (m 94 12) (m₉ 94 62) (m 94 17) (m 94 9) (qIf (0 ≤ kk.toInt ∧ kk.toInt < (m 94 7).toInt ∧ zSl r1) (sMk aa kk ((m 97) kk.toNatClampNeg) LL r1) aa)) → (qI (qIf (0 ≤ kk.toInt ∧ kk.toInt < (m 94 7).toInt ∧ zSl r1) (sMk aa kk ((m 97) kk.toNatClampNeg) LL r1) aa)) → (qMG (m₉ 94 58) (m₉ 106) (m₉ 115) (m₉ 94 57) (m₉ 94 56) (m₉ 99) (m₉ 100) (qIf (0 ≤ kk.toInt ∧ kk.toInt < (m 94 7).toInt ∧ zSl r1) (sMk aa kk ((m 97) kk.toNatClampNeg) LL r1) aa)) → ((qIf (0 ≤ kk.toInt ∧ kk.toInt < (m 94 7).toInt ∧ zSl r1) (sMk aa kk ((m 97) kk.toNatClampNeg) LL r1) aa) 87 8 = (m₉ 94 58)) → ((m₉ 94 45).toInt = sm (zbU (m₉ 99)) (m₉ 102) 3100) → ((m₉ 94 58).toInt = 0) → P (some (.inl v)) (zov wr_181 m m₉)) : zm X 10 224 181 0 [(0, .inr (.inr (some 94))), (1, .inl kk), (2, .inl r1)] m P := by
  have K : ∀ v m₉, zF wr_181 m m₉ → zV m₉ → (zW (m₉ 94 7) (m₉ 98) (m₉ 101) (m₉ 102) (m₉ 108)) → (zGW (T + 1) (m₉ 94 55) (m₉ 109)) → (zGU (T + 1) (m₉ 94 46) (m₉ 99)) → (zOw (m₉ 99) (m₉ 103) (m₉ 111)) → (zGG (m₉ 94 58) (m₉ 94 56) (m₉ 94 57) (m₉ 106)) → (qRB (m₉ 99) (m₉ 100) (m₉ 98) (m₉ 101) (m₉ 102) (m₉ 103) (m₉ 107) (m₉ 108) (m₉ 109) (m₉ 111) (m₉ 112) (m₉ 113) (m₉ 114) (m₉ 94 55) (m₉ 94 46) (m₉ 94 11) (m₉ 94 12) (m₉ 94 62) (m₉ 94 17) (m₉ 94 9) (qIf (0 ≤ kk.toInt ∧ kk.toInt < (m₉ 94 7).toInt ∧ zSl r1) (sMk aa kk ((m₉ 97) kk.toNatClampNeg) LL r1) aa)) → (qI (qIf (0 ≤ kk.toInt ∧ kk.toInt < (m₉ 94 7).toInt ∧ zSl r1) (sMk aa kk ((m₉ 97) kk.toNatClampNeg) LL r1) aa)) → (qMG (m₉ 94 58) (m₉ 106) (m₉ 115) (m₉ 94 57) (m₉ 94 56) (m₉ 99) (m₉ 100) (qIf (0 ≤ kk.toInt ∧ kk.toInt < (m₉ 94 7).toInt ∧ zSl r1) (sMk aa kk ((m₉ 97) kk.toNatClampNeg) LL r1) aa)) → ((qIf (0 ≤ kk.toInt ∧ kk.toInt < (m₉ 94 7).toInt ∧ zSl r1) (sMk aa kk ((m₉ 97) kk.toNatClampNeg) LL r1) aa) 87 8 = (m₉ 94 58)) → ((m₉ 94 45).toInt = sm (zbU (m₉ 99)) (m₉ 102) 3100) → ((m₉ 94 58).toInt = 0) → P (some (.inl v)) m₉ := by
    intro v m₉ hf z q0 q1 q2 q3 q4 q5 q6 q7 q8 q9 q10
    have e := zov_eq hf
    rw [e] at z ⊢
    try rw [e] at q0
    try rw [e] at q1
    try rw [e] at q2
    try rw [e] at q3
    try rw [e] at q4
    try rw [e] at q5
    try rw [e] at q6
    try rw [e] at q7
    try rw [e] at q8
    try rw [e] at q9
    try rw [e] at q10
    exact KZ v m₉ z q0 q1 q2 q3 q4 q5 q6 q7 q8 q9 q10
  refine g_181_0 kk r1 ?_
  have f1 : 0 ≤ (m 94 10).toInt ∧ (m 94 10).toInt ≤ 6 := rs_94_10 (m := m) hV
  have f2 : 0 ≤ (m 94 58).toInt ∧ (m 94 58).toInt ≤ 1 := rs_94_58 (m := m) hV
  have f3 : 0 ≤ (m 94 8).toInt ∧ (m 94 8).toInt ≤ 1 := rs_94_8 (m := m) hV
  have b4 := i_bd kk
  have li5 : (0 : Int32).toInt = 0 := rfl
  refine zd (fun (h6 : kk < (0 : Int32)) => ?_) (fun (h6 : ¬ kk < (0 : Int32)) => ?_)
  · skip
    have g7 := i_lt h6
    have hV8 : zV (ma_u m 94 0 (1 : Int32)) := uf_94_0 hV
    exact K ((0 : Int32)) _ (zF_u zF_rfl rfl) hV8 r_W (show zGW (T + 1) (m 94 55) (m 109) from by first | (exact GW_up r_GW (by omega)) | (exfalso; omega; done) | (exfalso; contradiction; done)) (show zGU (T + 1) (m 94 46) (m 99) from by first | (exact GU_up r_GU (by omega)) | (exact GU_0 r_GU) | (exfalso; omega; done) | (exfalso; contradiction; done)) r_OW r_GG (show qRB (m 99) (m 100) (m 98) (m 101) (m 102) (m 103) (m 107) (m 108) (m 109) (m 111) (m 112) (m 113) (m 114) (m 94 55) (m 94 46) (m 94 11) (m 94 12) (m 94 62) (m 94 17) (m 94 9) (qIf (0 ≤ kk.toInt ∧ kk.toInt < (m 94 7).toInt ∧ zSl r1) (sMk aa kk ((m 97) kk.toNatClampNeg) LL r1) aa) from by first | (rw [qIf_n (fun w => by have w1 := w.1; have w2 := w.2.1; have w3 := w.2.2.1; have w4 := w.2.2.2; omega)]; exact r_RB; done) | (exfalso; omega; done) | (exfalso; contradiction; done)) (show qI (qIf (0 ≤ kk.toInt ∧ kk.toInt < (m 94 7).toInt ∧ zSl r1) (sMk aa kk ((m 97) kk.toNatClampNeg) LL r1) aa) from by first | (rw [qIf_n (fun w => by have w1 := w.1; have w2 := w.2.1; have w3 := w.2.2.1; have w4 := w.2.2.2; omega)]; exact r_QI; done) | (exfalso; omega; done) | (exfalso; contradiction; done)) (show qMG (m 94 58) (m 106) (m 115) (m 94 57) (m 94 56) (m 99) (m 100) (qIf (0 ≤ kk.toInt ∧ kk.toInt < (m 94 7).toInt ∧ zSl r1) (sMk aa kk ((m 97) kk.toNatClampNeg) LL r1) aa) from by first | (rw [qIf_n (fun w => by have w1 := w.1; have w2 := w.2.1; have w3 := w.2.2.1; have w4 := w.2.2.2; omega)]; exact r_MG; done) | (exfalso; omega; done) | (exfalso; contradiction; done)) (show (qIf (0 ≤ kk.toInt ∧ kk.toInt < (m 94 7).toInt ∧ zSl r1) (sMk aa kk ((m 97) kk.toNatClampNeg) LL r1) aa) 87 8 = (m 94 58) from by first | (rw [qIf_n (fun w => by have w1 := w.1; have w2 := w.2.1; have w3 := w.2.2.1; have w4 := w.2.2.2; omega)]; exact r_MK; done) | (exfalso; omega; done) | (exfalso; contradiction; done)) r_WTS (show (m 94 58).toInt = 0 from by omega)
  · skip
    have g9 := i_nlt h6
    have f10 : 0 ≤ (m 94 7).toInt ∧ (m 94 7).toInt ≤ 16 := rs_94_7 (m := m) hV
    refine zd (fun (h11 : (m 94 7) ≤ kk) => ?_) (fun (h11 : ¬ (m 94 7) ≤ kk) => ?_)
    · skip
      have g12 := i_le h11
      have hV13 : zV (ma_u m 94 0 (1 : Int32)) := uf_94_0 hV
      exact K ((0 : Int32)) _ (zF_u zF_rfl rfl) hV13 r_W (show zGW (T + 1) (m 94 55) (m 109) from by first | (exact GW_up r_GW (by omega)) | (exfalso; omega; done) | (exfalso; contradiction; done)) (show zGU (T + 1) (m 94 46) (m 99) from by first | (exact GU_up r_GU (by omega)) | (exact GU_0 r_GU) | (exfalso; omega; done) | (exfalso; contradiction; done)) r_OW r_GG (show qRB (m 99) (m 100) (m 98) (m 101) (m 102) (m 103) (m 107) (m 108) (m 109) (m 111) (m 112) (m 113) (m 114) (m 94 55) (m 94 46) (m 94 11) (m 94 12) (m 94 62) (m 94 17) (m 94 9) (qIf (0 ≤ kk.toInt ∧ kk.toInt < (m 94 7).toInt ∧ zSl r1) (sMk aa kk ((m 97) kk.toNatClampNeg) LL r1) aa) from by first | (rw [qIf_n (fun w => by have w1 := w.1; have w2 := w.2.1; have w3 := w.2.2.1; have w4 := w.2.2.2; omega)]; exact r_RB; done) | (exfalso; omega; done) | (exfalso; contradiction; done)) (show qI (qIf (0 ≤ kk.toInt ∧ kk.toInt < (m 94 7).toInt ∧ zSl r1) (sMk aa kk ((m 97) kk.toNatClampNeg) LL r1) aa) from by first | (rw [qIf_n (fun w => by have w1 := w.1; have w2 := w.2.1; have w3 := w.2.2.1; have w4 := w.2.2.2; omega)]; exact r_QI; done) | (exfalso; omega; done) | (exfalso; contradiction; done)) (show qMG (m 94 58) (m 106) (m 115) (m 94 57) (m 94 56) (m 99) (m 100) (qIf (0 ≤ kk.toInt ∧ kk.toInt < (m 94 7).toInt ∧ zSl r1) (sMk aa kk ((m 97) kk.toNatClampNeg) LL r1) aa) from by first | (rw [qIf_n (fun w => by have w1 := w.1; have w2 := w.2.1; have w3 := w.2.2.1; have w4 := w.2.2.2; omega)]; exact r_MG; done) | (exfalso; omega; done) | (exfalso; contradiction; done)) (show (qIf (0 ≤ kk.toInt ∧ kk.toInt < (m 94 7).toInt ∧ zSl r1) (sMk aa kk ((m 97) kk.toNatClampNeg) LL r1) aa) 87 8 = (m 94 58) from by first | (rw [qIf_n (fun w => by have w1 := w.1; have w2 := w.2.1; have w3 := w.2.2.1; have w4 := w.2.2.2; omega)]; exact r_MK; done) | (exfalso; omega; done) | (exfalso; contradiction; done)) r_WTS (show (m 94 58).toInt = 0 from by omega)
    · skip
      have g14 := i_nle h11
      have b15 := i_bd r1
      refine zd (fun (h16 : r1 < (0 : Int32)) => ?_) (fun (h16 : ¬ r1 < (0 : Int32)) => ?_)
      · skip
        have g17 := i_lt h16
        have hV18 : zV (ma_u m 94 0 (1 : Int32)) := uf_94_0 hV
        exact K ((0 : Int32)) _ (zF_u zF_rfl rfl) hV18 r_W (show zGW (T + 1) (m 94 55) (m 109) from by first | (exact GW_up r_GW (by omega)) | (exfalso; omega; done) | (exfalso; contradiction; done)) (show zGU (T + 1) (m 94 46) (m 99) from by first | (exact GU_up r_GU (by omega)) | (exact GU_0 r_GU) | (exfalso; omega; done) | (exfalso; contradiction; done)) r_OW r_GG (show qRB (m 99) (m 100) (m 98) (m 101) (m 102) (m 103) (m 107) (m 108) (m 109) (m 111) (m 112) (m 113) (m 114) (m 94 55) (m 94 46) (m 94 11) (m 94 12) (m 94 62) (m 94 17) (m 94 9) (qIf (0 ≤ kk.toInt ∧ kk.toInt < (m 94 7).toInt ∧ zSl r1) (sMk aa kk ((m 97) kk.toNatClampNeg) LL r1) aa) from by first | (rw [qIf_n (fun w => by have w1 := w.1; have w2 := w.2.1; have w3 := w.2.2.1; have w4 := w.2.2.2; omega)]; exact r_RB; done) | (exfalso; omega; done) | (exfalso; contradiction; done)) (show qI (qIf (0 ≤ kk.toInt ∧ kk.toInt < (m 94 7).toInt ∧ zSl r1) (sMk aa kk ((m 97) kk.toNatClampNeg) LL r1) aa) from by first | (rw [qIf_n (fun w => by have w1 := w.1; have w2 := w.2.1; have w3 := w.2.2.1; have w4 := w.2.2.2; omega)]; exact r_QI; done) | (exfalso; omega; done) | (exfalso; contradiction; done)) (show qMG (m 94 58) (m 106) (m 115) (m 94 57) (m 94 56) (m 99) (m 100) (qIf (0 ≤ kk.toInt ∧ kk.toInt < (m 94 7).toInt ∧ zSl r1) (sMk aa kk ((m 97) kk.toNatClampNeg) LL r1) aa) from by first | (rw [qIf_n (fun w => by have w1 := w.1; have w2 := w.2.1; have w3 := w.2.2.1; have w4 := w.2.2.2; omega)]; exact r_MG; done) | (exfalso; omega; done) | (exfalso; contradiction; done)) (show (qIf (0 ≤ kk.toInt ∧ kk.toInt < (m 94 7).toInt ∧ zSl r1) (sMk aa kk ((m 97) kk.toNatClampNeg) LL r1) aa) 87 8 = (m 94 58) from by first | (rw [qIf_n (fun w => by have w1 := w.1; have w2 := w.2.1; have w3 := w.2.2.1; have w4 := w.2.2.2; omega)]; exact r_MK; done) | (exfalso; omega; done) | (exfalso; contradiction; done)) r_WTS (show (m 94 58).toInt = 0 from by omega)
      · skip
        have g19 := i_nlt h16
        have li20 : (16 : Int32).toInt = 16 := rfl
        refine zd (fun (h21 : (16 : Int32) ≤ r1) => ?_) (fun (h21 : ¬ (16 : Int32) ≤ r1) => ?_)
        · skip
          have g22 := i_le h21
          have hV23 : zV (ma_u m 94 0 (1 : Int32)) := uf_94_0 hV
          exact K ((0 : Int32)) _ (zF_u zF_rfl rfl) hV23 r_W (show zGW (T + 1) (m 94 55) (m 109) from by first | (exact GW_up r_GW (by omega)) | (exfalso; omega; done) | (exfalso; contradiction; done)) (show zGU (T + 1) (m 94 46) (m 99) from by first | (exact GU_up r_GU (by omega)) | (exact GU_0 r_GU) | (exfalso; omega; done) | (exfalso; contradiction; done)) r_OW r_GG (show qRB (m 99) (m 100) (m 98) (m 101) (m 102) (m 103) (m 107) (m 108) (m 109) (m 111) (m 112) (m 113) (m 114) (m 94 55) (m 94 46) (m 94 11) (m 94 12) (m 94 62) (m 94 17) (m 94 9) (qIf (0 ≤ kk.toInt ∧ kk.toInt < (m 94 7).toInt ∧ zSl r1) (sMk aa kk ((m 97) kk.toNatClampNeg) LL r1) aa) from by first | (rw [qIf_n (fun w => by have w1 := w.1; have w2 := w.2.1; have w3 := w.2.2.1; have w4 := w.2.2.2; omega)]; exact r_RB; done) | (exfalso; omega; done) | (exfalso; contradiction; done)) (show qI (qIf (0 ≤ kk.toInt ∧ kk.toInt < (m 94 7).toInt ∧ zSl r1) (sMk aa kk ((m 97) kk.toNatClampNeg) LL r1) aa) from by first | (rw [qIf_n (fun w => by have w1 := w.1; have w2 := w.2.1; have w3 := w.2.2.1; have w4 := w.2.2.2; omega)]; exact r_QI; done) | (exfalso; omega; done) | (exfalso; contradiction; done)) (show qMG (m 94 58) (m 106) (m 115) (m 94 57) (m 94 56) (m 99) (m 100) (qIf (0 ≤ kk.toInt ∧ kk.toInt < (m 94 7).toInt ∧ zSl r1) (sMk aa kk ((m 97) kk.toNatClampNeg) LL r1) aa) from by first | (rw [qIf_n (fun w => by have w1 := w.1; have w2 := w.2.1; have w3 := w.2.2.1; have w4 := w.2.2.2; omega)]; exact r_MG; done) | (exfalso; omega; done) | (exfalso; contradiction; done)) (show (qIf (0 ≤ kk.toInt ∧ kk.toInt < (m 94 7).toInt ∧ zSl r1) (sMk aa kk ((m 97) kk.toNatClampNeg) LL r1) aa) 87 8 = (m 94 58) from by first | (rw [qIf_n (fun w => by have w1 := w.1; have w2 := w.2.1; have w3 := w.2.2.1; have w4 := w.2.2.2; omega)]; exact r_MK; done) | (exfalso; omega; done) | (exfalso; contradiction; done)) r_WTS (show (m 94 58).toInt = 0 from by omega)
        · skip
          have g24 := i_nle h21
          refine zd (fun (h25 : (m 94 8) = (0 : Int32)) => ?_) (fun (h25 : ¬ (m 94 8) = (0 : Int32)) => ?_)
          · skip
            have g26 := i_eq h25
            exfalso; omega
          · skip
            have g27 := i_ne h25
            have hg28 : (0 ≤ kk ∧ kk.toNatClampNeg < 16) := i_ix (by omega) (by omega)
            refine ⟨hg28, ?_⟩
            first | have f29 : 0 ≤ (m 97 kk.toNatClampNeg).toInt ∧ (m 97 kk.toNatClampNeg).toInt ≤ 8 := ra_97 (m := m) hV (k := kk.toNatClampNeg) (i_ix (n := 16) (by omega) (by omega)).2 | have b30 := i_bd (m 97 kk.toNatClampNeg)
            have hV31 : zV (ma_u m 94 0 (0 : Int32)) := uf_94_0 hV
            refine sp_183r0 (LL := LL) (kk) ((m 97 kk.toNatClampNeg)) (r1) hV31 (by omega) (by omega) (by omega) (by omega) (by omega) (by omega) (by omega) (show 16 ≤ kk.toInt ∨ kk.toInt < (m 94 7).toInt from by omega) (by omega) r_W r_GW r_GU r_OW r_GG (show (m 94 10).toInt = 0 ∧ (m 94 58).toInt = 0 from by omega) (show (m 94 8).toInt = 1 from by omega) r_RB r_QI r_MG r_MK r_WTS (show ∀ j : Nat, (j : Int) < (m 97 kk.toNatClampNeg).toInt → (zbit LL (Int32.ofNat j) ≠ 0 ↔ (kk = 16 ∨ (kk < 16 ∧ (((m 98) kk.toNatClampNeg >>> (Int32.ofNat j &&& 31)) &&& 1) = 1))) from by first | (exact r_BT1 ⟨by omega, by omega⟩) | (exfalso; omega; done) | (exfalso; contradiction; done)) (fun v2 m1 hV_m1 p0_m1 p1_m1 p2_m1 p3_m1 p4_m1 p5_m1 p6_m1 p7_m1 p8_m1 p9_m1 p10_m1 p11_m1 => zmi_n ?_)
            have p0_m1 : zW (m 94 7) (m 98) (m1 101) (m1 102) (m1 108) := p0_m1
            have p1_m1 : zGW (T + 1) (m1 94 55) (m1 109) := p1_m1
            have p2_m1 : zGU (T + 1) (m1 94 46) (m1 99) := p2_m1
            have p3_m1 : zOw (m1 99) (m1 103) (m1 111) := p3_m1
            have p4_m1 : zGG (m1 94 58) (m1 94 56) (m1 94 57) (m1 106) := p4_m1
            have p5_m1 : qRB (m1 99) (m1 100) (m 98) (m1 101) (m1 102) (m1 103) (m1 107) (m1 108) (m1 109) (m1 111) (m1 112) (m1 113) (m1 114) (m1 94 55) (m1 94 46) (m 94 11) (m 94 12) (m1 94 62) (m 94 17) (m 94 9) (sMk aa kk (m 97 kk.toNatClampNeg) LL r1) := p5_m1
            have p6_m1 : qI (sMk aa kk (m 97 kk.toNatClampNeg) LL r1) := p6_m1
            have p7_m1 : qMG (m1 94 58) (m1 106) (m1 115) (m1 94 57) (m1 94 56) (m1 99) (m1 100) (sMk aa kk (m 97 kk.toNatClampNeg) LL r1) := p7_m1
            have p8_m1 : (sMk aa kk (m 97 kk.toNatClampNeg) LL r1) 87 8 = (m1 94 58) := p8_m1
            have p9_m1 : (m1 94 45).toInt = sm (zbU (m1 99)) (m1 102) 3100 := p9_m1
            have p10_m1 : (m1 94 58).toInt = 0 := p10_m1
            have p11_m1 : v2 = sMn aa (m 97 kk.toNatClampNeg) := p11_m1
            have f32 : 0 ≤ (m1 94 58).toInt ∧ (m1 94 58).toInt ≤ 1 := rs_94_58 (m := (zov wr_183 (ma_u m 94 0 (0 : Int32)) m1)) hV_m1
            have b33 := i_bd v2
            exact K (v2) _ (zF_zov (zF_u zF_rfl rfl) ws_183_181) hV_m1 p0_m1 p1_m1 p2_m1 p3_m1 p4_m1 (show qRB (m1 99) (m1 100) (m 98) (m1 101) (m1 102) (m1 103) (m1 107) (m1 108) (m1 109) (m1 111) (m1 112) (m1 113) (m1 114) (m1 94 55) (m1 94 46) (m 94 11) (m 94 12) (m1 94 62) (m 94 17) (m 94 9) (qIf (0 ≤ kk.toInt ∧ kk.toInt < (m 94 7).toInt ∧ zSl r1) (sMk aa kk ((m 97) kk.toNatClampNeg) LL r1) aa) from by first | (rw [qIf_y ⟨by omega, by omega, by omega, by omega⟩]; exact p5_m1; done) | (exfalso; omega; done) | (exfalso; contradiction; done)) (show qI (qIf (0 ≤ kk.toInt ∧ kk.toInt < (m 94 7).toInt ∧ zSl r1) (sMk aa kk ((m 97) kk.toNatClampNeg) LL r1) aa) from by first | (rw [qIf_y ⟨by omega, by omega, by omega, by omega⟩]; exact p6_m1; done) | (exfalso; omega; done) | (exfalso; contradiction; done)) (show qMG (m1 94 58) (m1 106) (m1 115) (m1 94 57) (m1 94 56) (m1 99) (m1 100) (qIf (0 ≤ kk.toInt ∧ kk.toInt < (m 94 7).toInt ∧ zSl r1) (sMk aa kk ((m 97) kk.toNatClampNeg) LL r1) aa) from by first | (rw [qIf_y ⟨by omega, by omega, by omega, by omega⟩]; exact p7_m1; done) | (exfalso; omega; done) | (exfalso; contradiction; done)) (show (qIf (0 ≤ kk.toInt ∧ kk.toInt < (m 94 7).toInt ∧ zSl r1) (sMk aa kk ((m 97) kk.toNatClampNeg) LL r1) aa) 87 8 = (m1 94 58) from by first | (rw [qIf_y ⟨by omega, by omega, by omega, by omega⟩]; exact p8_m1; done) | (exfalso; omega; done) | (exfalso; contradiction; done)) p9_m1 (show (m1 94 58).toInt = 0 from by omega)
set_option maxHeartbeats 8000000 in
theorem sp_243r0 {X : Nat × (Nat → Int32)} {P : Option ma_V → (Nat → Nat → Int32) → Prop} {T : Nat} {aa : Nat→Nat→Int32} {m : Nat → Nat → Int32} (rf : Int32) (nn : Int32) (r1 : Int32) (hV : zV m) (hpre0 : T + 1 ≤ 512) (hpre1 : 0 ≤ rf.toInt) (hpre2 : rf.toInt ≤ 1) (hpre3 : T ≤ 512) (r_W : zW (m 94 7) (m 98) (m 101) (m 102) (m 108)) (r_GW : zGW T (m 94 55) (m 109)) (r_GU : zGU T (m 94 46) (m 99)) (r_OW : zOw (m 99) (m 103) (m 111)) (r_GG : zGG (m 94 58) (m 94 56) (m 94 57) (m 106)) (hpre9 : (m 94 10).toInt = 0 ∧ (m 94 58).toInt = 0) (hpre10 : (m 94 8).toInt = 1) (r_RB : qRB (m 99) (m 100) (m 98) (m 101) (m 102) (m 103) (m 107) (m 108) (m 109) (m 111) (m 112) (m 113) (m 114) (m 94 55) (m 94 46) (m 94 11) (m 94 12) (m 94 62) (m 94 17) (m 94 9) aa) (r_QI : qI aa) (r_MG : qMG (m 94 58) (m 106) (m 115) (m 94 57) (m 94 56) (m 99) (m 100) aa) (r_MK : aa 87 8 = (m 94 58)) (r_WTS : (m 94 45).toInt = sm (zbU (m 99)) (m 102) 3100) (KZ : ∀ v m₉, zV (zov wr_243 m m₉) → (zW (m 94 7) (m 98) (m₉ 101) (m₉ 102) (m₉ 108)) → (zGW (T + 1) (m₉ 94 55) (m₉ 109)) → (zGU (T + 1) (m₉ 94 46) (m₉ 99)) → (zOw (m₉ 99) (m₉ 103) (m₉ 111)) → (zGG (m₉ 94 58) (m₉ 94 56) (m₉ 94 57) (m₉ 106)) → (qRB (m₉ 99) (m₉ 100) (m 98) (m₉ 101) (m₉ 102) (m₉ 103) (m₉ 107) (m₉ 108) (m₉ 109) (m₉ 111) (m₉ 112) (m₉ 113) (m₉ 114) (m₉ 94 55) (m₉ 94 46) (m 94 11) (m 94 12) (m₉ 94 62) (m 94 17) (m 94 9) (qIf (0 ≤ nn.toInt ∧ nn.toInt ≤ 60 ∧ zSl r1) (if rf = 0 then sMk aa 17 nn 0 r1 else sMk aa 16 nn (-1) r1) aa)) → (qI (qIf (0 ≤ nn.toInt ∧ nn.toInt ≤ 60 ∧ zSl r1) (if rf = 0 then sMk aa 17 nn 0 r1 else sMk aa 16 nn (-1) r1) aa)) → (qMG (m₉ 94 58) (m₉ 106) (m₉ 115) (m₉ 94 57) (m₉ 94 56) (m₉ 99) (m₉ 100) (qIf (0 ≤ nn.toInt ∧ nn.toInt ≤ 60 ∧ zSl r1) (if rf = 0 then sMk aa 17 nn 0 r1 else sMk aa 16 nn (-1) r1) aa)) → ((qIf (0 ≤ nn.toInt ∧ nn.toInt ≤ 60 ∧ zSl r1) (if rf = 0 then sMk aa 17 nn 0 r1 else sMk aa 16 nn (-1) r1) aa) 87 8 = (m₉ 94 58)) → ((m₉ 94 45).toInt = sm (zbU (m₉ 99)) (m₉ 102) 3100) → ((m₉ 94 58).toInt = 0) → P (some (.inl v)) (zov wr_243 m m₉)) : zm X 10 224 243 0 [(0, .inr (.inr (some 94))), (1, .inl rf), (2, .inl nn), (3, .inl r1)] m P := by
  have K : ∀ v m₉, zF wr_243 m m₉ → zV m₉ → (zW (m₉ 94 7) (m₉ 98) (m₉ 101) (m₉ 102) (m₉ 108)) → (zGW (T + 1) (m₉ 94 55) (m₉ 109)) → (zGU (T + 1) (m₉ 94 46) (m₉ 99)) → (zOw (m₉ 99) (m₉ 103) (m₉ 111)) → (zGG (m₉ 94 58) (m₉ 94 56) (m₉ 94 57) (m₉ 106)) → (qRB (m₉ 99) (m₉ 100) (m₉ 98) (m₉ 101) (m₉ 102) (m₉ 103) (m₉ 107) (m₉ 108) (m₉ 109) (m₉ 111) (m₉ 112) (m₉ 113) (m₉ 114) (m₉ 94 55) (m₉ 94 46) (m₉ 94 11) (m₉ 94 12) (m₉ 94 62) (m₉ 94 17) (m₉ 94 9) (qIf (0 ≤ nn.toInt ∧ nn.toInt ≤ 60 ∧ zSl r1) (if rf = 0 then sMk aa 17 nn 0 r1 else sMk aa 16 nn (-1) r1) aa)) → (qI (qIf (0 ≤ nn.toInt ∧ nn.toInt ≤ 60 ∧ zSl r1) (if rf = 0 then sMk aa 17 nn 0 r1 else sMk aa 16 nn (-1) r1) aa)) → (qMG (m₉ 94 58) (m₉ 106) (m₉ 115) (m₉ 94 57) (m₉ 94 56) (m₉ 99) (m₉ 100) (qIf (0 ≤ nn.toInt ∧ nn.toInt ≤ 60 ∧ zSl r1) (if rf = 0 then sMk aa 17 nn 0 r1 else sMk aa 16 nn (-1) r1) aa)) → ((qIf (0 ≤ nn.toInt ∧ nn.toInt ≤ 60 ∧ zSl r1) (if rf = 0 then sMk aa 17 nn 0 r1 else sMk aa 16 nn (-1) r1) aa) 87 8 = (m₉ 94 58)) → ((m₉ 94 45).toInt = sm (zbU (m₉ 99)) (m₉ 102) 3100) → ((m₉ 94 58).toInt = 0) → P (some (.inl v)) m₉ := by
    intro v m₉ hf z q0 q1 q2 q3 q4 q5 q6 q7 q8 q9 q10
    have e := zov_eq hf
    rw [e] at z ⊢
    try rw [e] at q0
    try rw [e] at q1
    try rw [e] at q2
    try rw [e] at q3
    try rw [e] at q4
    try rw [e] at q5
    try rw [e] at q6
    try rw [e] at q7
    try rw [e] at q8
    try rw [e] at q9
    try rw [e] at q10
    exact KZ v m₉ z q0 q1 q2 q3 q4 q5 q6 q7 q8 q9 q10
  refine g_243_0 rf nn r1 ?_
  have f1 : 0 ≤ (m 94 10).toInt ∧ (m 94 10).toInt ≤ 6 := rs_94_10 (m := m) hV
  have f2 : 0 ≤ (m 94 58).toInt ∧ (m 94 58).toInt ≤ 1 := rs_94_58 (m := m) hV
  have f3 : 0 ≤ (m 94 8).toInt ∧ (m 94 8).toInt ≤ 1 := rs_94_8 (m := m) hV
  have b4 := i_bd nn
  have li5 : (0 : Int32).toInt = 0 := rfl
  refine zd (fun (h6 : nn < (0 : Int32)) => ?_) (fun (h6 : ¬ nn < (0 : Int32)) => ?_)
  · skip
    have g7 := i_lt h6
    have hV8 : zV (ma_u m 94 0 (1 : Int32)) := uf_94_0 hV
    exact K ((0 : Int32)) _ (zF_u zF_rfl rfl) hV8 r_W (show zGW (T + 1) (m 94 55) (m 109) from by first | (exact GW_up r_GW (by omega)) | (exfalso; omega; done) | (exfalso; contradiction; done)) (show zGU (T + 1) (m 94 46) (m 99) from by first | (exact GU_up r_GU (by omega)) | (exact GU_0 r_GU) | (exfalso; omega; done) | (exfalso; contradiction; done)) r_OW r_GG (show qRB (m 99) (m 100) (m 98) (m 101) (m 102) (m 103) (m 107) (m 108) (m 109) (m 111) (m 112) (m 113) (m 114) (m 94 55) (m 94 46) (m 94 11) (m 94 12) (m 94 62) (m 94 17) (m 94 9) (qIf (0 ≤ nn.toInt ∧ nn.toInt ≤ 60 ∧ zSl r1) (if rf = 0 then sMk aa 17 nn 0 r1 else sMk aa 16 nn (-1) r1) aa) from by first | (rw [qIf_n (fun w => by have w1 := w.1; have w2 := w.2.1; have w3 := w.2.2.1; have w4 := w.2.2.2; omega)]; exact r_RB; done) | (exfalso; omega; done) | (exfalso; contradiction; done)) (show qI (qIf (0 ≤ nn.toInt ∧ nn.toInt ≤ 60 ∧ zSl r1) (if rf = 0 then sMk aa 17 nn 0 r1 else sMk aa 16 nn (-1) r1) aa) from by first | (rw [qIf_n (fun w => by have w1 := w.1; have w2 := w.2.1; have w3 := w.2.2.1; have w4 := w.2.2.2; omega)]; exact r_QI; done) | (exfalso; omega; done) | (exfalso; contradiction; done)) (show qMG (m 94 58) (m 106) (m 115) (m 94 57) (m 94 56) (m 99) (m 100) (qIf (0 ≤ nn.toInt ∧ nn.toInt ≤ 60 ∧ zSl r1) (if rf = 0 then sMk aa 17 nn 0 r1 else sMk aa 16 nn (-1) r1) aa) from by first | (rw [qIf_n (fun w => by have w1 := w.1; have w2 := w.2.1; have w3 := w.2.2.1; have w4 := w.2.2.2; omega)]; exact r_MG; done) | (exfalso; omega; done) | (exfalso; contradiction; done)) (show (qIf (0 ≤ nn.toInt ∧ nn.toInt ≤ 60 ∧ zSl r1) (if rf = 0 then sMk aa 17 nn 0 r1 else sMk aa 16 nn (-1) r1) aa) 87 8 = (m 94 58) from by first | (rw [qIf_n (fun w => by have w1 := w.1; have w2 := w.2.1; have w3 := w.2.2.1; have w4 := w.2.2.2; omega)]; exact r_MK; done) | (exfalso; omega; done) | (exfalso; contradiction; done)) r_WTS (show (m 94 58).toInt = 0 from by omega)
  · skip
    have g9 := i_nlt h6
    have li10 : (60 : Int32).toInt = 60 := rfl
    refine zd (fun (h11 : (60 : Int32) < nn) => ?_) (fun (h11 : ¬ (60 : Int32) < nn) => ?_)
    · skip
      have g12 := i_lt h11
      have hV13 : zV (ma_u m 94 0 (1 : Int32)) := uf_94_0 hV
      exact K ((0 : Int32)) _ (zF_u zF_rfl rfl) hV13 r_W (show zGW (T + 1) (m 94 55) (m 109) from by first | (exact GW_up r_GW (by omega)) | (exfalso; omega; done) | (exfalso; contradiction; done)) (show zGU (T + 1) (m 94 46) (m 99) from by first | (exact GU_up r_GU (by omega)) | (exact GU_0 r_GU) | (exfalso; omega; done) | (exfalso; contradiction; done)) r_OW r_GG (show qRB (m 99) (m 100) (m 98) (m 101) (m 102) (m 103) (m 107) (m 108) (m 109) (m 111) (m 112) (m 113) (m 114) (m 94 55) (m 94 46) (m 94 11) (m 94 12) (m 94 62) (m 94 17) (m 94 9) (qIf (0 ≤ nn.toInt ∧ nn.toInt ≤ 60 ∧ zSl r1) (if rf = 0 then sMk aa 17 nn 0 r1 else sMk aa 16 nn (-1) r1) aa) from by first | (rw [qIf_n (fun w => by have w1 := w.1; have w2 := w.2.1; have w3 := w.2.2.1; have w4 := w.2.2.2; omega)]; exact r_RB; done) | (exfalso; omega; done) | (exfalso; contradiction; done)) (show qI (qIf (0 ≤ nn.toInt ∧ nn.toInt ≤ 60 ∧ zSl r1) (if rf = 0 then sMk aa 17 nn 0 r1 else sMk aa 16 nn (-1) r1) aa) from by first | (rw [qIf_n (fun w => by have w1 := w.1; have w2 := w.2.1; have w3 := w.2.2.1; have w4 := w.2.2.2; omega)]; exact r_QI; done) | (exfalso; omega; done) | (exfalso; contradiction; done)) (show qMG (m 94 58) (m 106) (m 115) (m 94 57) (m 94 56) (m 99) (m 100) (qIf (0 ≤ nn.toInt ∧ nn.toInt ≤ 60 ∧ zSl r1) (if rf = 0 then sMk aa 17 nn 0 r1 else sMk aa 16 nn (-1) r1) aa) from by first | (rw [qIf_n (fun w => by have w1 := w.1; have w2 := w.2.1; have w3 := w.2.2.1; have w4 := w.2.2.2; omega)]; exact r_MG; done) | (exfalso; omega; done) | (exfalso; contradiction; done)) (show (qIf (0 ≤ nn.toInt ∧ nn.toInt ≤ 60 ∧ zSl r1) (if rf = 0 then sMk aa 17 nn 0 r1 else sMk aa 16 nn (-1) r1) aa) 87 8 = (m 94 58) from by first | (rw [qIf_n (fun w => by have w1 := w.1; have w2 := w.2.1; have w3 := w.2.2.1; have w4 := w.2.2.2; omega)]; exact r_MK; done) | (exfalso; omega; done) | (exfalso; contradiction; done)) r_WTS (show (m 94 58).toInt = 0 from by omega)
    · skip
      have g14 := i_nlt h11
      have b15 := i_bd r1
      refine zd (fun (h16 : r1 < (0 : Int32)) => ?_) (fun (h16 : ¬ r1 < (0 : Int32)) => ?_)
      · skip
        have g17 := i_lt h16
        have hV18 : zV (ma_u m 94 0 (1 : Int32)) := uf_94_0 hV
        exact K ((0 : Int32)) _ (zF_u zF_rfl rfl) hV18 r_W (show zGW (T + 1) (m 94 55) (m 109) from by first | (exact GW_up r_GW (by omega)) | (exfalso; omega; done) | (exfalso; contradiction; done)) (show zGU (T + 1) (m 94 46) (m 99) from by first | (exact GU_up r_GU (by omega)) | (exact GU_0 r_GU) | (exfalso; omega; done) | (exfalso; contradiction; done)) r_OW r_GG (show qRB (m 99) (m 100) (m 98) (m 101) (m 102) (m 103) (m 107) (m 108) (m 109) (m 111) (m 112) (m 113) (m 114) (m 94 55) (m 94 46) (m 94 11) (m 94 12) (m 94 62) (m 94 17) (m 94 9) (qIf (0 ≤ nn.toInt ∧ nn.toInt ≤ 60 ∧ zSl r1) (if rf = 0 then sMk aa 17 nn 0 r1 else sMk aa 16 nn (-1) r1) aa) from by first | (rw [qIf_n (fun w => by have w1 := w.1; have w2 := w.2.1; have w3 := w.2.2.1; have w4 := w.2.2.2; omega)]; exact r_RB; done) | (exfalso; omega; done) | (exfalso; contradiction; done)) (show qI (qIf (0 ≤ nn.toInt ∧ nn.toInt ≤ 60 ∧ zSl r1) (if rf = 0 then sMk aa 17 nn 0 r1 else sMk aa 16 nn (-1) r1) aa) from by first | (rw [qIf_n (fun w => by have w1 := w.1; have w2 := w.2.1; have w3 := w.2.2.1; have w4 := w.2.2.2; omega)]; exact r_QI; done) | (exfalso; omega; done) | (exfalso; contradiction; done)) (show qMG (m 94 58) (m 106) (m 115) (m 94 57) (m 94 56) (m 99) (m 100) (qIf (0 ≤ nn.toInt ∧ nn.toInt ≤ 60 ∧ zSl r1) (if rf = 0 then sMk aa 17 nn 0 r1 else sMk aa 16 nn (-1) r1) aa) from by first | (rw [qIf_n (fun w => by have w1 := w.1; have w2 := w.2.1; have w3 := w.2.2.1; have w4 := w.2.2.2; omega)]; exact r_MG; done) | (exfalso; omega; done) | (exfalso; contradiction; done)) (show (qIf (0 ≤ nn.toInt ∧ nn.toInt ≤ 60 ∧ zSl r1) (if rf = 0 then sMk aa 17 nn 0 r1 else sMk aa 16 nn (-1) r1) aa) 87 8 = (m 94 58) from by first | (rw [qIf_n (fun w => by have w1 := w.1; have w2 := w.2.1; have w3 := w.2.2.1; have w4 := w.2.2.2; omega)]; exact r_MK; done) | (exfalso; omega; done) | (exfalso; contradiction; done)) r_WTS (show (m 94 58).toInt = 0 from by omega)
      · skip
        have g19 := i_nlt h16
        have li20 : (16 : Int32).toInt = 16 := rfl
        refine zd (fun (h21 : (16 : Int32) ≤ r1) => ?_) (fun (h21 : ¬ (16 : Int32) ≤ r1) => ?_)
        · skip
          have g22 := i_le h21
          have hV23 : zV (ma_u m 94 0 (1 : Int32)) := uf_94_0 hV
          exact K ((0 : Int32)) _ (zF_u zF_rfl rfl) hV23 r_W (show zGW (T + 1) (m 94 55) (m 109) from by first | (exact GW_up r_GW (by omega)) | (exfalso; omega; done) | (exfalso; contradiction; done)) (show zGU (T + 1) (m 94 46) (m 99) from by first | (exact GU_up r_GU (by omega)) | (exact GU_0 r_GU) | (exfalso; omega; done) | (exfalso; contradiction; done)) r_OW r_GG (show qRB (m 99) (m 100) (m 98) (m 101) (m 102) (m 103) (m 107) (m 108) (m 109) (m 111) (m 112) (m 113) (m 114) (m 94 55) (m 94 46) (m 94 11) (m 94 12) (m 94 62) (m 94 17) (m 94 9) (qIf (0 ≤ nn.toInt ∧ nn.toInt ≤ 60 ∧ zSl r1) (if rf = 0 then sMk aa 17 nn 0 r1 else sMk aa 16 nn (-1) r1) aa) from by first | (rw [qIf_n (fun w => by have w1 := w.1; have w2 := w.2.1; have w3 := w.2.2.1; have w4 := w.2.2.2; omega)]; exact r_RB; done) | (exfalso; omega; done) | (exfalso; contradiction; done)) (show qI (qIf (0 ≤ nn.toInt ∧ nn.toInt ≤ 60 ∧ zSl r1) (if rf = 0 then sMk aa 17 nn 0 r1 else sMk aa 16 nn (-1) r1) aa) from by first | (rw [qIf_n (fun w => by have w1 := w.1; have w2 := w.2.1; have w3 := w.2.2.1; have w4 := w.2.2.2; omega)]; exact r_QI; done) | (exfalso; omega; done) | (exfalso; contradiction; done)) (show qMG (m 94 58) (m 106) (m 115) (m 94 57) (m 94 56) (m 99) (m 100) (qIf (0 ≤ nn.toInt ∧ nn.toInt ≤ 60 ∧ zSl r1) (if rf = 0 then sMk aa 17 nn 0 r1 else sMk aa 16 nn (-1) r1) aa) from by first | (rw [qIf_n (fun w => by have w1 := w.1; have w2 := w.2.1; have w3 := w.2.2.1; have w4 := w.2.2.2; omega)]; exact r_MG; done) | (exfalso; omega; done) | (exfalso; contradiction; done)) (show (qIf (0 ≤ nn.toInt ∧ nn.toInt ≤ 60 ∧ zSl r1) (if rf = 0 then sMk aa 17 nn 0 r1 else sMk aa 16 nn (-1) r1) aa) 87 8 = (m 94 58) from by first | (rw [qIf_n (fun w => by have w1 := w.1; have w2 := w.2.1; have w3 := w.2.2.1; have w4 := w.2.2.2; omega)]; exact r_MK; done) | (exfalso; omega; done) | (exfalso; contradiction; done)) r_WTS (show (m 94 58).toInt = 0 from by omega)
        · skip
          have g24 := i_nle h21
          refine zd (fun (h25 : (m 94 8) = (0 : Int32)) => ?_) (fun (h25 : ¬ (m 94 8) = (0 : Int32)) => ?_)
          · skip
            have g26 := i_eq h25
            exfalso; omega
          · skip
            have g27 := i_ne h25
            have b28 := i_bd rf
            refine zd (fun (h29 : rf = (0 : Int32)) => ?_) (fun (h29 : ¬ rf = (0 : Int32)) => ?_)
            · skip
              have g30 := i_eq h29
              have li31 : (17 : Int32).toInt = 17 := rfl
              have hV32 : zV (ma_u m 94 0 (0 : Int32)) := uf_94_0 hV
              have f33 : 0 ≤ (m 94 7).toInt ∧ (m 94 7).toInt ≤ 16 := rs_94_7 (m := m) hV
              refine sp_183r0 (LL := (0 : Int64)) ((17 : Int32)) (nn) (r1) hV32 (by omega) (by omega) (by omega) (by omega) (by omega) (by omega) (by omega) (show 16 ≤ (17 : Int32).toInt ∨ (17 : Int32).toInt < (m 94 7).toInt from by omega) (by omega) r_W r_GW r_GU r_OW r_GG (show (m 94 10).toInt = 0 ∧ (m 94 58).toInt = 0 from by omega) (show (m 94 8).toInt = 1 from by omega) r_RB r_QI r_MG r_MK r_WTS (show ∀ j : Nat, (j : Int) < nn.toInt → (zbit (0 : Int64) (Int32.ofNat j) ≠ 0 ↔ ((17 : Int32) = 16 ∨ ((17 : Int32) < 16 ∧ (((m 98) (17 : Int32).toNatClampNeg >>> (Int32.ofNat j &&& 31)) &&& 1) = 1))) from by first | (exact fun j hj => ⟨fun _ => Or.inl rfl, fun _ => zb_all j (by omega)⟩) | (exact fun j hj => ⟨fun w => absurd (zb_non j (by omega)) w, fun w => w.elim (fun z => absurd z (by decide)) (fun z => absurd z.1 (by decide))⟩) | (exfalso; omega; done) | (exfalso; contradiction; done)) (fun v2 m1 hV_m1 p0_m1 p1_m1 p2_m1 p3_m1 p4_m1 p5_m1 p6_m1 p7_m1 p8_m1 p9_m1 p10_m1 p11_m1 => zmi_n ?_)
              have p0_m1 : zW (m 94 7) (m 98) (m1 101) (m1 102) (m1 108) := p0_m1
              have p1_m1 : zGW (T + 1) (m1 94 55) (m1 109) := p1_m1
              have p2_m1 : zGU (T + 1) (m1 94 46) (m1 99) := p2_m1
              have p3_m1 : zOw (m1 99) (m1 103) (m1 111) := p3_m1
              have p4_m1 : zGG (m1 94 58) (m1 94 56) (m1 94 57) (m1 106) := p4_m1
              have p5_m1 : qRB (m1 99) (m1 100) (m 98) (m1 101) (m1 102) (m1 103) (m1 107) (m1 108) (m1 109) (m1 111) (m1 112) (m1 113) (m1 114) (m1 94 55) (m1 94 46) (m 94 11) (m 94 12) (m1 94 62) (m 94 17) (m 94 9) (sMk aa (17 : Int32) nn (0 : Int64) r1) := p5_m1
              have p6_m1 : qI (sMk aa (17 : Int32) nn (0 : Int64) r1) := p6_m1
              have p7_m1 : qMG (m1 94 58) (m1 106) (m1 115) (m1 94 57) (m1 94 56) (m1 99) (m1 100) (sMk aa (17 : Int32) nn (0 : Int64) r1) := p7_m1
              have p8_m1 : (sMk aa (17 : Int32) nn (0 : Int64) r1) 87 8 = (m1 94 58) := p8_m1
              have p9_m1 : (m1 94 45).toInt = sm (zbU (m1 99)) (m1 102) 3100 := p9_m1
              have p10_m1 : (m1 94 58).toInt = 0 := p10_m1
              have p11_m1 : v2 = sMn aa nn := p11_m1
              have f34 : 0 ≤ (m1 94 58).toInt ∧ (m1 94 58).toInt ≤ 1 := rs_94_58 (m := (zov wr_183 (ma_u m 94 0 (0 : Int32)) m1)) hV_m1
              have b35 := i_bd v2
              exact K (v2) _ (zF_zov (zF_u zF_rfl rfl) ws_183_243) hV_m1 p0_m1 p1_m1 p2_m1 p3_m1 p4_m1 (show qRB (m1 99) (m1 100) (m 98) (m1 101) (m1 102) (m1 103) (m1 107) (m1 108) (m1 109) (m1 111) (m1 112) (m1 113) (m1 114) (m1 94 55) (m1 94 46) (m 94 11) (m 94 12) (m1 94 62) (m 94 17) (m 94 9) (qIf (0 ≤ nn.toInt ∧ nn.toInt ≤ 60 ∧ zSl r1) (if rf = 0 then sMk aa 17 nn 0 r1 else sMk aa 16 nn (-1) r1) aa) from by first | (rw [qIf_y ⟨by omega, by omega, by omega, by omega⟩, if_pos (i_zer (by omega))]; exact p5_m1; done) | (exfalso; omega; done) | (exfalso; contradiction; done)) (show qI (qIf (0 ≤ nn.toInt ∧ nn.toInt ≤ 60 ∧ zSl r1) (if rf = 0 then sMk aa 17 nn 0 r1 else sMk aa 16 nn (-1) r1) aa) from by first | (rw [qIf_y ⟨by omega, by omega, by omega, by omega⟩, if_pos (i_zer (by omega))]; exact p6_m1; done) | (exfalso; omega; done) | (exfalso; contradiction; done)) (show qMG (m1 94 58) (m1 106) (m1 115) (m1 94 57) (m1 94 56) (m1 99) (m1 100) (qIf (0 ≤ nn.toInt ∧ nn.toInt ≤ 60 ∧ zSl r1) (if rf = 0 then sMk aa 17 nn 0 r1 else sMk aa 16 nn (-1) r1) aa) from by first | (rw [qIf_y ⟨by omega, by omega, by omega, by omega⟩, if_pos (i_zer (by omega))]; exact p7_m1; done) | (exfalso; omega; done) | (exfalso; contradiction; done)) (show (qIf (0 ≤ nn.toInt ∧ nn.toInt ≤ 60 ∧ zSl r1) (if rf = 0 then sMk aa 17 nn 0 r1 else sMk aa 16 nn (-1) r1) aa) 87 8 = (m1 94 58) from by first | (rw [qIf_y ⟨by omega, by omega, by omega, by omega⟩, if_pos (i_zer (by omega))]; exact p8_m1; done) | (exfalso; omega; done) | (exfalso; contradiction; done)) p9_m1 (show (m1 94 58).toInt = 0 from by omega)
            · skip
              have g36 := i_ne h29
              have hV37 : zV (ma_u m 94 0 (0 : Int32)) := uf_94_0 hV
              have f38 : 0 ≤ (m 94 7).toInt ∧ (m 94 7).toInt ≤ 16 := rs_94_7 (m := m) hV
              refine sp_183r0 (LL := (-1 : Int64)) ((16 : Int32)) (nn) (r1) hV37 (by omega) (by omega) (by omega) (by omega) (by omega) (by omega) (by omega) (show 16 ≤ (16 : Int32).toInt ∨ (16 : Int32).toInt < (m 94 7).toInt from by omega) (by omega) r_W r_GW r_GU r_OW r_GG (show (m 94 10).toInt = 0 ∧ (m 94 58).toInt = 0 from by omega) (show (m 94 8).toInt = 1 from by omega) r_RB r_QI r_MG r_MK r_WTS (show ∀ j : Nat, (j : Int) < nn.toInt → (zbit (-1 : Int64) (Int32.ofNat j) ≠ 0 ↔ ((16 : Int32) = 16 ∨ ((16 : Int32) < 16 ∧ (((m 98) (16 : Int32).toNatClampNeg >>> (Int32.ofNat j &&& 31)) &&& 1) = 1))) from by first | (exact fun j hj => ⟨fun _ => Or.inl rfl, fun _ => zb_all j (by omega)⟩) | (exact fun j hj => ⟨fun w => absurd (zb_non j (by omega)) w, fun w => w.elim (fun z => absurd z (by decide)) (fun z => absurd z.1 (by decide))⟩) | (exfalso; omega; done) | (exfalso; contradiction; done)) (fun v4 m3 hV_m3 p0_m3 p1_m3 p2_m3 p3_m3 p4_m3 p5_m3 p6_m3 p7_m3 p8_m3 p9_m3 p10_m3 p11_m3 => zmi_n ?_)
              have p0_m3 : zW (m 94 7) (m 98) (m3 101) (m3 102) (m3 108) := p0_m3
              have p1_m3 : zGW (T + 1) (m3 94 55) (m3 109) := p1_m3
              have p2_m3 : zGU (T + 1) (m3 94 46) (m3 99) := p2_m3
              have p3_m3 : zOw (m3 99) (m3 103) (m3 111) := p3_m3
              have p4_m3 : zGG (m3 94 58) (m3 94 56) (m3 94 57) (m3 106) := p4_m3
              have p5_m3 : qRB (m3 99) (m3 100) (m 98) (m3 101) (m3 102) (m3 103) (m3 107) (m3 108) (m3 109) (m3 111) (m3 112) (m3 113) (m3 114) (m3 94 55) (m3 94 46) (m 94 11) (m 94 12) (m3 94 62) (m 94 17) (m 94 9) (sMk aa (16 : Int32) nn (-1 : Int64) r1) := p5_m3
              have p6_m3 : qI (sMk aa (16 : Int32) nn (-1 : Int64) r1) := p6_m3
              have p7_m3 : qMG (m3 94 58) (m3 106) (m3 115) (m3 94 57) (m3 94 56) (m3 99) (m3 100) (sMk aa (16 : Int32) nn (-1 : Int64) r1) := p7_m3
              have p8_m3 : (sMk aa (16 : Int32) nn (-1 : Int64) r1) 87 8 = (m3 94 58) := p8_m3
              have p9_m3 : (m3 94 45).toInt = sm (zbU (m3 99)) (m3 102) 3100 := p9_m3
              have p10_m3 : (m3 94 58).toInt = 0 := p10_m3
              have p11_m3 : v4 = sMn aa nn := p11_m3
              have f39 : 0 ≤ (m3 94 58).toInt ∧ (m3 94 58).toInt ≤ 1 := rs_94_58 (m := (zov wr_183 (ma_u m 94 0 (0 : Int32)) m3)) hV_m3
              have b40 := i_bd v4
              exact K (v4) _ (zF_zov (zF_u zF_rfl rfl) ws_183_243) hV_m3 p0_m3 p1_m3 p2_m3 p3_m3 p4_m3 (show qRB (m3 99) (m3 100) (m 98) (m3 101) (m3 102) (m3 103) (m3 107) (m3 108) (m3 109) (m3 111) (m3 112) (m3 113) (m3 114) (m3 94 55) (m3 94 46) (m 94 11) (m 94 12) (m3 94 62) (m 94 17) (m 94 9) (qIf (0 ≤ nn.toInt ∧ nn.toInt ≤ 60 ∧ zSl r1) (if rf = 0 then sMk aa 17 nn 0 r1 else sMk aa 16 nn (-1) r1) aa) from by first | (rw [qIf_y ⟨by omega, by omega, by omega, by omega⟩, if_neg (i_nz2 (by omega))]; exact p5_m3; done) | (exfalso; omega; done) | (exfalso; contradiction; done)) (show qI (qIf (0 ≤ nn.toInt ∧ nn.toInt ≤ 60 ∧ zSl r1) (if rf = 0 then sMk aa 17 nn 0 r1 else sMk aa 16 nn (-1) r1) aa) from by first | (rw [qIf_y ⟨by omega, by omega, by omega, by omega⟩, if_neg (i_nz2 (by omega))]; exact p6_m3; done) | (exfalso; omega; done) | (exfalso; contradiction; done)) (show qMG (m3 94 58) (m3 106) (m3 115) (m3 94 57) (m3 94 56) (m3 99) (m3 100) (qIf (0 ≤ nn.toInt ∧ nn.toInt ≤ 60 ∧ zSl r1) (if rf = 0 then sMk aa 17 nn 0 r1 else sMk aa 16 nn (-1) r1) aa) from by first | (rw [qIf_y ⟨by omega, by omega, by omega, by omega⟩, if_neg (i_nz2 (by omega))]; exact p7_m3; done) | (exfalso; omega; done) | (exfalso; contradiction; done)) (show (qIf (0 ≤ nn.toInt ∧ nn.toInt ≤ 60 ∧ zSl r1) (if rf = 0 then sMk aa 17 nn 0 r1 else sMk aa 16 nn (-1) r1) aa) 87 8 = (m3 94 58) from by first | (rw [qIf_y ⟨by omega, by omega, by omega, by omega⟩, if_neg (i_nz2 (by omega))]; exact p8_m3; done) | (exfalso; omega; done) | (exfalso; contradiction; done)) p9_m3 (show (m3 94 58).toInt = 0 from by omega)

/-! from 95.l22 -/
/-! the reference where it sweeps (written by wip/tools/gen20r.py) -/
/-! FREE BLOCK i of the reference -/
def qBk (a : Nat → Nat → Int32) (ro p bs : Int) (n : Nat) (T : Int) : Prop := (p = -1 ∧ qEq T (-1)) ∨ (0 ≤ p ∧ p < ro ∧ qEq (p + bs) (aE a p) ∧ p + bs ≤ ro ∧ qGd a (p + bs) ∧ qEq (aBk a n p) T)
def qBT (a : Nat → Nat → Int32) (i : Int32) : Int := if i.toInt < 0 then -1 else aBk a i.toInt.toNat (aN a 0)
/-- what block answers: th thrown, v the answer -/
def qBl (a : Nat → Nat → Int32) (i pa th v : Int32) : Prop := (¬ (0 ≤ pa.toInt ∧ pa.toInt ≤ 1) ∧ th.toInt = 1) ∨ ((0 ≤ pa.toInt ∧ pa.toInt ≤ 1) ∧ qEq (qBT a i) (-1) ∧ th.toInt = 4) ∨ ((0 ≤ pa.toInt ∧ pa.toInt ≤ 1) ∧ ¬ qEq (qBT a i) (-1) ∧ th.toInt = 0 ∧ ((pa.toInt = 0 ∧ qEq v.toInt (qBT a i)) ∨ (pa.toInt = 1 ∧ qEq v.toInt (aE a (qBT a i) - qBT a i))))
theorem ab_s {p b e : Int} (w : p + b = e) : b = e - p := by omega
section QBK
variable {a : Nat → Nat → Int32} {ro f v bs bs₉ p T : Int} {n : Nat} {i pa th x y : Int32}
theorem Bk_of (hro : (a 87 0).toInt = ro) (h : qBF a f ro v bs) (hT : qEq (aBk a n (aN a f)) T) : qBk a ro v bs n T := by
  rcases h with h | h
  · refine Or.inl ⟨h.1, ?_⟩
    have q := qE hT
    rw [h.2] at q
    have e : aBk a n ro = -1 := by
      cases n with
      | zero => exact if_neg (by rw [hro]; exact Int.lt_irrefl _)
      | succ n => exact if_neg (by rw [hro]; exact Int.lt_irrefl _)
    exact q.symm.trans e
  · refine Or.inr ⟨h.2.2.2.2.1, h.2.2.2.1, h.2.1, h.2.2.2.2.2, h.2.2.1, ?_⟩
    have q := qE hT
    rw [← h.1] at q
    exact q
theorem Bk_go (hro : (a 87 0).toInt = ro) (h : qBk a ro p bs (n + 1) T) (hp : 0 ≤ p) (hf : f = p + bs) (h2 : qBF a f ro v bs₉) : qBk a ro v bs₉ n T := by
  rcases h with h | h
  · rw [h.1] at hp
    exact absurd hp (by decide)
  · refine Bk_of hro h2 ?_
    have q := qE h.2.2.2.2.2
    have e : aBk a (n + 1) p = aBk a n (aN a (aE a p)) := if_pos (by rw [hro]; exact h.2.1)
    rw [hf, qE h.2.2.1, ← e]
    exact q
theorem Bk_gd (h : qBk a ro p bs n T) (hp : 0 ≤ p) : qGd a (p + bs) ∧ p < ro ∧ p + bs ≤ ro := by
  rcases h with h | h
  · rw [h.1] at hp
    exact absurd hp (by decide)
  · exact ⟨h.2.2.2.2.1, h.2.1, h.2.2.2.1⟩
theorem Bl_n (h : qBk a ro p bs n (aBk a i.toInt.toNat (aN a 0))) (hp : p < 0) : qEq (qBT a i) (-1) := by
  unfold qBT
  rcases h with h | h
  · split
    · rfl
    · exact qE h.2
  · exact absurd h.1 (Int.not_le.mpr hp)
theorem Bl_i (h : i.toInt < 0) : qEq (qBT a i) (-1) := if_pos h
theorem Bl_y (hro : (a 87 0).toInt = ro) (h : qBk a ro p bs n (aBk a i.toInt.toNat (aN a 0))) (hp : 0 ≤ p) (hn : n = 0) (hi : 0 ≤ i.toInt) : qEq (qBT a i) p ∧ qEq bs (aE a p - p) := by
  rcases h with h | h
  · rw [h.1] at hp
    exact absurd hp (by decide)
  · have q := qE h.2.2.2.2.2
    rw [hn] at q
    have e : aBk a 0 p = p := if_pos (by rw [hro]; exact h.2.1)
    refine ⟨?_, ?_⟩
    · unfold qBT
      rw [if_neg (Int.not_lt.mpr hi)]
      exact q.symm.trans e
    · have w := qE h.2.2.1
      exact ab_s w
theorem Bl_3 (h : qEq (qBT a i) p ∧ qEq bs (aE a p - p)) (hp : 0 ≤ p) (h0 : 0 ≤ pa.toInt) (h1 : pa.toInt ≤ 1) (ht : th.toInt = 0) (hv : (pa.toInt = 0 ∧ v = p) ∨ (pa.toInt = 1 ∧ v = bs)) (e : y.toInt = v) : qBl a i pa th y := by
  have q := qE h.1
  refine Or.inr (Or.inr ⟨⟨h0, h1⟩, fun w => ?_, ht, ?_⟩)
  · have w2 := qE w
    rw [q] at w2
    rw [w2] at hp
    exact absurd hp (by decide)
  · rw [q, e]
    exact hv.imp (fun z => ⟨z.1, z.2⟩) (fun z => ⟨z.1, z.2.trans (qE h.2)⟩)
end QBK
theorem lp_259rb_85 {X : Nat × (Nat → Int32)} {P : Option ma_V → (Nat → Nat → Int32) → Prop} {T : Nat} {aa : Nat→Nat→Int32} {ix : Int32} {pa : Int32} {m0 : Nat → Nat → Int32} (h0 : zV m0) (K : ∀ v m₉, zF wr_259 m0 m₉ → zV m₉ → (zW (m₉ 94 7) (m₉ 98) (m₉ 101) (m₉ 102) (m₉ 108)) → (zGW T (m₉ 94 55) (m₉ 109)) → (zGU T (m₉ 94 46) (m₉ 99)) → (zOw (m₉ 99) (m₉ 103) (m₉ 111)) → (zDX (m₉ 94 10) (m₉ 99) (m₉ 112) (m₉ 113) (m₉ 114) (m₉ 94 55) (m₉ 98) (m₉ 101) (m₉ 102) (m₉ 108)) → (zGG (m₉ 94 58) (m₉ 94 56) (m₉ 94 57) (m₉ 106)) → (zHA (m₉ 94 10) (m₉ 94 11) (m₉ 94 13) (m₉ 94 14) (m₉ 94 16) (m₉ 94 61) (m₉ 94 59) (m₉ 94 60) (m₉ 99) (m₉ 102) (m₉ 103) (m₉ 111) (m₉ 117) (m₉ 98) (m₉ 101) (m₉ 108)) → (zRG (m₉ 94 10) (m₉ 94 18) (m₉ 94 64) (m₉ 94 63) (m₉ 99) (m₉ 103) (m₉ 102) (m₉ 116)) → ((m₉ 94 58).toInt = 0 ∨ (m₉ 94 10).toInt = 5) → (qBl aa ix pa (m₉ 94 0) v) → P (some (.inl v)) m₉) : ∀ (n : Nat) (m : Nat → Nat → Int32) (l1 : Int32) (l2 : Int32) (l4 : Int32) (l5 : Int32), (2147483647 - l5.toInt).toNat = n → zF wr_259 m0 m → zV m → (0 ≤ l5.toInt) → (l1.toInt = ix.toInt) → (l2.toInt = pa.toInt) → (0 ≤ pa.toInt) → (pa.toInt ≤ 1) → ((m 94 8).toInt = 1) → (l4.toInt = -1 ∨ (0 ≤ l4.toInt ∧ l4.toInt < (m 94 11).toInt ∧ 1 ≤ (m 94 84).toInt ∧ l4.toInt + (m 94 84).toInt ≤ (m 94 11).toInt)) → (zW (m 94 7) (m 98) (m 101) (m 102) (m 108)) → (zGW T (m 94 55) (m 109)) → (zGU T (m 94 46) (m 99)) → (zOw (m 99) (m 103) (m 111)) → (zDX (m 94 10) (m 99) (m 112) (m 113) (m 114) (m 94 55) (m 98) (m 101) (m 102) (m 108)) → (zGG (m 94 58) (m 94 56) (m 94 57) (m 106)) → (zHA (m 94 10) (m 94 11) (m 94 13) (m 94 14) (m 94 16) (m 94 61) (m 94 59) (m 94 60) (m 99) (m 102) (m 103) (m 111) (m 117) (m 98) (m 101) (m 108)) → (zRG (m 94 10) (m 94 18) (m 94 64) (m 94 63) (m 99) (m 103) (m 102) (m 116)) → ((m 94 58).toInt = 0 ∨ (m 94 10).toInt = 5) → (qRB (m 99) (m 100) (m 98) (m 101) (m 102) (m 103) (m 107) (m 108) (m 109) (m 111) (m 112) (m 113) (m 114) (m 94 55) (m 94 46) (m 94 11) (m 94 12) (m 94 62) (m 94 17) (m 94 9) aa) → (qI aa) → (qBk aa (m 94 11).toInt l4.toInt (m 94 84).toInt (ix.toInt - l5.toInt).toNat (aBk aa ix.toInt.toNat (aN aa 0))) → zm X 2 45 259 85 [(0, .inr (.inr (some 94))), (1, .inl l1), (2, .inl l2), (4, .inl l4), (5, .inl l5)] m P := by
  intro n
  induction n using Nat.strongRecOn with
  | _ n IH =>
    intro m l1 l2 l4 l5 hmu hF hV hi0 hi1 hi2 hi3 hi4 hi5 hi6 r_W r_GW r_GU r_OW r_DX r_GG r_HA r_RGc hi15 r_RB r_QI r_BKi
    refine g_259_85 l1 l2 l4 l5 ?_
    have f1 : 0 ≤ (m 94 8).toInt ∧ (m 94 8).toInt ≤ 1 := rs_94_8 (m := m) hV
    have f2 : 0 ≤ (m 94 11).toInt ∧ (m 94 11).toInt ≤ 1500 := rs_94_11 (m := m) hV
    have f3 : 0 ≤ (m 94 84).toInt ∧ (m 94 84).toInt ≤ 4600 := rs_94_84 (m := m) hV
    have f4 : 0 ≤ (m 94 58).toInt ∧ (m 94 58).toInt ≤ 1 := rs_94_58 (m := m) hV
    have f5 : 0 ≤ (m 94 10).toInt ∧ (m 94 10).toInt ≤ 6 := rs_94_10 (m := m) hV
    have b6 := i_bd l1
    have b7 := i_bd l5
    refine zd (fun (h8 : l1 ≤ l5) => ?_) (fun (h8 : ¬ l1 ≤ l5) => ?_)
    · skip
      have g9 := i_le h8
      have li10 : (0 : Int32).toInt = 0 := rfl
      refine zd (fun (h11 : l1 < (0 : Int32)) => ?_) (fun (h11 : ¬ l1 < (0 : Int32)) => ?_)
      · skip
        have g12 := i_lt h11
        try have bg := Bk_gd r_BKi (by omega)
        have hV13 : zV (ma_u m 94 0 (4 : Int32)) := uf_94_0 hV
        exact K ((0 : Int32)) _ (zF_u hF rfl) hV13 r_W r_GW r_GU r_OW r_DX r_GG r_HA r_RGc (show (m 94 58).toInt = 0 ∨ (m 94 10).toInt = 5 from by omega) (show qBl aa ix pa (4 : Int32) (0 : Int32) from by first | (exact Or.inr (Or.inl ⟨⟨by omega, by omega⟩, Bl_n r_BKi (by omega), (by first | omega | rfl)⟩)) | (exact Or.inr (Or.inl ⟨⟨by omega, by omega⟩, Bl_i (by omega), (by first | omega | rfl)⟩)) | (exact Bl_3 (Bl_y (congrArg Int32.toInt r_RB.2.2.2.2.2.2.2.2.1) r_BKi (by omega) (by omega) (by omega)) (by omega) (by omega) (by omega) (by first | omega | rfl) (Or.inl ⟨by omega, rfl⟩) rfl) | (exact Bl_3 (Bl_y (congrArg Int32.toInt r_RB.2.2.2.2.2.2.2.2.1) r_BKi (by omega) (by omega) (by omega)) (by omega) (by omega) (by omega) (by first | omega | rfl) (Or.inr ⟨by omega, rfl⟩) rfl) | (exfalso; omega; done) | (exfalso; contradiction; done))
      · skip
        have g14 := i_nlt h11
        have b15 := i_bd l4
        refine zd (fun (h16 : (0 : Int32) ≤ l4) => ?_) (fun (h16 : ¬ (0 : Int32) ≤ l4) => ?_)
        · skip
          have g17 := i_le h16
          have b18 := i_bd l2
          refine zd (fun (h19 : l2 = (0 : Int32)) => ?_) (fun (h19 : ¬ l2 = (0 : Int32)) => ?_)
          · skip
            have g20 := i_eq h19
            try have bg := Bk_gd r_BKi (by omega)
            have hV21 : zV (ma_u m 94 0 (0 : Int32)) := uf_94_0 hV
            exact K (l4) _ (zF_u hF rfl) hV21 r_W r_GW r_GU r_OW r_DX r_GG r_HA r_RGc (show (m 94 58).toInt = 0 ∨ (m 94 10).toInt = 5 from by omega) (show qBl aa ix pa (0 : Int32) l4 from by first | (exact Or.inr (Or.inl ⟨⟨by omega, by omega⟩, Bl_n r_BKi (by omega), (by first | omega | rfl)⟩)) | (exact Or.inr (Or.inl ⟨⟨by omega, by omega⟩, Bl_i (by omega), (by first | omega | rfl)⟩)) | (exact Bl_3 (Bl_y (congrArg Int32.toInt r_RB.2.2.2.2.2.2.2.2.1) r_BKi (by omega) (by omega) (by omega)) (by omega) (by omega) (by omega) (by first | omega | rfl) (Or.inl ⟨by omega, rfl⟩) rfl) | (exact Bl_3 (Bl_y (congrArg Int32.toInt r_RB.2.2.2.2.2.2.2.2.1) r_BKi (by omega) (by omega) (by omega)) (by omega) (by omega) (by omega) (by first | omega | rfl) (Or.inr ⟨by omega, rfl⟩) rfl) | (exfalso; omega; done) | (exfalso; contradiction; done))
          · skip
            have g22 := i_ne h19
            try have bg := Bk_gd r_BKi (by omega)
            have hV23 : zV (ma_u m 94 0 (0 : Int32)) := uf_94_0 hV
            exact K ((m 94 84)) _ (zF_u hF rfl) hV23 r_W r_GW r_GU r_OW r_DX r_GG r_HA r_RGc (show (m 94 58).toInt = 0 ∨ (m 94 10).toInt = 5 from by omega) (show qBl aa ix pa (0 : Int32) (m 94 84) from by first | (exact Or.inr (Or.inl ⟨⟨by omega, by omega⟩, Bl_n r_BKi (by omega), (by first | omega | rfl)⟩)) | (exact Or.inr (Or.inl ⟨⟨by omega, by omega⟩, Bl_i (by omega), (by first | omega | rfl)⟩)) | (exact Bl_3 (Bl_y (congrArg Int32.toInt r_RB.2.2.2.2.2.2.2.2.1) r_BKi (by omega) (by omega) (by omega)) (by omega) (by omega) (by omega) (by first | omega | rfl) (Or.inl ⟨by omega, rfl⟩) rfl) | (exact Bl_3 (Bl_y (congrArg Int32.toInt r_RB.2.2.2.2.2.2.2.2.1) r_BKi (by omega) (by omega) (by omega)) (by omega) (by omega) (by omega) (by first | omega | rfl) (Or.inr ⟨by omega, rfl⟩) rfl) | (exfalso; omega; done) | (exfalso; contradiction; done))
        · skip
          have g24 := i_nle h16
          try have bg := Bk_gd r_BKi (by omega)
          have hV25 : zV (ma_u m 94 0 (4 : Int32)) := uf_94_0 hV
          exact K ((0 : Int32)) _ (zF_u hF rfl) hV25 r_W r_GW r_GU r_OW r_DX r_GG r_HA r_RGc (show (m 94 58).toInt = 0 ∨ (m 94 10).toInt = 5 from by omega) (show qBl aa ix pa (4 : Int32) (0 : Int32) from by first | (exact Or.inr (Or.inl ⟨⟨by omega, by omega⟩, Bl_n r_BKi (by omega), (by first | omega | rfl)⟩)) | (exact Or.inr (Or.inl ⟨⟨by omega, by omega⟩, Bl_i (by omega), (by first | omega | rfl)⟩)) | (exact Bl_3 (Bl_y (congrArg Int32.toInt r_RB.2.2.2.2.2.2.2.2.1) r_BKi (by omega) (by omega) (by omega)) (by omega) (by omega) (by omega) (by first | omega | rfl) (Or.inl ⟨by omega, rfl⟩) rfl) | (exact Bl_3 (Bl_y (congrArg Int32.toInt r_RB.2.2.2.2.2.2.2.2.1) r_BKi (by omega) (by omega) (by omega)) (by omega) (by omega) (by omega) (by first | omega | rfl) (Or.inr ⟨by omega, rfl⟩) rfl) | (exfalso; omega; done) | (exfalso; contradiction; done))
    · skip
      have g26 := i_nle h8
      have b27 := i_bd l4
      have li28 : (0 : Int32).toInt = 0 := rfl
      refine zd (fun (h29 : l4 < (0 : Int32)) => ?_) (fun (h29 : ¬ l4 < (0 : Int32)) => ?_)
      · skip
        have g30 := i_lt h29
        refine zd (fun (h31 : l1 < (0 : Int32)) => ?_) (fun (h31 : ¬ l1 < (0 : Int32)) => ?_)
        · skip
          have g32 := i_lt h31
          try have bg := Bk_gd r_BKi (by omega)
          have hV33 : zV (ma_u m 94 0 (4 : Int32)) := uf_94_0 hV
          exact K ((0 : Int32)) _ (zF_u hF rfl) hV33 r_W r_GW r_GU r_OW r_DX r_GG r_HA r_RGc (show (m 94 58).toInt = 0 ∨ (m 94 10).toInt = 5 from by omega) (show qBl aa ix pa (4 : Int32) (0 : Int32) from by first | (exact Or.inr (Or.inl ⟨⟨by omega, by omega⟩, Bl_n r_BKi (by omega), (by first | omega | rfl)⟩)) | (exact Or.inr (Or.inl ⟨⟨by omega, by omega⟩, Bl_i (by omega), (by first | omega | rfl)⟩)) | (exact Bl_3 (Bl_y (congrArg Int32.toInt r_RB.2.2.2.2.2.2.2.2.1) r_BKi (by omega) (by omega) (by omega)) (by omega) (by omega) (by omega) (by first | omega | rfl) (Or.inl ⟨by omega, rfl⟩) rfl) | (exact Bl_3 (Bl_y (congrArg Int32.toInt r_RB.2.2.2.2.2.2.2.2.1) r_BKi (by omega) (by omega) (by omega)) (by omega) (by omega) (by omega) (by first | omega | rfl) (Or.inr ⟨by omega, rfl⟩) rfl) | (exfalso; omega; done) | (exfalso; contradiction; done))
        · skip
          have g34 := i_nlt h31
          refine zd (fun (h35 : (0 : Int32) ≤ l4) => ?_) (fun (h35 : ¬ (0 : Int32) ≤ l4) => ?_)
          · skip
            have g36 := i_le h35
            have b37 := i_bd l2
            refine zd (fun (h38 : l2 = (0 : Int32)) => ?_) (fun (h38 : ¬ l2 = (0 : Int32)) => ?_)
            · skip
              have g39 := i_eq h38
              try have bg := Bk_gd r_BKi (by omega)
              have hV40 : zV (ma_u m 94 0 (0 : Int32)) := uf_94_0 hV
              exact K (l4) _ (zF_u hF rfl) hV40 r_W r_GW r_GU r_OW r_DX r_GG r_HA r_RGc (show (m 94 58).toInt = 0 ∨ (m 94 10).toInt = 5 from by omega) (show qBl aa ix pa (0 : Int32) l4 from by first | (exact Or.inr (Or.inl ⟨⟨by omega, by omega⟩, Bl_n r_BKi (by omega), (by first | omega | rfl)⟩)) | (exact Or.inr (Or.inl ⟨⟨by omega, by omega⟩, Bl_i (by omega), (by first | omega | rfl)⟩)) | (exact Bl_3 (Bl_y (congrArg Int32.toInt r_RB.2.2.2.2.2.2.2.2.1) r_BKi (by omega) (by omega) (by omega)) (by omega) (by omega) (by omega) (by first | omega | rfl) (Or.inl ⟨by omega, rfl⟩) rfl) | (exact Bl_3 (Bl_y (congrArg Int32.toInt r_RB.2.2.2.2.2.2.2.2.1) r_BKi (by omega) (by omega) (by omega)) (by omega) (by omega) (by omega) (by first | omega | rfl) (Or.inr ⟨by omega, rfl⟩) rfl) | (exfalso; omega; done) | (exfalso; contradiction; done))
            · skip
              have g41 := i_ne h38
              try have bg := Bk_gd r_BKi (by omega)
              have hV42 : zV (ma_u m 94 0 (0 : Int32)) := uf_94_0 hV
              exact K ((m 94 84)) _ (zF_u hF rfl) hV42 r_W r_GW r_GU r_OW r_DX r_GG r_HA r_RGc (show (m 94 58).toInt = 0 ∨ (m 94 10).toInt = 5 from by omega) (show qBl aa ix pa (0 : Int32) (m 94 84) from by first | (exact Or.inr (Or.inl ⟨⟨by omega, by omega⟩, Bl_n r_BKi (by omega), (by first | omega | rfl)⟩)) | (exact Or.inr (Or.inl ⟨⟨by omega, by omega⟩, Bl_i (by omega), (by first | omega | rfl)⟩)) | (exact Bl_3 (Bl_y (congrArg Int32.toInt r_RB.2.2.2.2.2.2.2.2.1) r_BKi (by omega) (by omega) (by omega)) (by omega) (by omega) (by omega) (by first | omega | rfl) (Or.inl ⟨by omega, rfl⟩) rfl) | (exact Bl_3 (Bl_y (congrArg Int32.toInt r_RB.2.2.2.2.2.2.2.2.1) r_BKi (by omega) (by omega) (by omega)) (by omega) (by omega) (by omega) (by first | omega | rfl) (Or.inr ⟨by omega, rfl⟩) rfl) | (exfalso; omega; done) | (exfalso; contradiction; done))
          · skip
            have g43 := i_nle h35
            try have bg := Bk_gd r_BKi (by omega)
            have hV44 : zV (ma_u m 94 0 (4 : Int32)) := uf_94_0 hV
            exact K ((0 : Int32)) _ (zF_u hF rfl) hV44 r_W r_GW r_GU r_OW r_DX r_GG r_HA r_RGc (show (m 94 58).toInt = 0 ∨ (m 94 10).toInt = 5 from by omega) (show qBl aa ix pa (4 : Int32) (0 : Int32) from by first | (exact Or.inr (Or.inl ⟨⟨by omega, by omega⟩, Bl_n r_BKi (by omega), (by first | omega | rfl)⟩)) | (exact Or.inr (Or.inl ⟨⟨by omega, by omega⟩, Bl_i (by omega), (by first | omega | rfl)⟩)) | (exact Bl_3 (Bl_y (congrArg Int32.toInt r_RB.2.2.2.2.2.2.2.2.1) r_BKi (by omega) (by omega) (by omega)) (by omega) (by omega) (by omega) (by first | omega | rfl) (Or.inl ⟨by omega, rfl⟩) rfl) | (exact Bl_3 (Bl_y (congrArg Int32.toInt r_RB.2.2.2.2.2.2.2.2.1) r_BKi (by omega) (by omega) (by omega)) (by omega) (by omega) (by omega) (by first | omega | rfl) (Or.inr ⟨by omega, rfl⟩) rfl) | (exfalso; omega; done) | (exfalso; contradiction; done))
      · skip
        have g45 := i_nlt h29
        first | have e46 : (l4 + (m 94 84)).toInt = l4.toInt + (m 94 84).toInt := i_add (by omega) (by omega) | have b47 := i_bd (l4 + (m 94 84))
        try have bg := Bk_gd r_BKi (by omega)
        refine sp_226r (aa := aa) ((l4 + (m 94 84))) ((m 94 11)) hV (show 0 ≤ (l4 + (m 94 84)).toInt ∧ (l4 + (m 94 84)).toInt ≤ (m 94 11).toInt from by omega) (show (m 94 11).toInt = (m 94 11).toInt from by omega) (show qGd aa (l4 + (m 94 84)).toInt from by first | (exact Gd_0 r_QI) | (exact Gd_c (Bk_gd r_BKi (by omega)).1 (by omega)) | (exfalso; omega; done) | (exfalso; contradiction; done)) r_RB r_QI r_OW (fun v2 m1 hV_m1 p0_m1 p1_m1 => zmi_n ?_)
        have p0_m1 : v2.toInt = -1 ∨ ((l4 + (m 94 84)).toInt ≤ v2.toInt ∧ v2.toInt < (m 94 11).toInt ∧ 1 ≤ (m1 94 84).toInt ∧ v2.toInt + (m1 94 84).toInt ≤ (m 94 11).toInt) := p0_m1
        have p1_m1 : qBF aa (l4 + (m 94 84)).toInt (m 94 11).toInt v2.toInt (m1 94 84).toInt := p1_m1
        have f48 : 0 ≤ (m1 94 84).toInt ∧ (m1 94 84).toInt ≤ 4600 := rs_94_84 (m := (zov wr_226 m m1)) hV_m1
        try have bg := Bk_gd r_BKi (by omega)
        have b49 := i_bd l2
        have b50 := i_bd v2
        first | have e51 : (l5 + (1 : Int32)).toInt = l5.toInt + (1) := i_addk rfl (by omega) (by omega) | have b52 := i_bd (l5 + (1 : Int32))
        exact IH (2147483647 - (l5 + (1 : Int32)).toInt).toNat (by omega) _ (l1) (l2) (v2) ((l5 + (1 : Int32))) rfl (zF_zov hF ws_226_259) hV_m1 (by omega) (by omega) (by omega) (by omega) (by omega) (show (m 94 8).toInt = 1 from by omega) (show v2.toInt = -1 ∨ (0 ≤ v2.toInt ∧ v2.toInt < (m 94 11).toInt ∧ 1 ≤ (m1 94 84).toInt ∧ v2.toInt + (m1 94 84).toInt ≤ (m 94 11).toInt) from by omega) r_W r_GW r_GU r_OW r_DX r_GG r_HA r_RGc (show (m 94 58).toInt = 0 ∨ (m 94 10).toInt = 5 from by omega) r_RB r_QI (show qBk aa (m 94 11).toInt v2.toInt (m1 94 84).toInt (ix.toInt - (l5 + (1 : Int32)).toInt).toNat (aBk aa ix.toInt.toNat (aN aa 0)) from by first | (exact Bk_of (congrArg Int32.toInt r_RB.2.2.2.2.2.2.2.2.1) p1_m1 (by rw [show (ix.toInt - (0 : Int32).toInt).toNat = ix.toInt.toNat from by omega]; rfl)) | (have q := r_BKi; rw [show (ix.toInt - l5.toInt).toNat = (ix.toInt - (l5 + (1 : Int32)).toInt).toNat + 1 from by omega] at q; exact Bk_go (congrArg Int32.toInt r_RB.2.2.2.2.2.2.2.2.1) q (by omega) (by omega) p1_m1; done) | (exfalso; omega; done) | (exfalso; contradiction; done))
theorem sp_259rb {X : Nat × (Nat → Int32)} {P : Option ma_V → (Nat → Nat → Int32) → Prop} {T : Nat} {aa : Nat→Nat→Int32} {m : Nat → Nat → Int32} (ix : Int32) (pa : Int32) (hV : zV m) (r_W : zW (m 94 7) (m 98) (m 101) (m 102) (m 108)) (r_GW : zGW T (m 94 55) (m 109)) (r_GU : zGU T (m 94 46) (m 99)) (r_OW : zOw (m 99) (m 103) (m 111)) (r_DX : zDX (m 94 10) (m 99) (m 112) (m 113) (m 114) (m 94 55) (m 98) (m 101) (m 102) (m 108)) (r_GG : zGG (m 94 58) (m 94 56) (m 94 57) (m 106)) (r_HA : zHA (m 94 10) (m 94 11) (m 94 13) (m 94 14) (m 94 16) (m 94 61) (m 94 59) (m 94 60) (m 99) (m 102) (m 103) (m 111) (m 117) (m 98) (m 101) (m 108)) (r_RGc : zRG (m 94 10) (m 94 18) (m 94 64) (m 94 63) (m 99) (m 103) (m 102) (m 116)) (hpre8 : (m 94 58).toInt = 0 ∨ (m 94 10).toInt = 5) (hpre9 : (m 94 8).toInt = 1) (hpre10 : ((m 94 10).toInt = 0 ∨ (m 94 10).toInt = 4 ∨ (m 94 10).toInt = 5)) (r_RB : qRB (m 99) (m 100) (m 98) (m 101) (m 102) (m 103) (m 107) (m 108) (m 109) (m 111) (m 112) (m 113) (m 114) (m 94 55) (m 94 46) (m 94 11) (m 94 12) (m 94 62) (m 94 17) (m 94 9) aa) (r_QI : qI aa) (KZ : ∀ v m₉, zV (zov wr_259 m m₉) → (zW (m 94 7) (m 98) (m 101) (m 102) (m 108)) → (zGW T (m 94 55) (m 109)) → (zGU T (m 94 46) (m 99)) → (zOw (m 99) (m 103) (m 111)) → (zDX (m 94 10) (m 99) (m 112) (m 113) (m 114) (m 94 55) (m 98) (m 101) (m 102) (m 108)) → (zGG (m 94 58) (m 94 56) (m 94 57) (m 106)) → (zHA (m 94 10) (m 94 11) (m 94 13) (m 94 14) (m 94 16) (m 94 61) (m 94 59) (m 94 60) (m 99) (m 102) (m 103) (m 111) (m 117) (m 98) (m 101) (m 108)) → (zRG (m 94 10) (m 94 18) (m 94 64) (m 94 63) (m 99) (m 103) (m 102) (m 116)) → ((m 94 58).toInt = 0 ∨ (m 94 10).toInt = 5) → (qBl aa ix pa (m₉ 94 0) v) → P (some (.inl v)) (zov wr_259 m m₉)) : zm X 2 45 259 0 [(0, .inr (.inr (some 94))), (1, .inl ix), (2, .inl pa)] m P := by
  have K : ∀ v m₉, zF wr_259 m m₉ → zV m₉ → (zW (m₉ 94 7) (m₉ 98) (m₉ 101) (m₉ 102) (m₉ 108)) → (zGW T (m₉ 94 55) (m₉ 109)) → (zGU T (m₉ 94 46) (m₉ 99)) → (zOw (m₉ 99) (m₉ 103) (m₉ 111)) → (zDX (m₉ 94 10) (m₉ 99) (m₉ 112) (m₉ 113) (m₉ 114) (m₉ 94 55) (m₉ 98) (m₉ 101) (m₉ 102) (m₉ 108)) → (zGG (m₉ 94 58) (m₉ 94 56) (m₉ 94 57) (m₉ 106)) → (zHA (m₉ 94 10) (m₉ 94 11) (m₉ 94 13) (m₉ 94 14) (m₉ 94 16) (m₉ 94 61) (m₉ 94 59) (m₉ 94 60) (m₉ 99) (m₉ 102) (m₉ 103) (m₉ 111) (m₉ 117) (m₉ 98) (m₉ 101) (m₉ 108)) → (zRG (m₉ 94 10) (m₉ 94 18) (m₉ 94 64) (m₉ 94 63) (m₉ 99) (m₉ 103) (m₉ 102) (m₉ 116)) → ((m₉ 94 58).toInt = 0 ∨ (m₉ 94 10).toInt = 5) → (qBl aa ix pa (m₉ 94 0) v) → P (some (.inl v)) m₉ := by
    intro v m₉ hf z q0 q1 q2 q3 q4 q5 q6 q7 q8 q9
    have e := zov_eq hf
    rw [e] at z ⊢
    try rw [e] at q0
    try rw [e] at q1
    try rw [e] at q2
    try rw [e] at q3
    try rw [e] at q4
    try rw [e] at q5
    try rw [e] at q6
    try rw [e] at q7
    try rw [e] at q8
    try rw [e] at q9
    exact KZ v m₉ z q0 q1 q2 q3 q4 q5 q6 q7 q8 q9
  refine g_259_0 ix pa ?_
  have f1 : 0 ≤ (m 94 58).toInt ∧ (m 94 58).toInt ≤ 1 := rs_94_58 (m := m) hV
  have f2 : 0 ≤ (m 94 10).toInt ∧ (m 94 10).toInt ≤ 6 := rs_94_10 (m := m) hV
  have f3 : 0 ≤ (m 94 8).toInt ∧ (m 94 8).toInt ≤ 1 := rs_94_8 (m := m) hV
  have li4 : (0 : Int32).toInt = 0 := rfl
  refine zd (fun (h5 : (m 94 10) = (0 : Int32)) => ?_) (fun (h5 : ¬ (m 94 10) = (0 : Int32)) => ?_)
  · skip
    have g6 := i_eq h5
    have b7 := i_bd pa
    refine zd (fun (h8 : pa < (0 : Int32)) => ?_) (fun (h8 : ¬ pa < (0 : Int32)) => ?_)
    · skip
      have g9 := i_lt h8
      have hV10 : zV (ma_u m 94 0 (1 : Int32)) := uf_94_0 hV
      exact K ((0 : Int32)) _ (zF_u zF_rfl rfl) hV10 r_W r_GW r_GU r_OW r_DX r_GG r_HA r_RGc (show (m 94 58).toInt = 0 ∨ (m 94 10).toInt = 5 from by omega) (show qBl aa ix pa (1 : Int32) (0 : Int32) from by first | (exact Or.inl ⟨by omega, (by first | omega | rfl)⟩) | (exfalso; omega; done) | (exfalso; contradiction; done))
    · skip
      have g11 := i_nlt h8
      have li12 : (1 : Int32).toInt = 1 := rfl
      refine zd (fun (h13 : pa ≤ (1 : Int32)) => ?_) (fun (h13 : ¬ pa ≤ (1 : Int32)) => ?_)
      · skip
        have g14 := i_le h13
        refine zd (fun (h15 : (m 94 8) = (0 : Int32)) => ?_) (fun (h15 : ¬ (m 94 8) = (0 : Int32)) => ?_)
        · skip
          have g16 := i_eq h15
          have hV17 : zV (ma_u m 94 0 (2 : Int32)) := uf_94_0 hV
          exact K ((0 : Int32)) _ (zF_u zF_rfl rfl) hV17 r_W r_GW r_GU r_OW r_DX r_GG r_HA r_RGc (show (m 94 58).toInt = 0 ∨ (m 94 10).toInt = 5 from by omega) (show qBl aa ix pa (2 : Int32) (0 : Int32) from by first | (exact Or.inl ⟨by omega, (by first | omega | rfl)⟩) | (exfalso; omega; done) | (exfalso; contradiction; done))
        · skip
          have g18 := i_ne h15
          have f19 : 0 ≤ (m 94 11).toInt ∧ (m 94 11).toInt ≤ 1500 := rs_94_11 (m := m) hV
          have hV20 : zV (ma_u m 94 0 (0 : Int32)) := uf_94_0 hV
          refine sp_226r (aa := aa) ((0 : Int32)) ((m 94 11)) hV20 (show 0 ≤ (0 : Int32).toInt ∧ (0 : Int32).toInt ≤ (m 94 11).toInt from by omega) (show (m 94 11).toInt = (m 94 11).toInt from by omega) (show qGd aa (0 : Int32).toInt from by first | (exact Gd_0 r_QI) | (exfalso; omega; done) | (exfalso; contradiction; done)) r_RB r_QI r_OW (fun v2 m1 hV_m1 p0_m1 p1_m1 => zmi_n ?_)
          have p0_m1 : v2.toInt = -1 ∨ ((0 : Int32).toInt ≤ v2.toInt ∧ v2.toInt < (m 94 11).toInt ∧ 1 ≤ (m1 94 84).toInt ∧ v2.toInt + (m1 94 84).toInt ≤ (m 94 11).toInt) := p0_m1
          have p1_m1 : qBF aa (0 : Int32).toInt (m 94 11).toInt v2.toInt (m1 94 84).toInt := p1_m1
          have f21 : 0 ≤ (m1 94 84).toInt ∧ (m1 94 84).toInt ≤ 4600 := rs_94_84 (m := (zov wr_226 (ma_u m 94 0 (0 : Int32)) m1)) hV_m1
          have b22 := i_bd ix
          have b23 := i_bd v2
          exact lp_259rb_85 (ix := ix) (pa := pa) hV K _ _ (ix) (pa) (v2) ((0 : Int32)) rfl (zF_zov (zF_u zF_rfl rfl) ws_226_259) hV_m1 (by omega) (by omega) (by omega) (by omega) (by omega) (show (m 94 8).toInt = 1 from by omega) (show v2.toInt = -1 ∨ (0 ≤ v2.toInt ∧ v2.toInt < (m 94 11).toInt ∧ 1 ≤ (m1 94 84).toInt ∧ v2.toInt + (m1 94 84).toInt ≤ (m 94 11).toInt) from by omega) r_W r_GW r_GU r_OW r_DX r_GG r_HA r_RGc (show (m 94 58).toInt = 0 ∨ (m 94 10).toInt = 5 from by omega) r_RB r_QI (show qBk aa (m 94 11).toInt v2.toInt (m1 94 84).toInt (ix.toInt - (0 : Int32).toInt).toNat (aBk aa ix.toInt.toNat (aN aa 0)) from by first | (exact Bk_of (congrArg Int32.toInt r_RB.2.2.2.2.2.2.2.2.1) p1_m1 (by rw [show (ix.toInt - (0 : Int32).toInt).toNat = ix.toInt.toNat from by omega]; rfl)) | (have q := r_BKi; rw [show (ix.toInt - l5.toInt).toNat = (ix.toInt - (l5 + (1 : Int32)).toInt).toNat + 1 from by omega] at q; exact Bk_go (congrArg Int32.toInt r_RB.2.2.2.2.2.2.2.2.1) q (by omega) (by omega) p1_m1; done) | (exfalso; omega; done) | (exfalso; contradiction; done))
      · skip
        have g24 := i_nle h13
        have hV25 : zV (ma_u m 94 0 (1 : Int32)) := uf_94_0 hV
        exact K ((0 : Int32)) _ (zF_u zF_rfl rfl) hV25 r_W r_GW r_GU r_OW r_DX r_GG r_HA r_RGc (show (m 94 58).toInt = 0 ∨ (m 94 10).toInt = 5 from by omega) (show qBl aa ix pa (1 : Int32) (0 : Int32) from by first | (exact Or.inl ⟨by omega, (by first | omega | rfl)⟩) | (exfalso; omega; done) | (exfalso; contradiction; done))
  · skip
    have g26 := i_ne h5
    have li27 : (4 : Int32).toInt = 4 := rfl
    refine zd (fun (h28 : (m 94 10) = (4 : Int32)) => ?_) (fun (h28 : ¬ (m 94 10) = (4 : Int32)) => ?_)
    · skip
      have g29 := i_eq h28
      have b30 := i_bd pa
      refine zd (fun (h31 : pa < (0 : Int32)) => ?_) (fun (h31 : ¬ pa < (0 : Int32)) => ?_)
      · skip
        have g32 := i_lt h31
        have hV33 : zV (ma_u m 94 0 (1 : Int32)) := uf_94_0 hV
        exact K ((0 : Int32)) _ (zF_u zF_rfl rfl) hV33 r_W r_GW r_GU r_OW r_DX r_GG r_HA r_RGc (show (m 94 58).toInt = 0 ∨ (m 94 10).toInt = 5 from by omega) (show qBl aa ix pa (1 : Int32) (0 : Int32) from by first | (exact Or.inl ⟨by omega, (by first | omega | rfl)⟩) | (exfalso; omega; done) | (exfalso; contradiction; done))
      · skip
        have g34 := i_nlt h31
        have li35 : (1 : Int32).toInt = 1 := rfl
        refine zd (fun (h36 : pa ≤ (1 : Int32)) => ?_) (fun (h36 : ¬ pa ≤ (1 : Int32)) => ?_)
        · skip
          have g37 := i_le h36
          refine zd (fun (h38 : (m 94 8) = (0 : Int32)) => ?_) (fun (h38 : ¬ (m 94 8) = (0 : Int32)) => ?_)
          · skip
            have g39 := i_eq h38
            have hV40 : zV (ma_u m 94 0 (2 : Int32)) := uf_94_0 hV
            exact K ((0 : Int32)) _ (zF_u zF_rfl rfl) hV40 r_W r_GW r_GU r_OW r_DX r_GG r_HA r_RGc (show (m 94 58).toInt = 0 ∨ (m 94 10).toInt = 5 from by omega) (show qBl aa ix pa (2 : Int32) (0 : Int32) from by first | (exact Or.inl ⟨by omega, (by first | omega | rfl)⟩) | (exfalso; omega; done) | (exfalso; contradiction; done))
          · skip
            have g41 := i_ne h38
            have f42 : 0 ≤ (m 94 11).toInt ∧ (m 94 11).toInt ≤ 1500 := rs_94_11 (m := m) hV
            have hV43 : zV (ma_u m 94 0 (0 : Int32)) := uf_94_0 hV
            refine sp_226r (aa := aa) ((0 : Int32)) ((m 94 11)) hV43 (show 0 ≤ (0 : Int32).toInt ∧ (0 : Int32).toInt ≤ (m 94 11).toInt from by omega) (show (m 94 11).toInt = (m 94 11).toInt from by omega) (show qGd aa (0 : Int32).toInt from by first | (exact Gd_0 r_QI) | (exfalso; omega; done) | (exfalso; contradiction; done)) r_RB r_QI r_OW (fun v4 m3 hV_m3 p0_m3 p1_m3 => zmi_n ?_)
            have p0_m3 : v4.toInt = -1 ∨ ((0 : Int32).toInt ≤ v4.toInt ∧ v4.toInt < (m 94 11).toInt ∧ 1 ≤ (m3 94 84).toInt ∧ v4.toInt + (m3 94 84).toInt ≤ (m 94 11).toInt) := p0_m3
            have p1_m3 : qBF aa (0 : Int32).toInt (m 94 11).toInt v4.toInt (m3 94 84).toInt := p1_m3
            have f44 : 0 ≤ (m3 94 84).toInt ∧ (m3 94 84).toInt ≤ 4600 := rs_94_84 (m := (zov wr_226 (ma_u m 94 0 (0 : Int32)) m3)) hV_m3
            have b45 := i_bd ix
            have b46 := i_bd v4
            exact lp_259rb_85 (ix := ix) (pa := pa) hV K _ _ (ix) (pa) (v4) ((0 : Int32)) rfl (zF_zov (zF_u zF_rfl rfl) ws_226_259) hV_m3 (by omega) (by omega) (by omega) (by omega) (by omega) (show (m 94 8).toInt = 1 from by omega) (show v4.toInt = -1 ∨ (0 ≤ v4.toInt ∧ v4.toInt < (m 94 11).toInt ∧ 1 ≤ (m3 94 84).toInt ∧ v4.toInt + (m3 94 84).toInt ≤ (m 94 11).toInt) from by omega) r_W r_GW r_GU r_OW r_DX r_GG r_HA r_RGc (show (m 94 58).toInt = 0 ∨ (m 94 10).toInt = 5 from by omega) r_RB r_QI (show qBk aa (m 94 11).toInt v4.toInt (m3 94 84).toInt (ix.toInt - (0 : Int32).toInt).toNat (aBk aa ix.toInt.toNat (aN aa 0)) from by first | (exact Bk_of (congrArg Int32.toInt r_RB.2.2.2.2.2.2.2.2.1) p1_m3 (by rw [show (ix.toInt - (0 : Int32).toInt).toNat = ix.toInt.toNat from by omega]; rfl)) | (have q := r_BKi; rw [show (ix.toInt - l5.toInt).toNat = (ix.toInt - (l5 + (1 : Int32)).toInt).toNat + 1 from by omega] at q; exact Bk_go (congrArg Int32.toInt r_RB.2.2.2.2.2.2.2.2.1) q (by omega) (by omega) p1_m3; done) | (exfalso; omega; done) | (exfalso; contradiction; done))
        · skip
          have g47 := i_nle h36
          have hV48 : zV (ma_u m 94 0 (1 : Int32)) := uf_94_0 hV
          exact K ((0 : Int32)) _ (zF_u zF_rfl rfl) hV48 r_W r_GW r_GU r_OW r_DX r_GG r_HA r_RGc (show (m 94 58).toInt = 0 ∨ (m 94 10).toInt = 5 from by omega) (show qBl aa ix pa (1 : Int32) (0 : Int32) from by first | (exact Or.inl ⟨by omega, (by first | omega | rfl)⟩) | (exfalso; omega; done) | (exfalso; contradiction; done))
    · skip
      have g49 := i_ne h28
      have li50 : (5 : Int32).toInt = 5 := rfl
      refine zd (fun (h51 : (m 94 10) = (5 : Int32)) => ?_) (fun (h51 : ¬ (m 94 10) = (5 : Int32)) => ?_)
      · skip
        have g52 := i_eq h51
        have b53 := i_bd pa
        refine zd (fun (h54 : pa < (0 : Int32)) => ?_) (fun (h54 : ¬ pa < (0 : Int32)) => ?_)
        · skip
          have g55 := i_lt h54
          have hV56 : zV (ma_u m 94 0 (1 : Int32)) := uf_94_0 hV
          exact K ((0 : Int32)) _ (zF_u zF_rfl rfl) hV56 r_W r_GW r_GU r_OW r_DX r_GG r_HA r_RGc (show (m 94 58).toInt = 0 ∨ (m 94 10).toInt = 5 from by omega) (show qBl aa ix pa (1 : Int32) (0 : Int32) from by first | (exact Or.inl ⟨by omega, (by first | omega | rfl)⟩) | (exfalso; omega; done) | (exfalso; contradiction; done))
        · skip
          have g57 := i_nlt h54
          have li58 : (1 : Int32).toInt = 1 := rfl
          refine zd (fun (h59 : pa ≤ (1 : Int32)) => ?_) (fun (h59 : ¬ pa ≤ (1 : Int32)) => ?_)
          · skip
            have g60 := i_le h59
            refine zd (fun (h61 : (m 94 8) = (0 : Int32)) => ?_) (fun (h61 : ¬ (m 94 8) = (0 : Int32)) => ?_)
            · skip
              have g62 := i_eq h61
              have hV63 : zV (ma_u m 94 0 (2 : Int32)) := uf_94_0 hV
              exact K ((0 : Int32)) _ (zF_u zF_rfl rfl) hV63 r_W r_GW r_GU r_OW r_DX r_GG r_HA r_RGc (show (m 94 58).toInt = 0 ∨ (m 94 10).toInt = 5 from by omega) (show qBl aa ix pa (2 : Int32) (0 : Int32) from by first | (exact Or.inl ⟨by omega, (by first | omega | rfl)⟩) | (exfalso; omega; done) | (exfalso; contradiction; done))
            · skip
              have g64 := i_ne h61
              have f65 : 0 ≤ (m 94 11).toInt ∧ (m 94 11).toInt ≤ 1500 := rs_94_11 (m := m) hV
              have hV66 : zV (ma_u m 94 0 (0 : Int32)) := uf_94_0 hV
              refine sp_226r (aa := aa) ((0 : Int32)) ((m 94 11)) hV66 (show 0 ≤ (0 : Int32).toInt ∧ (0 : Int32).toInt ≤ (m 94 11).toInt from by omega) (show (m 94 11).toInt = (m 94 11).toInt from by omega) (show qGd aa (0 : Int32).toInt from by first | (exact Gd_0 r_QI) | (exfalso; omega; done) | (exfalso; contradiction; done)) r_RB r_QI r_OW (fun v6 m5 hV_m5 p0_m5 p1_m5 => zmi_n ?_)
              have p0_m5 : v6.toInt = -1 ∨ ((0 : Int32).toInt ≤ v6.toInt ∧ v6.toInt < (m 94 11).toInt ∧ 1 ≤ (m5 94 84).toInt ∧ v6.toInt + (m5 94 84).toInt ≤ (m 94 11).toInt) := p0_m5
              have p1_m5 : qBF aa (0 : Int32).toInt (m 94 11).toInt v6.toInt (m5 94 84).toInt := p1_m5
              have f67 : 0 ≤ (m5 94 84).toInt ∧ (m5 94 84).toInt ≤ 4600 := rs_94_84 (m := (zov wr_226 (ma_u m 94 0 (0 : Int32)) m5)) hV_m5
              have b68 := i_bd ix
              have b69 := i_bd v6
              exact lp_259rb_85 (ix := ix) (pa := pa) hV K _ _ (ix) (pa) (v6) ((0 : Int32)) rfl (zF_zov (zF_u zF_rfl rfl) ws_226_259) hV_m5 (by omega) (by omega) (by omega) (by omega) (by omega) (show (m 94 8).toInt = 1 from by omega) (show v6.toInt = -1 ∨ (0 ≤ v6.toInt ∧ v6.toInt < (m 94 11).toInt ∧ 1 ≤ (m5 94 84).toInt ∧ v6.toInt + (m5 94 84).toInt ≤ (m 94 11).toInt) from by omega) r_W r_GW r_GU r_OW r_DX r_GG r_HA r_RGc (show (m 94 58).toInt = 0 ∨ (m 94 10).toInt = 5 from by omega) r_RB r_QI (show qBk aa (m 94 11).toInt v6.toInt (m5 94 84).toInt (ix.toInt - (0 : Int32).toInt).toNat (aBk aa ix.toInt.toNat (aN aa 0)) from by first | (exact Bk_of (congrArg Int32.toInt r_RB.2.2.2.2.2.2.2.2.1) p1_m5 (by rw [show (ix.toInt - (0 : Int32).toInt).toNat = ix.toInt.toNat from by omega]; rfl)) | (have q := r_BKi; rw [show (ix.toInt - l5.toInt).toNat = (ix.toInt - (l5 + (1 : Int32)).toInt).toNat + 1 from by omega] at q; exact Bk_go (congrArg Int32.toInt r_RB.2.2.2.2.2.2.2.2.1) q (by omega) (by omega) p1_m5; done) | (exfalso; omega; done) | (exfalso; contradiction; done))
          · skip
            have g70 := i_nle h59
            have hV71 : zV (ma_u m 94 0 (1 : Int32)) := uf_94_0 hV
            exact K ((0 : Int32)) _ (zF_u zF_rfl rfl) hV71 r_W r_GW r_GU r_OW r_DX r_GG r_HA r_RGc (show (m 94 58).toInt = 0 ∨ (m 94 10).toInt = 5 from by omega) (show qBl aa ix pa (1 : Int32) (0 : Int32) from by first | (exact Or.inl ⟨by omega, (by first | omega | rfl)⟩) | (exfalso; omega; done) | (exfalso; contradiction; done))
      · skip
        have g72 := i_ne h51
        have b73 := i_bd pa
        refine zd (fun (h74 : pa < (0 : Int32)) => ?_) (fun (h74 : ¬ pa < (0 : Int32)) => ?_)
        · skip
          have g75 := i_lt h74
          have hV76 : zV (ma_u m 94 0 (1 : Int32)) := uf_94_0 hV
          exact K ((0 : Int32)) _ (zF_u zF_rfl rfl) hV76 r_W r_GW r_GU r_OW r_DX r_GG r_HA r_RGc (show (m 94 58).toInt = 0 ∨ (m 94 10).toInt = 5 from by omega) (show qBl aa ix pa (1 : Int32) (0 : Int32) from by first | (exact Or.inl ⟨by omega, (by first | omega | rfl)⟩) | (exfalso; omega; done) | (exfalso; contradiction; done))
        · skip
          have g77 := i_nlt h74
          have li78 : (1 : Int32).toInt = 1 := rfl
          refine zd (fun (h79 : pa ≤ (1 : Int32)) => ?_) (fun (h79 : ¬ pa ≤ (1 : Int32)) => ?_)
          · skip
            have g80 := i_le h79
            refine zd (fun (h81 : (m 94 8) = (0 : Int32)) => ?_) (fun (h81 : ¬ (m 94 8) = (0 : Int32)) => ?_)
            · skip
              have g82 := i_eq h81
              have hV83 : zV (ma_u m 94 0 (2 : Int32)) := uf_94_0 hV
              exact K ((0 : Int32)) _ (zF_u zF_rfl rfl) hV83 r_W r_GW r_GU r_OW r_DX r_GG r_HA r_RGc (show (m 94 58).toInt = 0 ∨ (m 94 10).toInt = 5 from by omega) (show qBl aa ix pa (2 : Int32) (0 : Int32) from by first | (exact Or.inl ⟨by omega, (by first | omega | rfl)⟩) | (exfalso; omega; done) | (exfalso; contradiction; done))
            · skip
              have g84 := i_ne h81
              have hV85 : zV (ma_u m 94 0 (3 : Int32)) := uf_94_0 hV
              exact K ((0 : Int32)) _ (zF_u zF_rfl rfl) hV85 r_W r_GW r_GU r_OW r_DX r_GG r_HA r_RGc (show (m 94 58).toInt = 0 ∨ (m 94 10).toInt = 5 from by omega) (show qBl aa ix pa (3 : Int32) (0 : Int32) from by first | (exact Or.inl ⟨by omega, (by first | omega | rfl)⟩) | (exfalso; omega; done) | (exfalso; contradiction; done))
          · skip
            have g86 := i_nle h79
            have hV87 : zV (ma_u m 94 0 (1 : Int32)) := uf_94_0 hV
            exact K ((0 : Int32)) _ (zF_u zF_rfl rfl) hV87 r_W r_GW r_GU r_OW r_DX r_GG r_HA r_RGc (show (m 94 58).toInt = 0 ∨ (m 94 10).toInt = 5 from by omega) (show qBl aa ix pa (1 : Int32) (0 : Int32) from by first | (exact Or.inl ⟨by omega, (by first | omega | rfl)⟩) | (exfalso; omega; done) | (exfalso; contradiction; done))

/-! from 95.m10 -/
/-! COUNTS, the class (written by wip/tools/gen20k.py) -/
/-! COUNTS: how many refer to one -/
def cSu (f : Nat → Nat) : Nat → Nat
  | 0 => 0
  | n + 1 => cSu f n + f n
def cIs (x : Int32) (n : Nat) : Nat := if x = Int32.ofNat n then 1 else 0
def cRo (a : Nat → Nat → Int32) (n : Nat) : Nat := cSu (fun k => cIs (a 72 k) n) 16
def cWi (a : Nat → Nat → Int32) (n : Nat) : Nat := cSu (fun k => cIs (a 74 k) n) (a 69 5).toInt.toNat
def cOb (a : Nat → Nat → Int32) (m n : Nat) : Nat := cSu (fun i => cIs (aRef a m (Int32.ofNat i)) n) ((a 128 m).toInt - 1).toNat
def cTm (a : Nat → Nat → Int32) (n m : Nat) : Nat := if a 126 m = 0 then 0 else cOb a m n
def cTh (a : Nat → Nat → Int32) (n : Nat) : Nat := cSu (cTm a n) 512
def cRf (a : Nat → Nat → Int32) (n : Nat) : Int := (cRo a n : Int) + (cWi a n : Int) + (a 133 n).toInt + (cTh a n : Int)
/-- places, sizes, bits: what of the heap's shape counting wants -/
def cQI (a : Nat → Nat → Int32) : Prop := (∀ n, xAl a n → 0 ≤ (a 130 n).toInt ∧ (1 ≤ (a 128 n).toInt ∧ (a 128 n).toInt ≤ 61) ∧ (a 130 n).toInt + (a 128 n).toInt ≤ 4500) ∧ qI2 a ∧ qI6 a
/-- no matter of a walk, nor of the collector -/
def zO8 (a b : Nat → Nat → Int32) : Prop := ∀ c k, c ≠ 75 → c ≠ 76 → c ≠ 77 → c ≠ 87 → a c k = b c k
section CA
variable {a b : Nat → Nat → Int32} {x y i j : Int32} {n m k u c : Nat} {f g : Nat → Nat}
theorem cSu_cg : ∀ n, (∀ k, k < n → f k = g k) → cSu f n = cSu g n := by
  intro n
  induction n with
  | zero => intro _; rfl
  | succ n ih =>
    intro h
    show cSu f n + f n = cSu g n + g n
    rw [ih (fun k hk => h k (by omega)), h n (by omega)]
theorem cSu_up {j : Nat} : ∀ n, j < n → (∀ k, k < n → k ≠ j → g k = f k) → cSu g n + f j = cSu f n + g j := by
  intro n
  induction n with
  | zero => intro h; omega
  | succ n ih =>
    intro h e
    show cSu g n + g n + f j = cSu f n + f n + g j
    by_cases w : j = n
    · rw [w, cSu_cg (f := g) (g := f) n (fun k hk => e k (by omega) (by omega))]
      omega
    · have q := ih (by omega) (fun k hk => e k (by omega))
      rw [e n (by omega) (fun z => w z.symm)]
      omega
theorem cSu_le : ∀ n, k < n → f k ≤ cSu f n := by
  intro n
  induction n with
  | zero => intro h; omega
  | succ n ih =>
    intro h
    show f k ≤ cSu f n + f n
    by_cases w : k = n
    · rw [w]; omega
    · have q := ih (by omega)
      omega
theorem cSu_bd {B : Nat} : ∀ n, (∀ k, k < n → f k ≤ B) → cSu f n ≤ n * B := by
  intro n
  induction n with
  | zero => intro _; exact Nat.zero_le _
  | succ n ih =>
    intro h
    show cSu f n + f n ≤ (n + 1) * B
    have h1 := ih (fun k hk => h k (by omega))
    have h2 := h n (by omega)
    rw [Nat.succ_mul]
    omega
theorem cSu_z : ∀ n, (∀ k, k < n → f k = 0) → cSu f n = 0 := by
  intro n
  induction n with
  | zero => intro _; rfl
  | succ n ih =>
    intro h
    show cSu f n + f n = 0
    rw [ih (fun k hk => h k (by omega)), h n (by omega)]
theorem cSu_sh : ∀ n, cSu f (n + 1) = f 0 + cSu (fun k => f (k + 1)) n := by
  intro n
  induction n with
  | zero => show 0 + f 0 = f 0 + 0; omega
  | succ n ih =>
    show cSu f (n + 1) + f (n + 1) = f 0 + (cSu (fun k => f (k + 1)) n + f (n + 1))
    rw [ih]
    omega
theorem cIs_1 (h : x = Int32.ofNat n) : cIs x n = 1 := if_pos h
theorem cIs_0 (h : ¬ x = Int32.ofNat n) : cIs x n = 0 := if_neg h
theorem cIs_le : cIs x n ≤ 1 := by
  unfold cIs
  split <;> omega
theorem cIs_n (h : x.toInt < 0) (hn : n < 512) : cIs x n = 0 := cIs_0 (fun e => by have q := ofN_i hn; rw [e] at h; omega)
theorem cIs_r (h : x.toInt < 0 ∨ 512 ≤ x.toInt) (hn : n < 512) : cIs x n = 0 := cIs_0 (fun e => by have q := ofN_i hn; rw [e] at h; omega)
theorem cIs_y (h0 : 0 ≤ y.toInt) (hn : n < 512) (h : n ≠ y.toNatClampNeg) : cIs y n = 0 := cIs_0 (fun e => by
  have q := ofN_i hn
  have c := tn_cast h0
  rw [← e] at q
  omega)
theorem cIs_s (h0 : 0 ≤ y.toInt) : cIs y y.toNatClampNeg = 1 := cIs_1 (ofN_tn h0).symm
theorem Wi_cg (h2 : b 69 5 = a 69 5) (h3 : b 74 = a 74) : cWi b n = cWi a n := by
  unfold cWi
  rw [h2, h3]
theorem Ro_cg (h : b 72 = a 72) : cRo b n = cRo a n := by
  unfold cRo
  rw [h]
theorem Ob_cg (h : b 128 m = a 128 m) (h2 : ∀ i : Nat, (i : Int) < (a 128 m).toInt - 1 → aRef b m (Int32.ofNat i) = aRef a m (Int32.ofNat i)) : cOb b m n = cOb a m n := by
  unfold cOb
  rw [h]
  exact cSu_cg _ (fun k hk => by rw [h2 k (by omega)])
theorem Tm_cg (h1 : b 126 m = a 126 m) (h : b 128 m = a 128 m) (h2 : a 126 m ≠ 0 → ∀ i : Nat, (i : Int) < (a 128 m).toInt - 1 → aRef b m (Int32.ofNat i) = aRef a m (Int32.ofNat i)) : cTm b n m = cTm a n m := by
  unfold cTm
  rw [h1]
  by_cases z : a 126 m = 0
  · rw [if_pos z, if_pos z]
  · rw [if_neg z, if_neg z, Ob_cg h (h2 z)]
theorem Th_cg (h : ∀ m, m < 512 → cTm b n m = cTm a n m) : cTh b n = cTh a n := cSu_cg 512 h
theorem Rf_cg (h1 : cRo b n = cRo a n) (h2 : cWi b n = cWi a n) (h3 : b 133 n = a 133 n) (h4 : cTh b n = cTh a n) : cRf b n = cRf a n := by
  unfold cRf
  rw [h1, h2, h3, h4]
theorem Th_u (hc : c ≠ 126 ∧ c ≠ 128 ∧ c ≠ 130 ∧ c ≠ 71 ∧ c < 1000) : cTh (ma_u a c k x) n = cTh a n :=
  Th_cg (fun m _ => Tm_cg (congrFun (un (fun z => hc.1 z.symm)) m) (congrFun (un (fun z => hc.2.1 z.symm)) m) (fun _ i _ => rf_cg (un (by omega)) (un (fun z => hc.2.2.1 z.symm)) (un (fun z => hc.2.2.2.1 z.symm))))
theorem Rf_u (hc : c ≠ 126 ∧ c ≠ 128 ∧ c ≠ 130 ∧ c ≠ 71 ∧ c < 1000) (h2 : c ≠ 72 ∧ c ≠ 69 ∧ c ≠ 74 ∧ c ≠ 133) : cRf (ma_u a c k x) n = cRf a n :=
  Rf_cg (Ro_cg (un (by omega))) (Wi_cg (congrFun (un (by omega)) 5) (un (by omega))) (congrFun (un (by omega)) n) (Th_u hc)
theorem Rf_o8 (h : zO8 a b) : cRf a n = cRf b n := by
  have r : ∀ c, c ≠ 75 → c ≠ 76 → c ≠ 77 → c ≠ 87 → a c = b c := fun c h1 h2 h3 h4 => funext (fun k => h c k h1 h2 h3 h4)
  have e74 := r 74 (by decide) (by decide) (by decide) (by decide)
  have e72 := r 72 (by decide) (by decide) (by decide) (by decide)
  have e71 := r 71 (by decide) (by decide) (by decide) (by decide)
  have e69 := r 69 (by decide) (by decide) (by decide) (by decide)
  have e126 := r 126 (by decide) (by decide) (by decide) (by decide)
  have e128 := r 128 (by decide) (by decide) (by decide) (by decide)
  have e130 := r 130 (by decide) (by decide) (by decide) (by decide)
  have e133 := r 133 (by decide) (by decide) (by decide) (by decide)
  exact Rf_cg (Ro_cg e72) (Wi_cg (congrFun e69 5) e74) (congrFun e133 n) (Th_cg (fun m _ => Tm_cg (congrFun e126 m) (congrFun e128 m) (fun _ i _ => rf_cg (r (1000 + m) (by omega) (by omega) (by omega) (by omega)) e130 e71)))
theorem Rf_rt (hi : k < 16) : cRf (ma_u a 72 k x) n + (cIs (a 72 k) n : Int) = cRf a n + (cIs x n : Int) := by
  have e : cSu (fun j => cIs (ma_u a 72 k x 72 j) n) 16 + cIs (a 72 k) n = cSu (fun j => cIs (a 72 j) n) 16 + cIs (ma_u a 72 k x 72 k) n := cSu_up (f := fun j => cIs (a 72 j) n) (g := fun j => cIs (ma_u a 72 k x 72 j) n) 16 hi (fun j _ hj => congrArg (fun q => cIs q n) (mu_ne hj))
  rw [mu_self] at e
  have e1 : cRo (ma_u a 72 k x) n + cIs (a 72 k) n = cRo a n + cIs x n := e
  have e2 : cWi (ma_u a 72 k x) n = cWi a n := Wi_cg (congrFun (un (by decide)) 5) (un (by decide))
  have e3 : ma_u a 72 k x 133 n = a 133 n := congrFun (un (by decide)) n
  have e4 : cTh (ma_u a 72 k x) n = cTh a n := Th_u (by decide)
  unfold cRf
  rw [e2, e3, e4]
  omega
theorem Rf_ho : cRf (ma_u a 133 k x) n = cRf a n + (if n = k then x.toInt - (a 133 k).toInt else 0) := by
  have e1 : cRo (ma_u a 133 k x) n = cRo a n := Ro_cg (un (by decide))
  have e2 : cWi (ma_u a 133 k x) n = cWi a n := Wi_cg (congrFun (un (by decide)) 5) (un (by decide))
  have e4 : cTh (ma_u a 133 k x) n = cTh a n := Th_u (by decide)
  unfold cRf
  rw [e1, e2, e4]
  by_cases w : n = k
  · rw [w, mu_self, if_pos rfl]
    omega
  · rw [mu_ne w, if_neg w]
    omega
theorem Wi_gr (h0 : 0 ≤ (a 69 5).toInt) (h : (a 69 5).toInt < 512) : cWi (aGr a y) n = cWi a n + cIs y n := by
  obtain ⟨g1, g2, g3, _⟩ := gr_5 (y := y) h
  have e1 := i_p1 (i := a 69 5) (by omega)
  have c := tn_cast h0
  unfold cWi
  rw [g1, e1, show ((a 69 5).toInt + 1).toNat = (a 69 5).toNatClampNeg + 1 from by omega, show (a 69 5).toInt.toNat = (a 69 5).toNatClampNeg from by omega]
  show cSu (fun k => cIs (aGr a y 74 k) n) (a 69 5).toNatClampNeg + cIs (aGr a y 74 (a 69 5).toNatClampNeg) n = _
  rw [g2, cSu_cg (f := fun k => cIs (aGr a y 74 k) n) (g := fun k => cIs (a 74 k) n) _ (fun k hk => congrArg (fun q => cIs q n) (g3 k (by omega)))]
theorem Th_gr : cTh (aGr a y) n = cTh a n := Th_cg (fun m _ => Tm_cg (congrFun (gr_r (by decide) (by decide) (by decide) (by decide)) m) (congrFun (gr_r (by decide) (by decide) (by decide) (by decide)) m) (fun _ i _ => gr_ref))
theorem Rf_gr (h0 : 0 ≤ (a 69 5).toInt) (h : (a 69 5).toInt < 512) : cRf (aGr a y) n = cRf a n + (cIs y n : Int) := by
  have e1 : cRo (aGr a y) n = cRo a n := Ro_cg (gr_r (by decide) (by decide) (by decide) (by decide))
  have e2 := Wi_gr (y := y) (n := n) h0 h
  have e3 : aGr a y 133 n = a 133 n := congrFun (gr_r (by decide) (by decide) (by decide) (by decide)) n
  unfold cRf
  rw [e1, e2, e3, Th_gr]
  omega
theorem Rf_gn (h : ¬ (a 69 5).toInt < 512) : cRf (aGr a y) n = cRf a n := by
  have e : aGr a y = ma_u (zUw a y 16) 134 y.toNatClampNeg 0 := if_neg h
  rw [e, Rf_u (by decide) (by decide)]
  have z : ∀ c, c ≠ 73 → zUw a y 16 c = a c := fun c h => funext (fun k => zUw_o h)
  exact Rf_cg (Ro_cg (z 72 (by decide))) (Wi_cg (congrFun (z 69 (by decide)) 5) (z 74 (by decide))) (congrFun (z 133 (by decide)) n) (Th_cg (fun m _ => Tm_cg (congrFun (z 126 (by decide)) m) (congrFun (z 128 (by decide)) m) (fun _ i _ => rf_cg (z _ (by omega)) (z 130 (by decide)) (z 71 (by decide)))))
theorem Rf_tw (h : 0 < (a 69 5).toInt) (h5 : (a 69 5).toInt ≤ 512) : cRf (aTw a) n + (cIs (a 74 0) n : Int) = cRf a n := by
  have e : aTw a = zSh (ma_u a 69 5 (a 69 5 - 1)) ((a 69 5).toInt - 1) := aTw_y h
  have z : ∀ c, c ≠ 74 → c ≠ 69 → aTw a c = a c := fun c h1 h2 => funext (fun k => by
    rw [e]
    show (if c = 74 ∧ (k : Int) < _ then _ else ma_u a 69 5 (a 69 5 - 1) c k) = a c k
    rw [if_neg (fun w => h1 w.1), xu_o (fun w => h2 w.1)])
  have e5 : aTw a 69 5 = a 69 5 - 1 := by
    rw [e]
    show (if 69 = 74 ∧ _ then _ else ma_u a 69 5 (a 69 5 - 1) 69 5) = _
    rw [if_neg (fun w => absurd w.1 (by decide)), xu_s]
  have s5 : (a 69 5 - 1).toInt = (a 69 5).toInt - 1 := i_subk rfl (by omega) (by omega)
  have e74 : ∀ k : Nat, (k : Int) < (a 69 5).toInt - 1 → aTw a 74 k = a 74 (k + 1) := fun k hk => by
    rw [e]
    show (if 74 = 74 ∧ (k : Int) < _ then ma_u a 69 5 (a 69 5 - 1) 74 (k + 1) else _) = _
    rw [if_pos ⟨rfl, hk⟩, xu_o (fun w => absurd w.1 (by decide))]
  have w1 : cWi (aTw a) n + cIs (a 74 0) n = cWi a n := by
    unfold cWi
    rw [e5, s5, show (a 69 5).toInt.toNat = ((a 69 5).toInt - 1).toNat + 1 from by omega, cSu_sh, cSu_cg (f := fun k => cIs (aTw a 74 k) n) (g := fun k => cIs (a 74 (k + 1)) n) _ (fun k hk => congrArg (fun q => cIs q n) (e74 k (by omega)))]
    omega
  have e1 : cRo (aTw a) n = cRo a n := Ro_cg (z 72 (by decide) (by decide))
  have e3 : aTw a 133 n = a 133 n := congrFun (z 133 (by decide) (by decide)) n
  have e4 : cTh (aTw a) n = cTh a n := Th_cg (fun m _ => Tm_cg (congrFun (z 126 (by decide) (by decide)) m) (congrFun (z 128 (by decide) (by decide)) m) (fun _ i _ => rf_cg (z _ (by omega) (by omega)) (z 130 (by decide) (by decide)) (z 71 (by decide) (by decide))))
  unfold cRf
  rw [e1, e3, e4]
  omega
end CA
/-! words of things -/
section CB
variable {a b : Nat → Nat → Int32} {x y i j : Int32} {n m k u c : Nat}
theorem cQ_I (h : qI a) : cQI a := ⟨fun n hn => by
  have q := h.1 n hn
  have r := h.2.2.2.1.2.2.1
  exact ⟨q.1.2, q.2.1, by omega⟩, h.2.1, h.2.2.2.2.2⟩
theorem cwp_i (hI : cQI a) (h : qWp a n i) : (a 130 n + 1 + i).toInt = (a 130 n).toInt + 1 + i.toInt ∧ 0 ≤ (a 130 n + 1 + i).toInt ∧ (a 130 n + 1 + i).toInt < 4500 := by
  have q := hI.1 n h.1
  have w := h.2
  have e1 : (a 130 n + 1).toInt = (a 130 n).toInt + 1 := i_p1 (by omega)
  have e2 : (a 130 n + 1 + i).toInt = (a 130 n + 1).toInt + i.toInt := i_add (by omega) (by omega)
  omega
theorem cwp_ne (hI : cQI a) (h : qWp a n i) (h2 : qWp a u j) (hne : ¬ (u = n ∧ j = i)) : ¬ (a 130 u + 1 + j).toNatClampNeg = (a 130 n + 1 + i).toNatClampNeg := by
  have q := cwp_i hI h
  have q2 := cwp_i hI h2
  have c1 := tn_cast q.2.1
  have c2 := tn_cast q2.2.1
  intro e
  by_cases z : u = n
  · rw [z] at q2 c2 e
    exact hne ⟨z, Int32.toInt_inj.mp (by omega)⟩
  · have d := hI.2.1 u n h2.1 h.1 z
    have a1 := h.2
    have a2 := h2.2
    omega
theorem cwp_rf (hI : cQI a) (h : qWp a u j) : aRef a u j = if a (1000 + u) j.toNatClampNeg ≠ 0 then a 71 (a 130 u + 1 + j).toNatClampNeg else -1 := by
  have q := cwp_i hI h
  unfold aRef
  by_cases z : a (1000 + u) j.toNatClampNeg ≠ 0
  · rw [if_pos z, if_pos ⟨z, q.2.1, q.2.2⟩]
  · rw [if_neg z, if_neg (fun w => z w.1)]
theorem cQ_71 (hI : cQI a) : cQI (ma_u a 71 k x) := by
  obtain ⟨h1, h2, h3⟩ := hI
  refine ⟨?_, ?_, ?_⟩
  · rw [Al_71, un (n := 130) (by decide), un (n := 128) (by decide)]
    exact h1
  · unfold qI2
    rw [Al_71, un (n := 130) (by decide), un (n := 128) (by decide)]
    exact h2
  · intro n hn k₉
    rw [Al_71] at hn
    rw [un (by omega)]
    exact h3 n hn k₉
theorem crf_w (hI : cQI a) (h : qWp a n i) (h2 : qWp a u j) : aRef (ma_u a 71 (a 130 n + 1 + i).toNatClampNeg x) u j = if u = n ∧ j = i then (if a (1000 + n) i.toNatClampNeg ≠ 0 then x else -1) else aRef a u j := by
  rw [cwp_rf (cQ_71 hI) (Wp_71.mpr h2), un (n := 1000 + u) (by omega), un (n := 130) (by decide)]
  by_cases z : u = n ∧ j = i
  · rw [if_pos z, z.1, z.2, xu_s]
  · rw [if_neg z, xu_o (fun w => cwp_ne hI h h2 z w.2), cwp_rf hI h2]
theorem wp_N (hI : cQI a) (hn : xAl a n) (hk : (k : Int) < (a 128 n).toInt - 1) : qWp a n (Int32.ofNat k) := by
  have q := hI.1 n hn
  have e := ofN_s (s := k) (by omega)
  exact ⟨hn, by omega, by omega⟩
theorem ofN_k (h : 0 ≤ i.toInt) : Int32.ofNat i.toInt.toNat = i := by
  have c := tn_cast h
  rw [show i.toInt.toNat = i.toNatClampNeg from by omega]
  exact ofN_tn h
/-- a word that refers is changed -/
theorem Rf_w (hI : cQI a) (h : qWp a m i) (hm : m < 512) (hb : a (1000 + m) i.toNatClampNeg ≠ 0) : cRf (ma_u a 71 (a 130 m + 1 + i).toNatClampNeg x) n + (cIs (aRef a m i) n : Int) = cRf a n + (cIs x n : Int) := by
  have qm := hI.1 m h.1
  have hi := h.2
  have o : ∀ u, u < 512 → u ≠ m → cTm (ma_u a 71 (a 130 m + 1 + i).toNatClampNeg x) n u = cTm a n u := fun u hu w => Tm_cg (congrFun (un (by decide)) u) (congrFun (un (by decide)) u) (fun z k hk => by
    rw [crf_w hI h (wp_N hI ⟨hu, z⟩ hk), if_neg (fun q => w q.1)])
  have t := cSu_up (f := cTm a n) (g := cTm (ma_u a 71 (a 130 m + 1 + i).toNatClampNeg x) n) (j := m) 512 hm (fun u hu w => o u hu w)
  have s : cOb (ma_u a 71 (a 130 m + 1 + i).toNatClampNeg x) m n + cIs (aRef a m i) n = cOb a m n + cIs x n := by
    unfold cOb
    rw [un (n := 128) (by decide)]
    have e : cSu (fun k => cIs (aRef (ma_u a 71 (a 130 m + 1 + i).toNatClampNeg x) m (Int32.ofNat k)) n) ((a 128 m).toInt - 1).toNat + cIs (aRef a m (Int32.ofNat i.toInt.toNat)) n = cSu (fun k => cIs (aRef a m (Int32.ofNat k)) n) ((a 128 m).toInt - 1).toNat + cIs (aRef (ma_u a 71 (a 130 m + 1 + i).toNatClampNeg x) m (Int32.ofNat i.toInt.toNat)) n :=
      cSu_up (f := fun k => cIs (aRef a m (Int32.ofNat k)) n) (g := fun k => cIs (aRef (ma_u a 71 (a 130 m + 1 + i).toNatClampNeg x) m (Int32.ofNat k)) n) (j := i.toInt.toNat) _ (by omega) (fun k hk w => by
        show cIs (aRef (ma_u a 71 _ x) m (Int32.ofNat k)) n = cIs (aRef a m (Int32.ofNat k)) n
        rw [crf_w hI h (wp_N hI h.1 (by omega)), if_neg (fun q => ?_)]
        have e2 := congrArg Int32.toInt q.2
        rw [ofN_s (by omega)] at e2
        omega)
    rw [ofN_k hi.1, crf_w hI h h, if_pos ⟨rfl, rfl⟩, if_pos hb] at e
    exact e
  have t2 : cTm (ma_u a 71 (a 130 m + 1 + i).toNatClampNeg x) n m + cIs (aRef a m i) n = cTm a n m + cIs x n := by
    unfold cTm
    rw [un (n := 126) (by decide), if_neg h.1.2, if_neg h.1.2]
    exact s
  have e1 : cRo (ma_u a 71 (a 130 m + 1 + i).toNatClampNeg x) n = cRo a n := Ro_cg (un (by decide))
  have e2 : cWi (ma_u a 71 (a 130 m + 1 + i).toNatClampNeg x) n = cWi a n := Wi_cg (congrFun (un (by decide)) 5) (un (by decide))
  have e3 : ma_u a 71 (a 130 m + 1 + i).toNatClampNeg x 133 n = a 133 n := congrFun (un (by decide)) n
  unfold cRf
  rw [e1, e2, e3]
  unfold cTh
  omega
/-- a word that does not refer is changed -/
theorem Rf_p (hI : cQI a) (h : qWp a m i) (hb : a (1000 + m) i.toNatClampNeg = 0) : cRf (ma_u a 71 (a 130 m + 1 + i).toNatClampNeg x) n = cRf a n := by
  refine Rf_cg (Ro_cg (un (by decide))) (Wi_cg (congrFun (un (by decide)) 5) (un (by decide))) (congrFun (un (by decide)) n) (Th_cg (fun u hu => Tm_cg (congrFun (un (by decide)) u) (congrFun (un (by decide)) u) (fun z k hk => ?_)))
  rw [crf_w hI h (wp_N hI ⟨hu, z⟩ hk)]
  by_cases q : u = m ∧ Int32.ofNat k = i
  · rw [if_pos q, if_neg (fun w => w hb), q.1, q.2, cwp_rf hI h, if_neg (fun w => w hb)]
  · rw [if_neg q]
theorem rm_al (h0 : 0 ≤ y.toInt) : xAl (aRm a y) n ↔ xAl a n ∧ n ≠ y.toNatClampNeg := by
  unfold xAl
  rw [rm_f (by decide) (by decide)]
  by_cases z : n = y.toNatClampNeg
  · rw [if_pos z]
    exact ⟨fun w => absurd rfl w.2, fun w => absurd z w.2⟩
  · rw [if_neg z]
    exact ⟨fun w => ⟨w, z⟩, fun w => w.1⟩
theorem rm_bit (h : n ≠ y.toNatClampNeg) : aRm a y (1000 + n) k = a (1000 + n) k := by
  rw [rm_hi (by omega)]
  unfold zNo
  rw [if_neg (by omega)]
theorem rm_bt0 : aRm a y (1000 + y.toNatClampNeg) k = 0 := by
  rw [rm_hi (by omega)]
  unfold zNo
  rw [if_pos (Or.inr rfl)]
theorem rm_rw (h : 126 ≤ c) (h1 : c < 1000) (hn : n ≠ y.toNatClampNeg) : aRm a y c n = a c n := by
  rw [rm_f h h1, if_neg hn]
theorem cQ_rm (h0 : 0 ≤ y.toInt) (hI : cQI a) : cQI (aRm a y) := by
  obtain ⟨h1, h2, h3⟩ := hI
  refine ⟨fun n hn => ?_, fun n n₉ hn hn₉ w => ?_, fun n hn k => ?_⟩
  · have q := (rm_al h0).mp hn
    rw [rm_rw (by decide) (by decide) q.2, rm_rw (by decide) (by decide) q.2]
    exact h1 n q.1
  · have q := (rm_al h0).mp hn
    have q₉ := (rm_al h0).mp hn₉
    rw [rm_rw (c := 130) (by decide) (by decide) q.2, rm_rw (c := 128) (by decide) (by decide) q.2, rm_rw (c := 130) (by decide) (by decide) q₉.2, rm_rw (c := 128) (by decide) (by decide) q₉.2]
    exact h2 n n₉ q.1 q₉.1 w
  · by_cases z : n = y.toNatClampNeg
    · rw [z]; exact rm_bt0
    · rw [rm_bit z]
      exact h3 n (fun w => hn ((rm_al h0).mpr ⟨w, z⟩)) k
/-- what another refers to stays when one goes -/
theorem crf_rm (hI : cQI a) (h0 : 0 ≤ y.toInt) (hy : xAl a y.toNatClampNeg) (hu : u ≠ y.toNatClampNeg) (h : qWp a u j) : aRef (aRm a y) u j = aRef a u j := by
  have q := cwp_i hI h
  have cq := tn_cast q.2.1
  have hy1 := hI.1 _ hy
  have es : (a 130 y.toNatClampNeg + a 128 y.toNatClampNeg).toInt = (a 130 y.toNatClampNeg).toInt + (a 128 y.toNatClampNeg).toInt := i_add (by omega) (by omega)
  have em : zMin (a 130 y.toNatClampNeg + a 128 y.toNatClampNeg).toInt = (a 130 y.toNatClampNeg).toInt + (a 128 y.toNatClampNeg).toInt := by
    unfold zMin
    rw [es]
    split <;> omega
  have hp : qWp (aRm a y) u j := ⟨(rm_al h0).mpr ⟨h.1, hu⟩, h.2.1, by rw [rm_rw (by decide) (by decide) hu]; exact h.2.2⟩
  rw [cwp_rf (cQ_rm h0 hI) hp, cwp_rf hI h, rm_bit hu, rm_rw (by decide) (by decide) hu, rm_71, em]
  have d := hI.2.1 u _ h.1 hy hu
  have hj := h.2
  unfold zFr
  rw [if_neg (c := 71 = 71 ∧ (a 130 y.toNatClampNeg).toInt ≤ (((a 130 u + 1 + j).toNatClampNeg : Nat) : Int) ∧ (((a 130 u + 1 + j).toNatClampNeg : Nat) : Int) < (a 130 y.toNatClampNeg).toInt + (a 128 y.toNatClampNeg).toInt) (fun w => by omega)]
theorem Wp_rm (h0 : 0 ≤ y.toInt) : qWp (aRm a y) u j ↔ qWp a u j ∧ u ≠ y.toNatClampNeg := by
  unfold qWp
  rw [rm_al h0]
  constructor
  · rintro ⟨⟨w1, w2⟩, w3⟩
    rw [rm_rw (by decide) (by decide) w2] at w3
    exact ⟨⟨w1, w3⟩, w2⟩
  · rintro ⟨⟨w1, w3⟩, w2⟩
    rw [rm_rw (by decide) (by decide) w2]
    exact ⟨⟨w1, w2⟩, w3⟩
theorem Rf_rm (hI : cQI a) (h0 : 0 ≤ y.toInt) (hy : xAl a y.toNatClampNeg) (hn : n ≠ y.toNatClampNeg) : cRf (aRm a y) n + (cOb a y.toNatClampNeg n : Int) = cRf a n := by
  have o : ∀ u, u < 512 → u ≠ y.toNatClampNeg → cTm (aRm a y) n u = cTm a n u := fun u hu w => Tm_cg (rm_rw (by decide) (by decide) w) (rm_rw (by decide) (by decide) w) (fun z k hk => crf_rm hI h0 hy w (wp_N hI ⟨hu, z⟩ hk))
  have t := cSu_up (f := cTm a n) (g := cTm (aRm a y) n) (j := y.toNatClampNeg) 512 hy.1 (fun u hu w => o u hu w)
  have t1 : cTm (aRm a y) n y.toNatClampNeg = 0 := by
    unfold cTm
    rw [rm_f (by decide) (by decide), if_pos rfl, if_pos rfl]
  have t2 : cTm a n y.toNatClampNeg = cOb a y.toNatClampNeg n := by
    unfold cTm
    rw [if_neg hy.2]
  have e1 : cRo (aRm a y) n = cRo a n := Ro_cg (rm_126 (by decide) (by decide) (by decide) (by decide))
  have e2 : cWi (aRm a y) n = cWi a n := Wi_cg (aRm_o (by decide) ⟨by decide, by decide, by decide, by decide⟩) (rm_126 (by decide) (by decide) (by decide) (by decide))
  have e3 : aRm a y 133 n = a 133 n := rm_rw (by decide) (by decide) hn
  unfold cRf
  rw [e1, e2, e3]
  unfold cTh
  omega
end CB

/-! from 95.m11 -/
/-! COUNTS, the class (written by wip/tools/gen20k.py) -/
/-! COUNTS: those that go, one behind the other -/
def cOk (a : Nat → Nat → Int32) (x : Int32) : Prop := x.toInt < 0 ∨ xAl a x.toNatClampNeg
def cL : List Int32 → Nat → Nat
  | [], _ => 0
  | x :: l, n => cIs x n + cL l n
def cOc : List (List Int32) → Nat → Nat
  | [], _ => 0
  | l :: t, n => cL l n + cOc t n
def cLf (a : Nat → Nat → Int32) (m : Nat) : Nat → Nat → List Int32
  | 0, _ => []
  | k + 1, i => aRef a m (Int32.ofNat i) :: cLf a m k (i + 1)
def cLs (a : Nat → Nat → Int32) (m i : Nat) : List Int32 := cLf a m (((a 128 m).toInt - 1).toNat - i) i
def cFa (a : Nat → Nat → Int32) (st : List (List Int32)) (r : Int32) : (Nat → Nat → Int32) × List (List Int32) :=
  if 0 < cRf a r.toNatClampNeg + (cOc st r.toNatClampNeg : Int) then (a, st) else if a 134 r.toNatClampNeg = 0 then (aRm a r, cLs a r.toNatClampNeg 0 :: st) else (aGr a r, st)
def cSt : (Nat → Nat → Int32) × List (List Int32) → (Nat → Nat → Int32) × List (List Int32)
  | (a, []) => (a, [])
  | (a, [] :: t) => (a, t)
  | (a, (r :: l) :: t) => if r.toInt < 0 then (a, l :: t) else cFa a (l :: t) r
def cIt : Nat → (Nat → Nat → Int32) × List (List Int32) → (Nat → Nat → Int32) × List (List Int32)
  | 0, x => x
  | n + 1, x => cIt n (cSt x)
def cE (x : (Nat → Nat → Int32) × List (List Int32)) (b : Nat → Nat → Int32) : Prop := ∃ n, cIt n x = (b, [])
noncomputable def cEn (x : (Nat → Nat → Int32) × List (List Int32)) : Nat → Nat → Int32 := Classical.epsilon (fun b => cE x b)
/-- one that counts less now -/
noncomputable def cLe (a : Nat → Nat → Int32) (y : Int32) : Nat → Nat → Int32 := qIf (0 ≤ y.toInt ∧ xAl a y.toNatClampNeg) (cEn (cFa a [] y)) a
def cNd (a : Nat → Nat → Int32) : Prop := (∀ k, k < 16 → cOk a (a 72 k)) ∧ (∀ k : Nat, (k : Int) < (a 69 5).toInt → cOk a (a 74 k)) ∧ ∀ u j, qWp a u j → cOk a (aRef a u j)
def cNl (a : Nat → Nat → Int32) (st : List (List Int32)) : Prop := ∀ l, l ∈ st → ∀ x, x ∈ l → cOk a x
def cHd (a : Nat → Nat → Int32) (B : Int) : Prop := ∀ n, xAl a n → 0 ≤ (a 133 n).toInt ∧ (a 133 n).toInt ≤ B
def cLm : List (List Int32) → Nat
  | [] => 0
  | l :: t => l.length + 1 + cLm t
def cMs (a : Nat → Nat → Int32) : Nat := cSu (fun m => if a 126 m = 0 then 0 else (a 128 m).toInt.toNat + 1) 512
def cV (a : Nat → Nat → Int32) (st : List (List Int32)) (B : Int) : Prop := cQI a ∧ cNd a ∧ cNl a st ∧ cHd a B ∧ (0 ≤ (a 69 5).toInt ∧ (a 69 5).toInt ≤ 512) ∧ cLm st + cMs a ≤ 40000
section CR
variable {a b d : Nat → Nat → Int32} {x y i j r : Int32} {n m k u c : Nat} {st t : List (List Int32)} {l : List Int32} {B : Int}
theorem It_nil : ∀ n, cIt n (a, []) = (a, []) := by
  intro n
  induction n with
  | zero => rfl
  | succ n ih => exact ih
theorem It_add : ∀ (n m : Nat) (x : (Nat → Nat → Int32) × List (List Int32)), cIt (n + m) x = cIt m (cIt n x) := by
  intro n
  induction n with
  | zero => intro m x; rw [Nat.zero_add]; rfl
  | succ n ih =>
    intro m x
    rw [Nat.succ_add]
    exact ih m (cSt x)
theorem cE_dt {x : (Nat → Nat → Int32) × List (List Int32)} (h : cE x b) (h2 : cE x d) : b = d := by
  obtain ⟨n, e⟩ := h
  obtain ⟨m, f⟩ := h2
  have e1 : cIt (n + m) x = (b, []) := by rw [It_add, e, It_nil]
  have e2 : cIt (n + m) x = (d, []) := by rw [Nat.add_comm, It_add, f, It_nil]
  exact congrArg Prod.fst (e1.symm.trans e2)
theorem cE_o : cE (a, []) a := ⟨0, rfl⟩
theorem cE_s {x : (Nat → Nat → Int32) × List (List Int32)} (h : cE (cSt x) b) : cE x b := by
  obtain ⟨n, e⟩ := h
  exact ⟨n + 1, e⟩
theorem cEn_e {x : (Nat → Nat → Int32) × List (List Int32)} (h : cE x b) : cEn x = b := cE_dt (Classical.epsilon_spec (p := fun b => cE x b) ⟨b, h⟩) h
theorem cLe_y (h0 : 0 ≤ y.toInt) (hy : xAl a y.toNatClampNeg) (h : cE (cFa a [] y) b) : cLe a y = b := (qIf_y ⟨h0, hy⟩).trans (cEn_e h)
theorem cLe_n (h : ¬ (0 ≤ y.toInt ∧ xAl a y.toNatClampNeg)) : cLe a y = a := qIf_n h
theorem Fa_p (h : 0 < cRf a r.toNatClampNeg + (cOc st r.toNatClampNeg : Int)) : cFa a st r = (a, st) := if_pos h
theorem Fa_g (h : ¬ 0 < cRf a r.toNatClampNeg + (cOc st r.toNatClampNeg : Int)) (h2 : a 134 r.toNatClampNeg ≠ 0) : cFa a st r = (aGr a r, st) := (if_neg h).trans (if_neg h2)
theorem Fa_r (h : ¬ 0 < cRf a r.toNatClampNeg + (cOc st r.toNatClampNeg : Int)) (h2 : a 134 r.toNatClampNeg = 0) : cFa a st r = (aRm a r, cLs a r.toNatClampNeg 0 :: st) := (if_neg h).trans (if_pos h2)
theorem cSt_n (h : r.toInt < 0) : cSt (a, (r :: l) :: t) = (a, l :: t) := if_pos h
theorem cSt_y (h : 0 ≤ r.toInt) : cSt (a, (r :: l) :: t) = cFa a (l :: t) r := if_neg (by omega)
theorem cLf_m : ∀ (k i : Nat), x ∈ cLf a m k i → ∃ j, i ≤ j ∧ j < i + k ∧ x = aRef a m (Int32.ofNat j) := by
  intro k
  induction k with
  | zero => intro i h; exact absurd h (List.not_mem_nil)
  | succ k ih =>
    intro i h
    rcases List.mem_cons.mp h with w | w
    · exact ⟨i, Nat.le_refl _, by omega, w⟩
    · obtain ⟨j, j1, j2, j3⟩ := ih (i + 1) w
      exact ⟨j, by omega, by omega, j3⟩
theorem cLf_c : ∀ (k i : Nat), cL (cLf a m k i) n + cSu (fun i => cIs (aRef a m (Int32.ofNat i)) n) i = cSu (fun i => cIs (aRef a m (Int32.ofNat i)) n) (i + k) := by
  intro k
  induction k with
  | zero => intro i; show 0 + _ = _; rw [Nat.add_zero, Nat.zero_add]
  | succ k ih =>
    intro i
    have q := ih (i + 1)
    have q1 : cSu (fun i => cIs (aRef a m (Int32.ofNat i)) n) (i + 1) = cSu (fun i => cIs (aRef a m (Int32.ofNat i)) n) i + cIs (aRef a m (Int32.ofNat i)) n := rfl
    show cIs (aRef a m (Int32.ofNat i)) n + cL (cLf a m k (i + 1)) n + _ = _
    rw [show i + (k + 1) = i + 1 + k from by omega, ← q, q1]
    omega
theorem cLs_c : cL (cLs a m 0) n = cOb a m n := by
  have q := cLf_c (a := a) (m := m) (n := n) (((a 128 m).toInt - 1).toNat - 0) 0
  rw [Nat.zero_add, Nat.sub_zero] at q
  exact q
theorem cLf_l : ∀ (k i : Nat), (cLf a m k i).length = k := by
  intro k
  induction k with
  | zero => intro i; rfl
  | succ k ih =>
    intro i
    show (cLf a m k (i + 1)).length + 1 = k + 1
    rw [ih (i + 1)]
theorem cLf_cg : ∀ (k i : Nat), (∀ j, i ≤ j → j < i + k → aRef b m (Int32.ofNat j) = aRef a m (Int32.ofNat j)) → cLf b m k i = cLf a m k i := by
  intro k
  induction k with
  | zero => intro i _; rfl
  | succ k ih =>
    intro i h
    show aRef b m (Int32.ofNat i) :: cLf b m k (i + 1) = aRef a m (Int32.ofNat i) :: cLf a m k (i + 1)
    rw [h i (Nat.le_refl _) (by omega), ih (i + 1) (fun j h1 h2 => h j (by omega) (by omega))]
theorem cLs_cg (h1 : b 128 m = a 128 m) (h : ∀ j : Nat, k ≤ j → (j : Int) < (a 128 m).toInt - 1 → aRef b m (Int32.ofNat j) = aRef a m (Int32.ofNat j)) : cLs b m k = cLs a m k := by
  unfold cLs
  rw [h1]
  exact cLf_cg _ _ (fun j h2 h3 => h j h2 (by omega))
theorem cLs_0 (h : ¬ (k : Int) < (a 128 m).toInt - 1) : cLs a m k = [] := by
  unfold cLs
  rw [show ((a 128 m).toInt - 1).toNat - k = 0 from by omega]
  rfl
theorem cLs_s (h : (k : Int) < (a 128 m).toInt - 1) : cLs a m k = aRef a m (Int32.ofNat k) :: cLs a m (k + 1) := by
  unfold cLs
  rw [show ((a 128 m).toInt - 1).toNat - k = (((a 128 m).toInt - 1).toNat - (k + 1)) + 1 from by omega]
  rfl
theorem Ro_ne (h : cRo a n = 0) (hk : k < 16) : ¬ a 72 k = Int32.ofNat n := fun e => by
  have q : cIs (a 72 k) n ≤ cRo a n := cSu_le (f := fun k => cIs (a 72 k) n) 16 hk
  rw [cIs_1 e] at q
  omega
theorem Wi_ne (h : cWi a n = 0) (hk : (k : Int) < (a 69 5).toInt) : ¬ a 74 k = Int32.ofNat n := fun e => by
  have q : cIs (a 74 k) n ≤ cWi a n := cSu_le (f := fun k => cIs (a 74 k) n) (a 69 5).toInt.toNat (by omega)
  rw [cIs_1 e] at q
  omega
theorem Ob_le (h0 : 0 ≤ j.toInt) (h1 : j.toInt < (a 128 u).toInt - 1) : cIs (aRef a u j) n ≤ cOb a u n := by
  have q : cIs (aRef a u (Int32.ofNat j.toInt.toNat)) n ≤ cOb a u n := cSu_le (f := fun i => cIs (aRef a u (Int32.ofNat i)) n) ((a 128 u).toInt - 1).toNat (by omega)
  rw [ofN_k h0] at q
  exact q
theorem Th_ne (h : cTh a n = 0) (hw : qWp a u j) : ¬ aRef a u j = Int32.ofNat n := fun e => by
  have q : cTm a n u ≤ cTh a n := cSu_le (f := cTm a n) 512 hw.1.1
  have q2 : cTm a n u = cOb a u n := if_neg hw.1.2
  have q3 := Ob_le (a := a) (u := u) (n := n) hw.2.1 hw.2.2
  rw [cIs_1 e] at q3
  omega
theorem cL_ne : ∀ l : List Int32, cL l n = 0 → ∀ x, x ∈ l → ¬ x = Int32.ofNat n := by
  intro l
  induction l with
  | nil => intro _ x h; exact absurd h (List.not_mem_nil)
  | cons y l ih =>
    intro h x hx
    have h₉ : cIs y n + cL l n = 0 := h
    rcases List.mem_cons.mp hx with w | w
    · rw [w]
      intro e
      rw [cIs_1 e] at h₉
      omega
    · exact ih (by omega) x w
theorem Oc_ne : ∀ st : List (List Int32), cOc st n = 0 → ∀ l, l ∈ st → ∀ x, x ∈ l → ¬ x = Int32.ofNat n := by
  intro st
  induction st with
  | nil => intro _ l h; exact absurd h (List.not_mem_nil)
  | cons y t ih =>
    intro h l hl
    have h₉ : cL y n + cOc t n = 0 := h
    rcases List.mem_cons.mp hl with w | w
    · rw [w]; exact cL_ne y (by omega)
    · exact ih (by omega) l w
theorem cL_le : ∀ l : List Int32, cL l n ≤ l.length := by
  intro l
  induction l with
  | nil => exact Nat.le_refl _
  | cons y l ih =>
    show cIs y n + cL l n ≤ l.length + 1
    have := cIs_le (x := y) (n := n)
    omega
theorem Oc_le : ∀ st : List (List Int32), cOc st n ≤ cLm st := by
  intro st
  induction st with
  | nil => exact Nat.le_refl _
  | cons y t ih =>
    show cL y n + cOc t n ≤ y.length + 1 + cLm t
    have := cL_le (n := n) y
    omega
theorem Rf_z (hh : 0 ≤ (a 133 n).toInt) (h : ¬ 0 < cRf a n + (cOc st n : Int)) : cRo a n = 0 ∧ cWi a n = 0 ∧ cTh a n = 0 ∧ cOc st n = 0 ∧ (a 133 n).toInt = 0 := by
  unfold cRf at h
  omega
theorem Rf_bd (hV : cV a st B) (hB : B ≤ 1000000) (hn : xAl a n) : 0 ≤ cRf a n + (cOc st n : Int) ∧ cRf a n + (cOc st n : Int) ≤ 1200000 := by
  obtain ⟨q1, _, _, q4, q5, q6⟩ := hV
  have h1 : cRo a n ≤ 16 * 1 := cSu_bd 16 (fun k _ => cIs_le)
  have h2 : cWi a n ≤ (a 69 5).toInt.toNat * 1 := cSu_bd _ (fun k _ => cIs_le)
  have h3 : cTh a n ≤ 512 * 60 := cSu_bd 512 (fun m hm => by
    unfold cTm
    by_cases z : a 126 m = 0
    · rw [if_pos z]; exact Nat.zero_le _
    · rw [if_neg z]
      have w := q1.1 m ⟨hm, z⟩
      have := cSu_bd (f := fun i => cIs (aRef a m (Int32.ofNat i)) n) (B := 1) ((a 128 m).toInt - 1).toNat (fun k _ => cIs_le)
      unfold cOb
      omega)
  have h4 := Oc_le (n := n) st
  have h5 := q4 n hn
  unfold cRf
  omega
theorem cOk_rm (h0 : 0 ≤ y.toInt) (h : cOk a x) (hne : ¬ x = Int32.ofNat y.toNatClampNeg) : cOk (aRm a y) x := by
  rcases h with w | w
  · exact Or.inl w
  · by_cases z : x.toInt < 0
    · exact Or.inl z
    · refine Or.inr ((rm_al h0).mpr ⟨w, fun e => hne ?_⟩)
      rw [← e, ofN_tn (by omega)]
theorem gr_ref' {a : Nat → Nat → Int32} {y : Int32} : aRef (aGr a y) = aRef a := funext (fun _ => funext (fun _ => gr_ref))
theorem gr_al : xAl (aGr a y) = xAl a := by
  funext n
  unfold xAl
  rw [gr_r (by decide) (by decide) (by decide) (by decide)]
theorem cQ_gr (hI : cQI a) : cQI (aGr a y) := by
  obtain ⟨h1, h2, h3⟩ := hI
  refine ⟨?_, ?_, ?_⟩
  · rw [gr_al, gr_r (n := 130) (by decide) (by decide) (by decide) (by decide), gr_r (n := 128) (by decide) (by decide) (by decide) (by decide)]
    exact h1
  · unfold qI2
    rw [gr_al, gr_r (n := 130) (by decide) (by decide) (by decide) (by decide), gr_r (n := 128) (by decide) (by decide) (by decide) (by decide)]
    exact h2
  · intro n hn k
    rw [gr_al] at hn
    rw [gr_r (by omega) (by omega) (by omega) (by omega)]
    exact h3 n hn k
theorem Wp_gr : qWp (aGr a y) u j ↔ qWp a u j := by
  unfold qWp
  rw [gr_al, gr_r (n := 128) (by decide) (by decide) (by decide) (by decide)]
theorem cOk_cg (h : xAl b = xAl a) : cOk b x ↔ cOk a x := by
  unfold cOk
  rw [h]
theorem gr_n5 (h : ¬ (a 69 5).toInt < 512) : aGr a y 69 5 = a 69 5 ∧ aGr a y 74 = a 74 := by
  have e : aGr a y = ma_u (zUw a y 16) 134 y.toNatClampNeg 0 := if_neg h
  refine ⟨?_, funext (fun k => ?_)⟩
  · rw [e, xu_o (by omega), zUw_o (by decide)]
  · rw [e, xu_o (by omega), zUw_o (by decide)]
theorem V_gr (hV : cV a st B) (h0 : 0 ≤ y.toInt) (hy : xAl a y.toNatClampNeg) : cV (aGr a y) st B := by
  obtain ⟨q1, ⟨n1, n2, n3⟩, q3, q4, q5, q6⟩ := hV
  have al := gr_al (a := a) (y := y)
  refine ⟨cQ_gr q1, ⟨fun k hk => ?_, fun k hk => ?_, fun u j h => ?_⟩, fun l hl x hx => (cOk_cg al).mpr (q3 l hl x hx), fun n hn => ?_, ?_, ?_⟩
  · rw [gr_r (by decide) (by decide) (by decide) (by decide), cOk_cg al]
    exact n1 k hk
  · rw [cOk_cg al]
    by_cases w : (a 69 5).toInt < 512
    · obtain ⟨g1, g2, g3, _⟩ := gr_5 (y := y) w
      have e1 := i_p1 (i := a 69 5) (by omega)
      have c := tn_cast q5.1
      by_cases z : k = (a 69 5).toNatClampNeg
      · rw [z, g2]
        exact Or.inr hy
      · rw [g3 k z]
        rw [g1, e1] at hk
        exact n2 k (by omega)
    · have g := gr_n5 (y := y) w
      rw [g.2]
      rw [g.1] at hk
      exact n2 k hk
  · rw [gr_ref, cOk_cg al]
    exact n3 u j (Wp_gr.mp h)
  · rw [al] at hn
    rw [gr_r (by decide) (by decide) (by decide) (by decide)]
    exact q4 n hn
  · by_cases w : (a 69 5).toInt < 512
    · obtain ⟨g1, _⟩ := gr_5 (y := y) w
      have e1 := i_p1 (i := a 69 5) (by omega)
      rw [g1]
      omega
    · rw [(gr_n5 (y := y) w).1]
      exact q5
  · have e : cMs (aGr a y) = cMs a := by
      unfold cMs
      rw [gr_r (n := 126) (by decide) (by decide) (by decide) (by decide), gr_r (n := 128) (by decide) (by decide) (by decide) (by decide)]
    rw [e]
    exact q6
theorem Ms_rm (hI : cQI a) (h0 : 0 ≤ y.toInt) (hy : xAl a y.toNatClampNeg) : cMs (aRm a y) + (a 128 y.toNatClampNeg).toInt.toNat + 1 = cMs a := by
  have t := cSu_up (f := fun m => if a 126 m = 0 then 0 else (a 128 m).toInt.toNat + 1) (g := fun m => if aRm a y 126 m = 0 then 0 else (aRm a y 128 m).toInt.toNat + 1) (j := y.toNatClampNeg) 512 hy.1 (fun u hu w => by
    show (if aRm a y 126 u = 0 then 0 else (aRm a y 128 u).toInt.toNat + 1) = (if a 126 u = 0 then 0 else (a 128 u).toInt.toNat + 1)
    rw [rm_rw (c := 126) (by decide) (by decide) w, rm_rw (c := 128) (by decide) (by decide) w])
  have t1 : (if a 126 y.toNatClampNeg = 0 then 0 else (a 128 y.toNatClampNeg).toInt.toNat + 1) = (a 128 y.toNatClampNeg).toInt.toNat + 1 := if_neg hy.2
  have t2 : (if aRm a y 126 y.toNatClampNeg = 0 then 0 else (aRm a y 128 y.toNatClampNeg).toInt.toNat + 1) = 0 := if_pos (by rw [rm_f (by decide) (by decide), if_pos rfl])
  have t3 : cMs (aRm a y) + (if a 126 y.toNatClampNeg = 0 then 0 else (a 128 y.toNatClampNeg).toInt.toNat + 1) = cMs a + (if aRm a y 126 y.toNatClampNeg = 0 then 0 else (aRm a y 128 y.toNatClampNeg).toInt.toNat + 1) := t
  rw [t1, t2] at t3
  omega
theorem V_rm (hV : cV a st B) (h0 : 0 ≤ y.toInt) (hy : xAl a y.toNatClampNeg) (hz : ¬ 0 < cRf a y.toNatClampNeg + (cOc st y.toNatClampNeg : Int)) : cV (aRm a y) (cLs a y.toNatClampNeg 0 :: st) B ∧ cLm (cLs a y.toNatClampNeg 0 :: st) + cMs (aRm a y) < cLm st + cMs a := by
  obtain ⟨q1, ⟨n1, n2, n3⟩, q3, q4, q5, q6⟩ := hV
  obtain ⟨z1, z2, z3, z4, z5⟩ := Rf_z (q4 _ hy).1 hz
  have ms := Ms_rm q1 h0 hy
  have hs := q1.1 _ hy
  have ll : cLm (cLs a y.toNatClampNeg 0 :: st) = (((a 128 y.toNatClampNeg).toInt - 1).toNat - 0) + 1 + cLm st := congrArg (fun q => q + 1 + cLm st) (cLf_l _ _)
  have lt : cLm (cLs a y.toNatClampNeg 0 :: st) + cMs (aRm a y) < cLm st + cMs a := by omega
  refine ⟨⟨cQ_rm h0 q1, ⟨fun k hk => ?_, fun k hk => ?_, fun u j h => ?_⟩, fun l hl x hx => ?_, fun n hn => ?_, ?_, by omega⟩, lt⟩
  · rw [rm_126 (by decide) (by decide) (by decide) (by decide)]
    exact cOk_rm h0 (n1 k hk) (Ro_ne z1 hk)
  · rw [aRm_o (by decide) ⟨by decide, by decide, by decide, by decide⟩] at hk
    rw [rm_126 (by decide) (by decide) (by decide) (by decide)]
    exact cOk_rm h0 (n2 k hk) (Wi_ne z2 hk)
  · obtain ⟨w, w2⟩ := (Wp_rm h0).mp h
    rw [crf_rm q1 h0 hy w2 w]
    exact cOk_rm h0 (n3 u j w) (Th_ne z3 w)
  · rcases List.mem_cons.mp hl with w | w
    · rw [w] at hx
      obtain ⟨j, j1, j2, j3⟩ := cLf_m _ _ hx
      have wp := wp_N (k := j) q1 hy (by omega)
      rw [j3]
      exact cOk_rm h0 (n3 _ _ wp) (Th_ne z3 wp)
    · exact cOk_rm h0 (q3 l w x hx) (Oc_ne st z4 l w x hx)
  · have w := (rm_al h0).mp hn
    rw [rm_rw (by decide) (by decide) w.2]
    exact q4 n w.1
  · rw [aRm_o (by decide) ⟨by decide, by decide, by decide, by decide⟩]
    exact q5
theorem V_fa (hV : cV a st B) (h0 : 0 ≤ r.toInt) (hr : xAl a r.toNatClampNeg) : cV (cFa a st r).1 (cFa a st r).2 B ∧ cLm (cFa a st r).2 + cMs (cFa a st r).1 ≤ cLm st + cMs a := by
  by_cases w : 0 < cRf a r.toNatClampNeg + (cOc st r.toNatClampNeg : Int)
  · rw [Fa_p w]; exact ⟨hV, Nat.le_refl _⟩
  · by_cases z : a 134 r.toNatClampNeg = 0
    · rw [Fa_r w z]
      have q := V_rm hV h0 hr w
      exact ⟨q.1, Nat.le_of_lt q.2⟩
    · rw [Fa_g w z]
      refine ⟨V_gr hV h0 hr, ?_⟩
      show cLm st + cMs (aGr a r) ≤ _
      unfold cMs
      rw [gr_r (n := 126) (by decide) (by decide) (by decide) (by decide), gr_r (n := 128) (by decide) (by decide) (by decide) (by decide)]
      exact Nat.le_refl _
/-- how many refer, behind it -/
theorem Fr_gr (hV : cV a st B) (h0 : 0 ≤ y.toInt) (h : (a 69 5).toInt < 512) : cRf (aGr a y) n + (cOc st n : Int) = cRf a n + (cOc st n : Int) + (cIs y n : Int) := by
  have q := Rf_gr (y := y) (n := n) hV.2.2.2.2.1.1 h
  omega
theorem Fr_rm (hV : cV a st B) (h0 : 0 ≤ y.toInt) (hy : xAl a y.toNatClampNeg) (hn : n ≠ y.toNatClampNeg) : cRf (aRm a y) n + (cOc (cLs a y.toNatClampNeg 0 :: st) n : Int) = cRf a n + (cOc st n : Int) := by
  have q := Rf_rm hV.1 h0 hy hn
  have e : cOc (cLs a y.toNatClampNeg 0 :: st) n = cOb a y.toNatClampNeg n + cOc st n := congrArg (fun q => q + cOc st n) cLs_c
  rw [e]
  omega
end CR

/-! from 95.m12 -/
/-! COUNTS, the class (written by wip/tools/gen20k.py) -/
/-! COUNTS, the class: those on the stack go last -/
theorem i32_sc (p q r : Int32) : p - q - r = p - r - q := by
  rw [Int32.sub_eq_add_neg (p - q), Int32.sub_eq_add_neg p q, Int32.add_assoc, Int32.add_comm (-q), ← Int32.add_assoc, ← Int32.sub_eq_add_neg, ← Int32.sub_eq_add_neg]
theorem i32_ac (p q r : Int32) : p + q + r = p + r + q := by
  rw [Int32.add_assoc, Int32.add_comm q, ← Int32.add_assoc]
theorem ite_cm {P Q : Prop} [Decidable P] [Decidable Q] {x z : Int32} : (if P then x else if Q then x else z) = (if Q then x else if P then x else z) := by
  by_cases p : P
  · rw [if_pos p]
    by_cases q : Q
    · rw [if_pos q]
    · rw [if_neg q, if_pos p]
  · rw [if_neg p]
    by_cases q : Q
    · rw [if_pos q, if_pos q]
    · rw [if_neg q, if_neg q, if_neg p]
def cRa (a : Nat → Nat → Int32) : List (Int32 × Int32) → Nat → Nat → Int32
  | [] => a
  | q :: t => cRa (aRm a q.1) t
def cZ (a : Nat → Nat → Int32) : List (Int32 × Int32) → List (List Int32)
  | [] => []
  | q :: t => cLs a q.1.toNatClampNeg q.2.toInt.toNat :: cZ a t
def cNi (l : List (Int32 × Int32)) (n : Nat) : Prop := ∀ q, q ∈ l → n ≠ q.1.toNatClampNeg
def cDs : List (Int32 × Int32) → Prop
  | [] => True
  | q :: t => cNi t q.1.toNatClampNeg ∧ cDs t
def cYs (a : Nat → Nat → Int32) (l : List (Int32 × Int32)) : Prop := ∀ q, q ∈ l → 0 ≤ q.1.toInt ∧ xAl a q.1.toNatClampNeg ∧ (0 ≤ q.2.toInt ∧ q.2.toInt ≤ (a 128 q.1.toNatClampNeg).toInt - 1) ∧ ∀ j : Int32, 0 ≤ j.toInt → j.toInt < q.2.toInt → (aRef a q.1.toNatClampNeg j).toInt < 0
/-- the class's heap, its stack and its counts -/
def cC (a : Nat → Nat → Int32) (l : List (Int32 × Int32)) (K : Nat → Int32) (B : Int) : Prop := cQI a ∧ cYs a l ∧ cDs l ∧ cV (cRa a l) (cZ a l) B ∧ ∀ n, xAl (cRa a l) n → K n = Int32.ofInt (cRf (cRa a l) n + (cOc (cZ a l) n : Int))
section CS
variable {a b : Nat → Nat → Int32} {x y i j r : Int32} {n m k u c : Nat} {l t : List (Int32 × Int32)} {q : Int32 × Int32} {K K₉ : Nat → Int32} {B : Int}
theorem rm_co (hc : c < 126) (h1 : c ≠ 71) (h2 : c ≠ 73) (h3 : c ≠ 69) : aRm a y c k = a c k := congrFun (rm_126 hc h1 h2 h3) k
theorem rm_11 : aRm a y 69 11 = a 69 11 + a 128 y.toNatClampNeg := by
  unfold aRm
  rw [xu_s]
theorem rm_cm (hx : 0 ≤ x.toInt) (hy : 0 ≤ y.toInt) (hne : x.toNatClampNeg ≠ y.toNatClampNeg) : aRm (aRm a x) y = aRm (aRm a y) x := by
  funext c k
  have s1 : aRm a x 128 y.toNatClampNeg = a 128 y.toNatClampNeg := rm_rw (by decide) (by decide) (fun w => hne w.symm)
  have s2 : aRm a y 128 x.toNatClampNeg = a 128 x.toNatClampNeg := rm_rw (by decide) (by decide) hne
  have p1 : aRm a x 130 y.toNatClampNeg = a 130 y.toNatClampNeg := rm_rw (by decide) (by decide) (fun w => hne w.symm)
  have p2 : aRm a y 130 x.toNatClampNeg = a 130 x.toNatClampNeg := rm_rw (by decide) (by decide) hne
  by_cases h : 126 ≤ c
  · rw [rm_hi h, rm_hi h]
    unfold zNo
    rw [rm_hi h, rm_hi h]
    unfold zNo
    exact ite_cm
  · by_cases h71 : c = 71
    · rw [h71, rm_71, rm_71, s1, s2, p1, p2]
      unfold zFr
      rw [rm_71, rm_71]
      unfold zFr
      exact ite_cm
    · by_cases h73 : c = 73
      · rw [h73, rm_73, rm_73]
        unfold zUw
        rw [rm_73, rm_73]
        unfold zUw
        by_cases w1 : (k : Int) < 16 ∧ a 73 k = x
        · rw [if_pos (c := 73 = 73 ∧ (k : Int) < 16 ∧ a 73 k = x) ⟨rfl, w1⟩]
          by_cases w2 : (k : Int) < 16 ∧ a 73 k = y
          · exact absurd (w1.2.symm.trans w2.2) (fun e => hne (by rw [e]))
          · rw [if_neg (c := 73 = 73 ∧ (k : Int) < 16 ∧ a 73 k = y) (fun w => w2 w.2), if_pos (c := 73 = 73 ∧ (k : Int) < 16 ∧ a 73 k = x) ⟨rfl, w1⟩]
            split <;> rfl
        · rw [if_neg (c := 73 = 73 ∧ (k : Int) < 16 ∧ a 73 k = x) (fun w => w1 w.2)]
          by_cases w2 : (k : Int) < 16 ∧ a 73 k = y
          · rw [if_pos (c := 73 = 73 ∧ (k : Int) < 16 ∧ a 73 k = y) ⟨rfl, w2⟩]
            split <;> rfl
          · rw [if_neg (c := 73 = 73 ∧ (k : Int) < 16 ∧ a 73 k = y) (fun w => w2 w.2), if_neg (c := 73 = 73 ∧ (k : Int) < 16 ∧ a 73 k = x) (fun w => w1 w.2)]
      · by_cases h69 : c = 69
        · rw [h69]
          by_cases k8 : k = 8
          · rw [k8, rm_8, rm_8, rm_8, rm_8, s1, s2]
            exact i32_sc _ _ _
          · by_cases k11 : k = 11
            · rw [k11, rm_11, rm_11, rm_11, rm_11, s1, s2]
              exact i32_ac _ _ _
            · have o : ∀ (e : Nat → Nat → Int32) (z : Int32), aRm e z 69 k = e 69 k := fun e z => aRm_o (by decide) ⟨by decide, by decide, fun w => k8 w.2, fun w => k11 w.2⟩
              rw [o, o, o, o]
        · rw [rm_co (by omega) h71 h73 h69, rm_co (by omega) h71 h73 h69, rm_co (by omega) h71 h73 h69, rm_co (by omega) h71 h73 h69]
theorem gr_at : aGr a y c k = if c = 73 then zUw a y 16 73 k else if c = 134 ∧ k = y.toNatClampNeg then 0 else if (a 69 5).toInt < 512 ∧ c = 74 ∧ k = (a 69 5).toNatClampNeg then y else if (a 69 5).toInt < 512 ∧ c = 69 ∧ k = 5 then a 69 5 + 1 else a c k := by
  by_cases h : (a 69 5).toInt < 512
  · have e : aGr a y = ma_u (ma_u (ma_u (zUw a y 16) 134 y.toNatClampNeg 0) 74 (a 69 5).toNatClampNeg y) 69 5 (a 69 5 + 1) := if_pos h
    rw [e]
    by_cases h73 : c = 73
    · rw [if_pos h73, h73, xu_o (by omega), xu_o (by omega), xu_o (by omega)]
    · rw [if_neg h73]
      by_cases h134 : c = 134 ∧ k = y.toNatClampNeg
      · rw [if_pos h134, h134.1, h134.2, xu_o (by omega), xu_o (by omega), xu_s]
      · rw [if_neg h134]
        by_cases h74 : c = 74 ∧ k = (a 69 5).toNatClampNeg
        · rw [if_pos ⟨h, h74⟩, h74.1, h74.2, xu_o (by omega), xu_s]
        · rw [if_neg (fun w => h74 w.2)]
          by_cases h69 : c = 69 ∧ k = 5
          · rw [if_pos ⟨h, h69⟩, h69.1, h69.2, xu_s]
          · rw [if_neg (fun w => h69 w.2), xu_o h69, xu_o h74, xu_o h134, zUw_o h73]
  · have e : aGr a y = ma_u (zUw a y 16) 134 y.toNatClampNeg 0 := if_neg h
    rw [e]
    by_cases h73 : c = 73
    · rw [if_pos h73, h73, xu_o (by omega)]
    · rw [if_neg h73]
      by_cases h134 : c = 134 ∧ k = y.toNatClampNeg
      · rw [if_pos h134, h134.1, h134.2, xu_s]
      · rw [if_neg h134, if_neg (fun w => h w.1), if_neg (fun w => h w.1), xu_o h134, zUw_o h73]
theorem gr_rm (hx : 0 ≤ x.toInt) (hy : 0 ≤ y.toInt) (hne : x.toNatClampNeg ≠ y.toNatClampNeg) : aGr (aRm a x) y = aRm (aGr a y) x := by
  funext c k
  have e5 : aRm a x 69 5 = a 69 5 := aRm_o (by decide) ⟨by decide, by decide, by decide, by decide⟩
  have gs : aGr a y 128 x.toNatClampNeg = a 128 x.toNatClampNeg := congrFun (gr_r (by decide) (by decide) (by decide) (by decide)) _
  have gp : aGr a y 130 x.toNatClampNeg = a 130 x.toNatClampNeg := congrFun (gr_r (by decide) (by decide) (by decide) (by decide)) _
  by_cases h73 : c = 73
  · rw [h73, gr_at, if_pos rfl, rm_73]
    unfold zUw
    rw [rm_73, gr_at, if_pos rfl]
    unfold zUw
    by_cases w1 : (k : Int) < 16 ∧ a 73 k = x
    · rw [if_pos (c := 73 = 73 ∧ (k : Int) < 16 ∧ a 73 k = x) ⟨rfl, w1⟩]
      by_cases w2 : (k : Int) < 16 ∧ a 73 k = y
      · exact absurd (w1.2.symm.trans w2.2) (fun e => hne (by rw [e]))
      · rw [if_neg (c := 73 = 73 ∧ (k : Int) < 16 ∧ a 73 k = y) (fun w => w2 w.2), if_pos (c := 73 = 73 ∧ (k : Int) < 16 ∧ a 73 k = x) ⟨rfl, w1⟩]
        split <;> rfl
    · rw [if_neg (c := 73 = 73 ∧ (k : Int) < 16 ∧ a 73 k = x) (fun w => w1 w.2)]
      by_cases w2 : (k : Int) < 16 ∧ a 73 k = y
      · rw [if_pos (c := 73 = 73 ∧ (k : Int) < 16 ∧ a 73 k = y) ⟨rfl, w2⟩]
        split <;> rfl
      · rw [if_neg (c := 73 = 73 ∧ (k : Int) < 16 ∧ a 73 k = y) (fun w => w2 w.2), if_neg (c := 73 = 73 ∧ (k : Int) < 16 ∧ a 73 k = x) (fun w => w1 w.2)]
  · rw [gr_at, if_neg h73, e5]
    by_cases h : 126 ≤ c
    · rw [if_neg (c := (a 69 5).toInt < 512 ∧ c = 74 ∧ k = (a 69 5).toNatClampNeg) (fun w => by omega), if_neg (c := (a 69 5).toInt < 512 ∧ c = 69 ∧ k = 5) (fun w => by omega), rm_hi h, rm_hi h]
      unfold zNo
      rw [gr_at, if_neg h73, if_neg (c := (a 69 5).toInt < 512 ∧ c = 74 ∧ k = (a 69 5).toNatClampNeg) (fun w => by omega), if_neg (c := (a 69 5).toInt < 512 ∧ c = 69 ∧ k = 5) (fun w => by omega)]
      exact ite_cm
    · rw [if_neg (c := c = 134 ∧ k = y.toNatClampNeg) (fun w => by omega)]
      by_cases h71 : c = 71
      · rw [h71, if_neg (by omega), if_neg (by omega), rm_71, rm_71, gs, gp]
        unfold zFr
        rw [show aGr a y 71 k = a 71 k from congrFun (gr_r (by decide) (by decide) (by decide) (by decide)) k]
      · by_cases h69 : c = 69
        · rw [h69]
          by_cases k8 : k = 8
          · rw [k8, if_neg (by omega), if_neg (by omega), rm_8, rm_8, gs, gr_at, if_neg (by decide), if_neg (by omega), if_neg (by omega), if_neg (by omega)]
          · by_cases k11 : k = 11
            · rw [k11, if_neg (by omega), if_neg (by omega), rm_11, rm_11, gs, gr_at, if_neg (by decide), if_neg (by omega), if_neg (by omega), if_neg (by omega)]
            · have o : ∀ (e : Nat → Nat → Int32) (z : Int32), aRm e z 69 k = e 69 k := fun e z => aRm_o (by decide) ⟨by decide, by decide, fun w => k8 w.2, fun w => k11 w.2⟩
              rw [o, o, gr_at, if_neg (c := (69 : Nat) = 73) (by decide), if_neg (c := (69 : Nat) = 134 ∧ k = y.toNatClampNeg) (fun w => by omega)]
        · rw [rm_co (by omega) h71 h73 h69, rm_co (by omega) h71 h73 h69, gr_at, if_neg h73, if_neg (c := c = 134 ∧ k = y.toNatClampNeg) (fun w => by omega)]
theorem rm_w (hI : cQI a) (h : qWp a m i) (h0 : 0 ≤ y.toInt) (hm : m = y.toNatClampNeg) : aRm (ma_u a 71 (a 130 m + 1 + i).toNatClampNeg x) y = aRm a y := by
  have q := cwp_i hI h
  have cq := tn_cast q.2.1
  have hy1 := hI.1 _ h.1
  have hi := h.2
  rw [hm] at q cq hy1 hi ⊢
  have es : (a 130 y.toNatClampNeg + a 128 y.toNatClampNeg).toInt = (a 130 y.toNatClampNeg).toInt + (a 128 y.toNatClampNeg).toInt := i_add (by omega) (by omega)
  have em : zMin (a 130 y.toNatClampNeg + a 128 y.toNatClampNeg).toInt = (a 130 y.toNatClampNeg).toInt + (a 128 y.toNatClampNeg).toInt := by
    unfold zMin
    rw [es]
    split <;> omega
  funext c k
  by_cases h : 126 ≤ c
  · rw [rm_hi h, rm_hi h]
    unfold zNo
    rw [un (by omega)]
  · by_cases h71 : c = 71
    · rw [h71, rm_71, rm_71, un (n := 130) (by decide), un (n := 128) (by decide), em]
      unfold zFr
      by_cases z : (71 : Nat) = 71 ∧ (a 130 y.toNatClampNeg).toInt ≤ (k : Int) ∧ (k : Int) < (a 130 y.toNatClampNeg).toInt + (a 128 y.toNatClampNeg).toInt
      · rw [if_pos z, if_pos z]
      · rw [if_neg z, if_neg z, xu_o (fun w => z ⟨rfl, by omega, by omega⟩)]
    · by_cases h73 : c = 73
      · rw [h73, rm_73, rm_73]
        unfold zUw
        rw [un (n := 73) (by decide)]
      · by_cases h69 : c = 69
        · rw [h69]
          by_cases k8 : k = 8
          · rw [k8, rm_8, rm_8, un (n := 69) (by decide), un (n := 128) (by decide)]
          · by_cases k11 : k = 11
            · rw [k11, rm_11, rm_11, un (n := 69) (by decide), un (n := 128) (by decide)]
            · have o : ∀ (e : Nat → Nat → Int32) (z : Int32), aRm e z 69 k = e 69 k := fun e z => aRm_o (by decide) ⟨by decide, by decide, fun w => k8 w.2, fun w => k11 w.2⟩
              rw [o, o, un (n := 69) (by decide)]
        · rw [rm_co (by omega) h71 h73 h69, rm_co (by omega) h71 h73 h69, un h71]
theorem Ra_rm : ∀ (l : List (Int32 × Int32)) (a : Nat → Nat → Int32), (∀ q, q ∈ l → 0 ≤ q.1.toInt) → 0 ≤ y.toInt → cNi l y.toNatClampNeg → aRm (cRa a l) y = cRa (aRm a y) l := by
  intro l
  induction l with
  | nil => intro a _ _ _; rfl
  | cons q t ih =>
    intro a h hy hn
    show aRm (cRa (aRm a q.1) t) y = cRa (aRm (aRm a y) q.1) t
    rw [ih (aRm a q.1) (fun p hp => h p (List.mem_cons_of_mem _ hp)) hy (fun p hp => hn p (List.mem_cons_of_mem _ hp)), rm_cm (h q List.mem_cons_self) hy (fun e => hn q List.mem_cons_self e.symm)]
theorem Ra_gr : ∀ (l : List (Int32 × Int32)) (a : Nat → Nat → Int32), (∀ q, q ∈ l → 0 ≤ q.1.toInt) → 0 ≤ y.toInt → cNi l y.toNatClampNeg → aGr (cRa a l) y = cRa (aGr a y) l := by
  intro l
  induction l with
  | nil => intro a _ _ _; rfl
  | cons q t ih =>
    intro a h hy hn
    show aGr (cRa (aRm a q.1) t) y = cRa (aRm (aGr a y) q.1) t
    rw [ih (aRm a q.1) (fun p hp => h p (List.mem_cons_of_mem _ hp)) hy (fun p hp => hn p (List.mem_cons_of_mem _ hp)), gr_rm (h q List.mem_cons_self) hy (fun e => hn q List.mem_cons_self e.symm)]
theorem Ra_rw (h : 126 ≤ c) (h1 : c < 1000) : ∀ (l : List (Int32 × Int32)) (a : Nat → Nat → Int32), cNi l n → cRa a l c n = a c n := by
  intro l
  induction l with
  | nil => intro a _; rfl
  | cons q t ih =>
    intro a hn
    show cRa (aRm a q.1) t c n = a c n
    rw [ih _ (fun p hp => hn p (List.mem_cons_of_mem _ hp)), rm_rw h h1 (hn q List.mem_cons_self)]
theorem Ra_al : ∀ (l : List (Int32 × Int32)) (a : Nat → Nat → Int32), (∀ q, q ∈ l → 0 ≤ q.1.toInt) → (xAl (cRa a l) n ↔ xAl a n ∧ cNi l n) := by
  intro l
  induction l with
  | nil => intro a _; exact ⟨fun w => ⟨w, fun q h => absurd h (List.not_mem_nil)⟩, fun w => w.1⟩
  | cons q t ih =>
    intro a h
    show xAl (cRa (aRm a q.1) t) n ↔ _
    rw [ih (aRm a q.1) (fun p hp => h p (List.mem_cons_of_mem _ hp)), rm_al (h q List.mem_cons_self)]
    constructor
    · rintro ⟨⟨w1, w2⟩, w3⟩
      refine ⟨w1, fun p hp => ?_⟩
      rcases List.mem_cons.mp hp with e | e
      · rw [e]; exact w2
      · exact w3 p e
    · rintro ⟨w1, w3⟩
      exact ⟨⟨w1, w3 q List.mem_cons_self⟩, fun p hp => w3 p (List.mem_cons_of_mem _ hp)⟩
theorem Ra_rf : ∀ (l : List (Int32 × Int32)) (a : Nat → Nat → Int32), cQI a → (∀ q, q ∈ l → 0 ≤ q.1.toInt ∧ xAl a q.1.toNatClampNeg) → cDs l → cNi l u → qWp a u j → aRef (cRa a l) u j = aRef a u j := by
  intro l
  induction l with
  | nil => intro a _ _ _ _ _; rfl
  | cons q t ih =>
    intro a hI h hd hn hw
    have h0 := h q List.mem_cons_self
    have hu := hn q List.mem_cons_self
    show aRef (cRa (aRm a q.1) t) u j = _
    rw [ih (aRm a q.1) (cQ_rm h0.1 hI) (fun p hp => ⟨(h p (List.mem_cons_of_mem _ hp)).1, (rm_al h0.1).mpr ⟨(h p (List.mem_cons_of_mem _ hp)).2, fun e => hd.1 p hp e.symm⟩⟩) hd.2 (fun p hp => hn p (List.mem_cons_of_mem _ hp)) ((Wp_rm h0.1).mpr ⟨hw, hu⟩), crf_rm hI h0.1 h0.2 hu hw]
theorem Ra_5 : ∀ (l : List (Int32 × Int32)) (a : Nat → Nat → Int32), cRa a l 69 5 = a 69 5 := by
  intro l
  induction l with
  | nil => intro a; rfl
  | cons q t ih =>
    intro a
    show cRa (aRm a q.1) t 69 5 = a 69 5
    rw [ih, aRm_o (by decide) ⟨by decide, by decide, by decide, by decide⟩]
theorem Z_cg : ∀ (l : List (Int32 × Int32)), (∀ q, q ∈ l → cLs b q.1.toNatClampNeg q.2.toInt.toNat = cLs a q.1.toNatClampNeg q.2.toInt.toNat) → cZ b l = cZ a l := by
  intro l
  induction l with
  | nil => intro _; rfl
  | cons q t ih =>
    intro h
    show cLs b q.1.toNatClampNeg q.2.toInt.toNat :: cZ b t = cLs a q.1.toNatClampNeg q.2.toInt.toNat :: cZ a t
    rw [h q List.mem_cons_self, ih (fun p hp => h p (List.mem_cons_of_mem _ hp))]
/-- the last one goes -/
theorem C_pop (h : cC a ((y, i) :: t) K B) (hi : ¬ i.toInt < (a 128 y.toNatClampNeg).toInt - 1) (hK : ∀ n, xAl a n → n ≠ y.toNatClampNeg → K₉ n = K n - Int32.ofNat (cOb a y.toNatClampNeg n)) : cC (aRm a y) t K₉ B ∧ cSt (cRa a ((y, i) :: t), cZ a ((y, i) :: t)) = (cRa (aRm a y) t, cZ (aRm a y) t) ∧ cLm (cZ (aRm a y) t) + cMs (cRa (aRm a y) t) < cLm (cZ a ((y, i) :: t)) + cMs (cRa a ((y, i) :: t)) := by
  obtain ⟨hI, hY, hd, hV, hk⟩ := h
  have hy4 : 0 ≤ y.toInt ∧ xAl a y.toNatClampNeg ∧ (0 ≤ i.toInt ∧ i.toInt ≤ (a 128 y.toNatClampNeg).toInt - 1) ∧ ∀ j : Int32, 0 ≤ j.toInt → j.toInt < i.toInt → (aRef a y.toNatClampNeg j).toInt < 0 := hY (y, i) List.mem_cons_self
  obtain ⟨y0, ya, yi, yr⟩ := hy4
  have hI₉ := cQ_rm y0 hI
  have hz : cLs a y.toNatClampNeg i.toInt.toNat = [] := cLs_0 (by have := yi.1; omega)
  have e0 : cZ a ((y, i) :: t) = [] :: cZ a t := congrArg (fun q => q :: cZ a t) hz
  have hc : ∀ q, q ∈ t → cLs (aRm a y) q.1.toNatClampNeg q.2.toInt.toNat = cLs a q.1.toNatClampNeg q.2.toInt.toNat := fun q hq => by
    have w := hY q (List.mem_cons_of_mem _ hq)
    have ne : q.1.toNatClampNeg ≠ y.toNatClampNeg := fun e => hd.1 q hq e.symm
    exact cLs_cg (rm_rw (by decide) (by decide) ne) (fun j _ hj => crf_rm hI y0 ya ne (wp_N hI w.2.1 hj))
  have e1 : cZ (aRm a y) t = cZ a t := Z_cg t hc
  have e2 : cRa a ((y, i) :: t) = cRa (aRm a y) t := rfl
  rw [e0, e2] at hV hk
  have ob : ∀ n, n < 512 → cOb a y.toNatClampNeg n = 0 := fun n hn => cSu_z _ (fun k hk => by
    have q := hI.1 _ ya
    have e := ofN_s (s := k) (by omega)
    exact cIs_n (yr (Int32.ofNat k) (by omega) (by show (Int32.ofNat k).toInt < i.toInt; omega)) hn)
  rw [e0, e2, e1]
  refine ⟨⟨hI₉, fun q hq => ?_, hd.2, ?_, fun n hn => ?_⟩, rfl, ?_⟩
  · have w := hY q (List.mem_cons_of_mem _ hq)
    have ne : q.1.toNatClampNeg ≠ y.toNatClampNeg := fun e => hd.1 q hq e.symm
    refine ⟨w.1, (rm_al y0).mpr ⟨w.2.1, ne⟩, ?_, fun j j0 j1 => ?_⟩
    · rw [rm_rw (by decide) (by decide) ne]; exact w.2.2.1
    · have w3 := w.2.2.1
      rw [crf_rm hI y0 ya ne ⟨w.2.1, j0, by omega⟩]
      exact w.2.2.2 j j0 j1
  · rw [e1]
    obtain ⟨v1, v2, v3, v4, v5, v6⟩ := hV
    refine ⟨v1, v2, fun l hl => v3 l (List.mem_cons_of_mem _ hl), v4, v5, ?_⟩
    have : cLm ([] :: cZ a t) = 0 + 1 + cLm (cZ a t) := rfl
    omega
  · rw [e1]
    have q := hk n hn
    have w := (Ra_al t (aRm a y) (fun q hq => (hY q (List.mem_cons_of_mem _ hq)).1)).mp hn
    have w2 := (rm_al y0).mp w.1
    rw [hK n w2.1 w2.2, ob n w2.1.1, show Int32.ofNat 0 = 0 from rfl, Int32.sub_zero, q]
    have : cOc ([] :: cZ a t) n = 0 + cOc (cZ a t) n := rfl
    rw [this, Nat.zero_add]
  · have : cLm ([] :: cZ a t) = 0 + 1 + cLm (cZ a t) := rfl
    omega
end CS
/-! COUNTS, the class: a word is dropped, one falls -/
section CT
variable {a b : Nat → Nat → Int32} {x y i j r : Int32} {n m k u c : Nat} {l t : List (Int32 × Int32)} {q : Int32 × Int32} {K K₉ : Nat → Int32} {B : Int}
theorem V_tl {st : List (List Int32)} {l0 : List Int32} (h : cV a ((r :: l0) :: st) B) : cV a (l0 :: st) B := by
  obtain ⟨v1, v2, v3, v4, v5, v6⟩ := h
  refine ⟨v1, v2, fun l hl x hx => ?_, v4, v5, ?_⟩
  · rcases List.mem_cons.mp hl with e | e
    · rw [e] at hx
      exact v3 (r :: l0) List.mem_cons_self x (List.mem_cons_of_mem _ hx)
    · exact v3 l (List.mem_cons_of_mem _ e) x hx
  · have e1 : cLm ((r :: l0) :: st) = l0.length + 1 + 1 + cLm st := rfl
    have e2 : cLm (l0 :: st) = l0.length + 1 + cLm st := rfl
    omega
theorem Oc_tl {st : List (List Int32)} {l0 : List Int32} : cOc ((r :: l0) :: st) n = cIs r n + cOc (l0 :: st) n := Nat.add_assoc _ _ _
/-- a word that does not refer is passed over -/
theorem C_d0 (h : cC a ((y, i) :: t) K B) (hi : i.toInt < (a 128 y.toNatClampNeg).toInt - 1) (hb : a (1000 + y.toNatClampNeg) i.toNatClampNeg = 0) : cC a ((y, i + 1) :: t) K B ∧ cSt (cRa a ((y, i) :: t), cZ a ((y, i) :: t)) = (cRa a ((y, i + 1) :: t), cZ a ((y, i + 1) :: t)) ∧ cLm (cZ a ((y, i + 1) :: t)) + cMs (cRa a ((y, i + 1) :: t)) < cLm (cZ a ((y, i) :: t)) + cMs (cRa a ((y, i) :: t)) := by
  obtain ⟨hI, hY, hd, hV, hk⟩ := h
  have hy4 : 0 ≤ y.toInt ∧ xAl a y.toNatClampNeg ∧ (0 ≤ i.toInt ∧ i.toInt ≤ (a 128 y.toNatClampNeg).toInt - 1) ∧ ∀ j : Int32, 0 ≤ j.toInt → j.toInt < i.toInt → (aRef a y.toNatClampNeg j).toInt < 0 := hY (y, i) List.mem_cons_self
  obtain ⟨y0, ya, yi, yr⟩ := hy4
  have yi1 : 0 ≤ i.toInt := yi.1
  have qs := hI.1 _ ya
  have e1 := i_p1 (i := i) (by omega)
  have hr : aRef a y.toNatClampNeg i = -1 := aRef_no (fun w => w.1 hb)
  have hs : cLs a y.toNatClampNeg i.toInt.toNat = (-1) :: cLs a y.toNatClampNeg (i + 1).toInt.toNat := by
    rw [cLs_s (k := i.toInt.toNat) (by omega), ofN_k yi1, hr, show (i + 1).toInt.toNat = i.toInt.toNat + 1 from by omega]
  have e0 : cZ a ((y, i) :: t) = ((-1) :: cLs a y.toNatClampNeg (i + 1).toInt.toNat) :: cZ a t := congrArg (fun q => q :: cZ a t) hs
  have e2 : cZ a ((y, i + 1) :: t) = cLs a y.toNatClampNeg (i + 1).toInt.toNat :: cZ a t := rfl
  have e3 : cRa a ((y, i + 1) :: t) = cRa a ((y, i) :: t) := rfl
  rw [e0] at hV hk
  rw [e0, e2, e3]
  refine ⟨⟨hI, fun q hq => ?_, hd, ?_, fun n hn => ?_⟩, cSt_n (by decide), ?_⟩
  · rcases List.mem_cons.mp hq with e | e
    · rw [e]
      refine ⟨y0, ya, ⟨by show 0 ≤ (i + 1).toInt; omega, by show (i + 1).toInt ≤ (a 128 y.toNatClampNeg).toInt - 1; omega⟩, fun j j0 j1 => ?_⟩
      have j2 : j.toInt < (i + 1).toInt := j1
      by_cases w : j.toInt < i.toInt
      · exact yr j j0 w
      · have ej : j = i := Int32.toInt_inj.mp (by omega)
        show (aRef a y.toNatClampNeg j).toInt < 0
        rw [ej, hr]
        decide
    · exact hY q (List.mem_cons_of_mem _ e)
  · rw [e2, e3]; exact V_tl hV
  · rw [e3] at hn
    rw [e2, e3, hk n hn, Oc_tl, cIs_n (by decide) hn.1, Nat.zero_add]
  · have f1 : cLm (((-1) :: cLs a y.toNatClampNeg (i + 1).toInt.toNat) :: cZ a t) = (cLs a y.toNatClampNeg (i + 1).toInt.toNat).length + 1 + 1 + cLm (cZ a t) := rfl
    have f2 : cLm (cLs a y.toNatClampNeg (i + 1).toInt.toNat :: cZ a t) = (cLs a y.toNatClampNeg (i + 1).toInt.toNat).length + 1 + cLm (cZ a t) := rfl
    omega
/-- a REFERENCE is dropped -/
theorem C_dr (h : cC a ((y, i) :: t) K B) (hi : i.toInt < (a 128 y.toNatClampNeg).toInt - 1) (hb : a (1000 + y.toNatClampNeg) i.toNatClampNeg ≠ 0) (hK : ∀ n, xAl a n → K₉ n = K n - Int32.ofNat (cIs (aRef a y.toNatClampNeg i) n)) (hbe : b = ma_u a 71 (a 130 y.toNatClampNeg + 1 + i).toNatClampNeg (-1)) : cC b ((y, i + 1) :: t) K₉ B ∧ cRa b ((y, i + 1) :: t) = cRa a ((y, i) :: t) ∧ ∃ l0 t0, cZ a ((y, i) :: t) = (aRef a y.toNatClampNeg i :: l0) :: t0 ∧ cZ b ((y, i + 1) :: t) = l0 :: t0 := by
  obtain ⟨hI, hY, hd, hV, hk⟩ := h
  have hy4 : 0 ≤ y.toInt ∧ xAl a y.toNatClampNeg ∧ (0 ≤ i.toInt ∧ i.toInt ≤ (a 128 y.toNatClampNeg).toInt - 1) ∧ ∀ j : Int32, 0 ≤ j.toInt → j.toInt < i.toInt → (aRef a y.toNatClampNeg j).toInt < 0 := hY (y, i) List.mem_cons_self
  obtain ⟨y0, ya, yi, yr⟩ := hy4
  have yi1 : 0 ≤ i.toInt := yi.1
  have qs := hI.1 _ ya
  have e1 := i_p1 (i := i) (by omega)
  have wp : qWp a y.toNatClampNeg i := ⟨ya, yi1, hi⟩
  have r128 : b 128 = a 128 := by rw [hbe]; exact un (by decide)
  have ral : xAl b = xAl a := by rw [hbe]; exact Al_71
  have rrf : ∀ u j, qWp a u j → ¬ (u = y.toNatClampNeg ∧ j = i) → aRef b u j = aRef a u j := fun u j w z => by
    rw [hbe, crf_w hI wp w, if_neg z]
  have rri : aRef b y.toNatClampNeg i = -1 := by
    rw [hbe, crf_w hI wp wp, if_pos ⟨rfl, rfl⟩, if_pos hb]
  have hs : cLs a y.toNatClampNeg i.toInt.toNat = aRef a y.toNatClampNeg i :: cLs a y.toNatClampNeg (i + 1).toInt.toNat := by
    rw [cLs_s (k := i.toInt.toNat) (by omega), ofN_k yi1, show (i + 1).toInt.toNat = i.toInt.toNat + 1 from by omega]
  have e0 : cZ a ((y, i) :: t) = (aRef a y.toNatClampNeg i :: cLs a y.toNatClampNeg (i + 1).toInt.toNat) :: cZ a t := congrArg (fun q => q :: cZ a t) hs
  have z1 : cLs b y.toNatClampNeg (i + 1).toInt.toNat = cLs a y.toNatClampNeg (i + 1).toInt.toNat := cLs_cg (congrFun r128 _) (fun j hj h2 => rrf _ _ (wp_N hI ya h2) (fun w => by
    have e := congrArg Int32.toInt w.2
    rw [ofN_s (by omega)] at e
    omega))
  have z2 : cZ b t = cZ a t := Z_cg t (fun q hq => cLs_cg (congrFun r128 _) (fun j _ h2 => rrf _ _ (wp_N hI (hY q (List.mem_cons_of_mem _ hq)).2.1 h2) (fun w => hd.1 q hq w.1.symm)))
  have e2 : cZ b ((y, i + 1) :: t) = cLs a y.toNatClampNeg (i + 1).toInt.toNat :: cZ a t := by
    show cLs b y.toNatClampNeg (i + 1).toInt.toNat :: cZ b t = _
    rw [z1, z2]
  have e3 : cRa b ((y, i + 1) :: t) = cRa a ((y, i) :: t) := by
    show cRa (aRm b y) t = cRa (aRm a y) t
    rw [hbe, rm_w hI wp y0 rfl]
  rw [e0] at hV hk
  refine ⟨⟨by rw [hbe]; exact cQ_71 hI, fun q hq => ?_, hd, ?_, fun n hn => ?_⟩, e3, _, _, e0, e2⟩
  · rw [ral, r128]
    rcases List.mem_cons.mp hq with e | e
    · rw [e]
      refine ⟨y0, ya, ⟨by show 0 ≤ (i + 1).toInt; omega, by show (i + 1).toInt ≤ (a 128 y.toNatClampNeg).toInt - 1; omega⟩, fun j j0 j1 => ?_⟩
      have j2 : j.toInt < (i + 1).toInt := j1
      show (aRef b y.toNatClampNeg j).toInt < 0
      by_cases w : j.toInt < i.toInt
      · rw [rrf _ _ ⟨ya, j0, by omega⟩ (fun z => by rw [z.2] at w; omega)]
        exact yr j j0 w
      · have ej : j = i := Int32.toInt_inj.mp (by omega)
        rw [ej, rri]
        decide
    · have w := hY q (List.mem_cons_of_mem _ e)
      refine ⟨w.1, w.2.1, w.2.2.1, fun j j0 j1 => ?_⟩
      have w3 := w.2.2.1
      rw [rrf _ _ ⟨w.2.1, j0, by omega⟩ (fun z => hd.1 q e z.1.symm)]
      exact w.2.2.2 j j0 j1
  · rw [e2, e3]; exact V_tl hV
  · rw [e3] at hn
    have w := (Ra_al ((y, i) :: t) a (fun q hq => (hY q hq).1)).mp hn
    rw [e2, e3, hK n w.1, hk n hn, Oc_tl, ← Int32.ofInt_eq_ofNat (n := cIs (aRef a y.toNatClampNeg i) n), ← Int32.ofInt_sub]
    exact congrArg Int32.ofInt (by omega)
/-- who falls is there, and not on the stack -/
theorem C_al (h : cC a l K B) (hr : xAl (cRa a l) r.toNatClampNeg) : xAl a r.toNatClampNeg ∧ cNi l r.toNatClampNeg := (Ra_al l a (fun q hq => (h.2.1 q hq).1)).mp hr
theorem C_K (h : cC a l K B) (hB : B ≤ 1000000) (hr : xAl (cRa a l) n) : (K n).toInt = cRf (cRa a l) n + (cOc (cZ a l) n : Int) := by
  have q := Rf_bd h.2.2.2.1 hB hr
  rw [h.2.2.2.2 n hr]
  exact Int32.toInt_ofInt_of_le (by omega) (by omega)
theorem C_fp (h : cC a l K B) (hB : B ≤ 1000000) (hr : xAl (cRa a l) r.toNatClampNeg) (hK : 0 < (K r.toNatClampNeg).toInt) : cFa (cRa a l) (cZ a l) r = (cRa a l, cZ a l) := Fa_p (by rw [← C_K h hB hr]; exact hK)
theorem C_fg (h : cC a l K B) (hB : B ≤ 1000000) (h0 : 0 ≤ r.toInt) (hr : xAl (cRa a l) r.toNatClampNeg) (hK : ¬ 0 < (K r.toNatClampNeg).toInt) (hw : a 134 r.toNatClampNeg ≠ 0) (hK₉ : ∀ n, xAl a n → K₉ n = K n + (if (a 69 5).toInt < 512 then Int32.ofNat (cIs r n) else 0)) : cC (aGr a r) l K₉ B ∧ cFa (cRa a l) (cZ a l) r = (cRa (aGr a r) l, cZ (aGr a r) l) := by
  have al := C_al h hr
  have kk := C_K h hB hr
  obtain ⟨hI, hY, hd, hV, hk⟩ := h
  have e1 : aGr (cRa a l) r = cRa (aGr a r) l := Ra_gr l a (fun q hq => (hY q hq).1) h0 al.2
  have e2 : cZ (aGr a r) l = cZ a l := Z_cg l (fun q hq => cLs_cg (congrFun (gr_r (by decide) (by decide) (by decide) (by decide)) _) (fun j _ _ => gr_ref))
  have ga := gr_al (a := a) (y := r)
  refine ⟨⟨cQ_gr hI, fun q hq => ?_, hd, ?_, fun n hn => ?_⟩, ?_⟩
  · rw [ga, gr_r (n := 128) (by decide) (by decide) (by decide) (by decide), gr_ref']
    exact hY q hq
  · rw [e2, ← e1]; exact V_gr hV h0 hr
  · rw [← e1, gr_al] at hn
    have w := (Ra_al l a (fun q hq => (hY q hq).1)).mp hn
    rw [e2, ← e1, hK₉ n w.1, hk n hn]
    by_cases z : (a 69 5).toInt < 512
    · rw [if_pos z, Fr_gr hV h0 (by rw [Ra_5]; exact z), Int32.ofInt_add (cRf (cRa a l) n + _), Int32.ofInt_eq_ofNat]
    · rw [if_neg z, Rf_gn (by rw [Ra_5]; exact z), Int32.add_zero]
  · rw [e2, ← e1]
    exact Fa_g (by rw [← kk]; exact hK) (by rw [Ra_rw (by decide) (by decide) l a al.2]; exact hw)
theorem C_fr (h : cC a l K B) (hB : B ≤ 1000000) (h0 : 0 ≤ r.toInt) (hr : xAl (cRa a l) r.toNatClampNeg) (hK : ¬ 0 < (K r.toNatClampNeg).toInt) (hw : a 134 r.toNatClampNeg = 0) : cC a ((r, 0) :: l) K B ∧ cFa (cRa a l) (cZ a l) r = (cRa a ((r, 0) :: l), cZ a ((r, 0) :: l)) := by
  have al := C_al h hr
  have kk := C_K h hB hr
  obtain ⟨hI, hY, hd, hV, hk⟩ := h
  have e1 : aRm (cRa a l) r = cRa a ((r, 0) :: l) := Ra_rm l a (fun q hq => (hY q hq).1) h0 al.2
  have e2 : cLs (cRa a l) r.toNatClampNeg 0 = cLs a r.toNatClampNeg 0 := cLs_cg (Ra_rw (by decide) (by decide) l a al.2) (fun j _ hj => Ra_rf l a hI (fun q hq => ⟨(hY q hq).1, (hY q hq).2.1⟩) hd al.2 (wp_N hI al.1 hj))
  have e3 : cZ a ((r, 0) :: l) = cLs (cRa a l) r.toNatClampNeg 0 :: cZ a l := by
    rw [e2]; rfl
  have kz : ¬ 0 < cRf (cRa a l) r.toNatClampNeg + (cOc (cZ a l) r.toNatClampNeg : Int) := by rw [← kk]; exact hK
  have v := V_rm hV h0 hr kz
  have qs := hI.1 _ al.1
  refine ⟨⟨hI, fun q hq => ?_, ⟨al.2, hd⟩, ?_, fun n hn => ?_⟩, ?_⟩
  · rcases List.mem_cons.mp hq with e | e
    · rw [e]
      exact ⟨h0, al.1, ⟨by show 0 ≤ (0 : Int32).toInt; decide, by show (0 : Int32).toInt ≤ (a 128 r.toNatClampNeg).toInt - 1; rw [show (0 : Int32).toInt = 0 from rfl]; omega⟩, fun j j0 j1 => absurd j1 (by show ¬ j.toInt < (0 : Int32).toInt; rw [show (0 : Int32).toInt = 0 from rfl]; omega)⟩
    · exact hY q e
  · rw [e3, ← e1]; exact v.1
  · rw [← e1] at hn
    have w := (rm_al h0).mp hn
    rw [e3, ← e1, hk n w.1, Fr_rm hV h0 hr w.2]
  · rw [e3, ← e1]
    exact Fa_r kz (by rw [Ra_rw (by decide) (by decide) l a al.2]; exact hw)
end CT

/-! from 95.m13 -/
/-! COUNTS, the class (written by wip/tools/gen20k.py) -/
/-! COUNTS, the class: what each counts -/
def kC (S : ma_S) : Nat → Int32 := aTf (mI S) (mR S 70) 6
def zKu (K : Nat → Int32) (n : Nat) (x : Int32) : Nat → Int32 := fun m => if m = n then x else K m
def xK (W : Nat) (S : ma_S) (ab : Nat → Nat → Int32) (R : Nat → Option Nat) (K : Nat → Int32) : Prop := xC W S ab R ∧ kC S = K
/-- counts are right -/
def kJ (a : Nat → Nat → Int32) (K : Nat → Int32) : Prop := cQI a ∧ (0 ≤ (a 69 5).toInt ∧ (a 69 5).toInt ≤ 512) ∧ ∀ n, xAl a n → K n = Int32.ofInt (cRf a n)
section KK
variable {W c k n : Nat} {S : ma_S} {R : Nat → Option Nat} {ab : Nat → Nat → Int32} {K : Nat → Int32} {x y d : Int32}
theorem kC_p (h : xB S R) (hc : c < 126) : kC (ma_put S c k (.inl x)) = kC S := funext (fun n => (show aTf (ma_u (mI S) c k x) (mR S 70) 6 n = aTf (mI S) (mR S 70) 6 n from aTf_o (xB_hR h) hc))
theorem kC_f (hk : k ≠ 6) : kC (ma_put S c k (.inl x)) = kC S := by
  funext n
  show aTf (ma_u (mI S) c k x) (mR S 70) 6 n = aTf (mI S) (mR S 70) 6 n
  unfold aTf
  by_cases h : n < 512
  · rw [if_pos h, if_pos h]
    cases e : mR S 70 n with
    | none => rfl
    | some t =>
      show (if t = c ∧ 6 = k then x else mI S t 6) = mI S t 6
      rw [if_neg (fun w => hk w.2.symm)]
  · rw [if_neg h, if_neg h]
theorem kC_y (h : xB S R) (e : zTa R y = some c) : mI S c 6 = kC S y.toNatClampNeg := by
  have p := zTa_p e
  have hn := zTa_n e
  unfold kC
  rw [h.1]
  exact (aTf_c hn p.2.2).symm
theorem kC_6 (h : xB S R) (e : zTa R y = some c) : kC (ma_put S c 6 (.inl x)) = zKu (kC S) y.toNatClampNeg x := by
  have p := zTa_p e
  have hn := zTa_n e
  have hi := xB_inj h e
  funext n
  show aTf (ma_u (mI S) c 6 x) (mR S 70) 6 n = if n = y.toNatClampNeg then x else aTf (mI S) (mR S 70) 6 n
  rw [h.1]
  by_cases z : n = y.toNatClampNeg
  · rw [if_pos z, z, aTf_c hn p.2.2]
    show (if c = c ∧ 6 = 6 then x else _) = x
    rw [if_pos ⟨rfl, rfl⟩]
  · rw [if_neg z]
    unfold aTf
    by_cases w : n < 512
    · rw [if_pos w, if_pos w]
      cases q : R n with
      | none => rfl
      | some t =>
        show (if t = c ∧ 6 = 6 then x else mI S t 6) = mI S t 6
        rw [if_neg (fun g => z (hi n w (by rw [q, g.1])))]
    · rw [if_neg w, if_neg w]
theorem kC_0 : kC (ma_put S 70 n (.inr (.inr none))) = zKu (kC S) n 0 := by
  funext m
  show (if m < 512 then (match (if 70 = 70 ∧ m = n then none else mR S 70 m) with | some c => mI S c 6 | none => 0) else 0) = if m = n then 0 else aTf (mI S) (mR S 70) 6 m
  unfold aTf
  by_cases z : m = n
  · rw [if_pos z]
    by_cases w : m < 512
    · rw [if_pos w, if_pos ⟨rfl, z⟩]
    · rw [if_neg w]
  · rw [if_neg z, if_neg (c := 70 = 70 ∧ m = n) (fun w => z w.2)]
    first | rfl | (cases mR S 70 m <;> rfl)
theorem xK_o (h : xB S R) (hk : kC S = K) : xK W S (aS W S) R K := ⟨xC_o h, hk⟩
theorem xK_p (h : xK W S ab R K) (c0 : Nat) (hW : xW W) (hr : zrl c0 k = true) (hw : zcw W c0 = c) : xK W (ma_put S c k (.inl x)) (ma_u ab c0 k x) R K := ⟨xC_p h.1 c0 hW hr hw, (kC_p h.1.2 (by rw [← hw]; exact zcw_lt hW hr)).trans h.2⟩
theorem xK_n (h : xK W S ab R K) (hz : zir W c k) : xK W (ma_put S c k (.inl x)) ab R K := ⟨xC_n h.1 hz, (kC_p h.1.2 hz.1).trans h.2⟩
theorem xK_t (h : xK W S ab R K) (hW : xW W) (e : zTa R y = some c) (hf : zfd k = true) (h6 : k ≠ 6) : xK W (ma_put S c k (.inl x)) (ma_u ab (126 + k) y.toNatClampNeg x) R K := ⟨xC_t h.1 hW e hf, (kC_f h6).trans h.2⟩
theorem xK_6 (h : xK W S ab R K) (hW : xW W) (e : zTa R y = some c) (hc : 126 ≤ c) : xK W (ma_put S c 6 (.inl x)) ab R (zKu K y.toNatClampNeg x) := ⟨xC_6 h.1 hW hc rfl (by decide), (kC_6 h.1.2 e).trans (by rw [h.2])⟩
theorem xK_0 (h : xK W S ab R K) : xK W (ma_put S 70 n (.inr (.inr none))) (zNo ab n) (zRu R n none) (zKu K n 0) := ⟨xC_0 h.1, kC_0.trans (by rw [h.2])⟩
theorem xK_y (h : xK W S ab R K) (e : zTa R y = some c) : mI S c 6 = K y.toNatClampNeg := (kC_y h.1.2 e).trans (congrFun h.2 _)
theorem KU_1 (h0 : 0 ≤ y.toInt) (hn : n < 512) : zKu K y.toNatClampNeg (K y.toNatClampNeg + 1) n = K n + Int32.ofNat (cIs y n) := by
  unfold zKu
  by_cases z : n = y.toNatClampNeg
  · rw [if_pos z, z, cIs_s h0]; rfl
  · rw [if_neg z, cIs_y h0 hn z]; exact (Int32.add_zero _).symm
theorem KU_2 (h0 : 0 ≤ y.toInt) (hn : n < 512) : zKu K y.toNatClampNeg (K y.toNatClampNeg - 1) n = K n - Int32.ofNat (cIs y n) := by
  unfold zKu
  by_cases z : n = y.toNatClampNeg
  · rw [if_pos z, z, cIs_s h0]; rfl
  · rw [if_neg z, cIs_y h0 hn z]; exact (Int32.sub_zero _).symm
theorem KU_x : zKu K n (K n + x) k = K k + (if k = n then x else 0) := by
  unfold zKu
  by_cases z : k = n
  · rw [if_pos z, if_pos z, z]
  · rw [if_neg z, if_neg z]; exact (Int32.add_zero _).symm
/-- one that is not there is no one's number that is -/
theorem is_no (h : xB S R) (e : zTa R y = none) (hn : xAl (aS W S) n) : cIs y n = 0 := cIs_0 (fun w => xB_nt (W := W) h e (by
  have q := ofN_i hn.1
  have e2 : y.toNatClampNeg = n := by
    have c := tn_cast (x := y) (by rw [w]; omega)
    rw [w] at c ⊢
    omega
  exact ⟨by rw [w]; omega, by have := hn.1; rw [w]; omega, by rw [e2]; exact hn.2⟩))
theorem i32_ss (p q r : Int32) : p - q - r = p - (q + r) := by
  rw [Int32.sub_eq_add_neg (p - q), Int32.sub_eq_add_neg p q, Int32.add_assoc, Int32.sub_eq_add_neg p (q + r), Int32.neg_add, Int32.sub_eq_add_neg]
theorem Su_1 {f : Nat → Nat} {i : Int32} {p : Int32} (h0 : 0 ≤ i.toInt) (h1 : i.toInt < 1000) : p - Int32.ofNat (cSu f i.toInt.toNat) - Int32.ofNat (f i.toInt.toNat) = p - Int32.ofNat (cSu f (i + 1).toInt.toNat) := by
  rw [i_p1 (by omega), show (i.toInt + 1).toNat = i.toInt.toNat + 1 from by omega, i32_ss, ← Int32.ofNat_add]
  rfl
end KK
theorem xC_85 {W n : Nat} {S : ma_S} {ab : Nat → Nat → Int32} {R : Nat → Option Nat} {q : Option Nat} (h : xC W S ab R) : xC W (ma_put S 85 n (.inr (.inr q))) ab R := by
  have e : mR (ma_put S 85 n (.inr (.inr q))) 70 = mR S 70 := funext (fun k => by
    show (if 70 = 85 ∧ k = n then q else mR S 70 k) = mR S 70 k
    rw [if_neg (by omega)])
  refine ⟨?_, e.trans h.2.1, h.2.2⟩
  unfold aS
  rw [e]
  exact h.1
theorem xK_85 {W n : Nat} {S : ma_S} {ab : Nat → Nat → Int32} {R : Nat → Option Nat} {K : Nat → Int32} {q : Option Nat} (h : xK W S ab R K) : xK W (ma_put S 85 n (.inr (.inr q))) ab R K := by
  have e : mR (ma_put S 85 n (.inr (.inr q))) 70 = mR S 70 := funext (fun k => by
    show (if 70 = 85 ∧ k = n then q else mR S 70 k) = mR S 70 k
    rw [if_neg (by omega)])
  refine ⟨xC_85 h.1, ?_⟩
  unfold kC
  rw [e]
  exact h.2
/-- numbers and holds stay -/
def zN0 (S : ma_S) : Nat → Nat → Int32 := fun c k => if k = 0 ∨ k = 7 then mI S (126 + c) k else 0
theorem n0_p {S : ma_S} {c k : Nat} {x : Int32} (hc : c < 126) : zN0 (ma_put S c k (.inl x)) = zN0 S := by
  funext j i
  show (if i = 0 ∨ i = 7 then (if 126 + j = c ∧ i = k then x else mI S (126 + j) i) else 0) = if i = 0 ∨ i = 7 then mI S (126 + j) i else 0
  rw [if_neg (c := 126 + j = c ∧ i = k) (by omega)]
theorem n0_t {S : ma_S} {c k : Nat} {x : Int32} (hk : k ≠ 0 ∧ k ≠ 7) : zN0 (ma_put S c k (.inl x)) = zN0 S := by
  funext j i
  show (if i = 0 ∨ i = 7 then (if 126 + j = c ∧ i = k then x else mI S (126 + j) i) else 0) = if i = 0 ∨ i = 7 then mI S (126 + j) i else 0
  by_cases z : i = 0 ∨ i = 7
  · rw [if_pos z, if_pos z, if_neg (by omega)]
  · rw [if_neg z, if_neg z]
theorem n0_r {S : ma_S} {c k : Nat} {q : Option Nat} : zN0 (ma_put S c k (.inr (.inr q))) = zN0 S := rfl
theorem n0_k {S S1 : ma_S} {c k : Nat} (h : zN0 S1 = zN0 S) (hc : 126 ≤ c) (hk : k = 0 ∨ k = 7) : mI S1 c k = mI S c k := by
  have q := congrFun (congrFun h (c - 126)) k
  unfold zN0 at q
  rw [if_pos hk, if_pos hk, Nat.add_sub_cancel' hc] at q
  exact q
/-! COUNTS, the class: the stack of those that go -/
abbrev zLS : Type := List (Int32 × Int32)
def zSk (G : Nat → Option Nat) (I : Nat → Nat → Int32) (R : Nat → Option Nat) : List (Int32 × Int32) → Prop
  | [] => True
  | q :: t => (∃ c, G t.length = some c ∧ zTa R q.1 = some c) ∧ I 86 t.length = q.2 ∧ zSk G I R t
def zSt (S : ma_S) (R : Nat → Option Nat) (l : List (Int32 × Int32)) : Prop := zSk (mR S 85) (mI S) R l ∧ (mI S 84 7).toInt = (l.length : Int)
def cPr (a : Nat → Nat → Int32) (l : List (Int32 × Int32)) : (Nat → Nat → Int32) × List (List Int32) := (cRa a l, cZ a l)
def cF1 (x : (Nat → Nat → Int32) × List (List Int32)) (y : Int32) : (Nat → Nat → Int32) × List (List Int32) := if y.toInt < 0 then x else cFa x.1 x.2 y
def cMu (x : (Nat → Nat → Int32) × List (List Int32)) : Nat := cLm x.2 + cMs x.1
/-- behind a fall: the stack is right, and it is the reference's fall -/
def zFo (W : Nat) (S : ma_S) (R : Nat → Option Nat) (B : Int) (x : (Nat → Nat → Int32) × List (List Int32)) : Prop := ∃ l, zSt S R l ∧ cC (aS W S) l (kC S) B ∧ cPr (aS W S) l = x
def zNF (W : Nat) (S : ma_S) (B : Int) (x : (Nat → Nat → Int32) × List (List Int32)) (n : Int) : Prop := ∃ l, zSt S (mR S 70) l ∧ cC (aS W S) l (kC S) B ∧ (∀ b, cE (cPr (aS W S) l) b → cE x b) ∧ n + (cMu (cPr (aS W S) l) : Int) ≤ 40000
section SK
variable {W c k n : Nat} {S S₉ : ma_S} {G G₉ R R' : Nat → Option Nat} {I I₉ : Nat → Nat → Int32} {a ab : Nat → Nat → Int32} {K K₉ : Nat → Int32} {x y i d : Int32} {l t : List (Int32 × Int32)} {q : Int32 × Int32} {B : Int}
theorem Sk_cg : ∀ l : List (Int32 × Int32), (∀ k, k < l.length → G₉ k = G k ∧ I₉ 86 k = I 86 k) → (∀ q, q ∈ l → zTa R' q.1 = zTa R q.1) → zSk G I R l → zSk G₉ I₉ R' l := by
  intro l
  induction l with
  | nil => intro _ _ _; trivial
  | cons q t ih =>
    intro h hR ⟨h1, h2, h3⟩
    have e := h t.length (Nat.lt_succ_self _)
    refine ⟨?_, ?_, ih (fun k hk => h k (Nat.lt_succ_of_lt hk)) (fun p hp => hR p (List.mem_cons_of_mem _ hp)) h3⟩
    · rw [e.1, hR q List.mem_cons_self]; exact h1
    · rw [e.2]; exact h2
theorem St_fr (h : zSt S R l) (e85 : mR S₉ 85 = mR S 85) (e86 : mI S₉ 86 = mI S 86) (e84 : mI S₉ 84 7 = mI S 84 7) : zSt S₉ R l := ⟨Sk_cg l (fun k _ => ⟨by rw [e85], by rw [e86]⟩) (fun _ _ => rfl) h.1, by rw [e84]; exact h.2⟩
theorem St_0 (h : (mI S 84 7).toInt = 0) : zSt S R [] := ⟨trivial, h⟩
theorem St_top (h : zSt S R l) (h0 : 0 < (mI S 84 7).toInt) : l = (l.headD (0, 0)) :: l.tail ∧ mR S 85 (mI S 84 7 - 1).toNatClampNeg = zTa R (l.headD (0, 0)).1 ∧ mI S 86 (mI S 84 7 - 1).toNatClampNeg = (l.headD (0, 0)).2 := by
  cases l with
  | nil =>
    have := h.2
    exact absurd this (by show ¬ _ = ((0 : Nat) : Int); omega)
  | cons q t =>
    obtain ⟨⟨⟨c, h1, h1b⟩, h2, h3⟩, h4⟩ := h
    have h5 : (mI S 84 7).toInt = ((t.length + 1 : Nat) : Int) := h4
    have b := i_bd (mI S 84 7)
    have e : (mI S 84 7 - 1).toInt = (mI S 84 7).toInt - 1 := i_subk rfl (by omega) (by omega)
    have e2 : (mI S 84 7 - 1).toNatClampNeg = t.length := by
      have c := tn_cast (x := mI S 84 7 - 1) (by omega)
      omega
    refine ⟨rfl, ?_, ?_⟩
    · rw [e2, h1]; exact h1b.symm
    · rw [e2]; exact h2
theorem St_nil (h : zSt S R l) (h0 : ¬ 0 < (mI S 84 7).toInt) : l = [] := by
  cases l with
  | nil => rfl
  | cons q t =>
    have h5 : (mI S 84 7).toInt = ((t.length + 1 : Nat) : Int) := h.2
    omega
/-- the last one is taken off -/
theorem St_off (h : zSt S R (q :: t)) (hx : x = mI S 84 7 - 1) : zSt (ma_put S 84 7 (.inl x)) R t := by
  obtain ⟨⟨h1, h2, h3⟩, h4⟩ := h
  have h5 : (mI S 84 7).toInt = ((t.length + 1 : Nat) : Int) := h4
  have b := i_bd (mI S 84 7)
  have e : (mI S 84 7 - 1).toInt = (mI S 84 7).toInt - 1 := i_subk rfl (by omega) (by omega)
  refine ⟨Sk_cg t (fun k _ => ⟨rfl, by
    show (if 86 = 84 ∧ k = 7 then x else mI S 86 k) = mI S 86 k
    rw [if_neg (by omega)]⟩) (fun _ _ => rfl) h3, ?_⟩
  show (if 84 = 84 ∧ 7 = 7 then x else _).toInt = _
  rw [if_pos ⟨rfl, rfl⟩, hx]
  omega
/-- its next word -/
theorem St_nxt (h : zSt S R (q :: t)) (hk : k = (mI S 84 7 - 1).toNatClampNeg) : zSt (ma_put S 86 k (.inl x)) R ((q.1, x) :: t) := by
  obtain ⟨⟨h1, h2, h3⟩, h4⟩ := h
  have h5 : (mI S 84 7).toInt = ((t.length + 1 : Nat) : Int) := h4
  have b := i_bd (mI S 84 7)
  have e : (mI S 84 7 - 1).toInt = (mI S 84 7).toInt - 1 := i_subk rfl (by omega) (by omega)
  have e2 : k = t.length := by
    have c := tn_cast (x := mI S 84 7 - 1) (by omega)
    omega
  refine ⟨⟨h1, ?_, Sk_cg t (fun j hj => ⟨rfl, by
    show (if 86 = 86 ∧ j = k then x else mI S 86 j) = mI S 86 j
    rw [if_neg (by omega)]⟩) (fun _ _ => rfl) h3⟩, ?_⟩
  · show (if 86 = 86 ∧ t.length = k then x else _) = x
    rw [if_pos ⟨rfl, e2.symm⟩]
  · show (if 84 = 86 ∧ 7 = k then x else mI S 84 7).toInt = _
    rw [if_neg (by omega)]
    exact h4
/-- one more -/
theorem St_ps (h : zSt S R l) (e : zTa R y = some c) (hl : l.length < 512) (hk : k = (mI S 84 7).toNatClampNeg) (hx : x = mI S 84 7 + 1) : zSt (ma_put (ma_put (ma_put S 85 k (.inr (.inr (some c)))) 86 k (.inl 0)) 84 7 (.inl x)) R ((y, 0) :: l) := by
  have h5 := h.2
  have b := i_bd (mI S 84 7)
  have e2 : k = l.length := by
    have c := tn_cast (x := mI S 84 7) (by omega)
    omega
  refine ⟨⟨⟨c, ?_, e⟩, ?_, Sk_cg l (fun j hj => ⟨?_, ?_⟩) (fun _ _ => rfl) h.1⟩, ?_⟩
  · show (if 85 = 85 ∧ l.length = k then some c else _) = some c
    rw [if_pos ⟨rfl, e2.symm⟩]
  · show (if 86 = 84 ∧ l.length = 7 then x else if 86 = 86 ∧ l.length = k then (0 : Int32) else mI S 86 l.length) = 0
    rw [if_neg (by omega), if_pos ⟨rfl, e2.symm⟩]
  · show (if 85 = 85 ∧ j = k then some c else mR S 85 j) = _
    rw [if_neg (by omega)]
  · show (if 86 = 84 ∧ j = 7 then x else if 86 = 86 ∧ j = k then (0 : Int32) else mI S 86 j) = mI S 86 j
    rw [if_neg (by omega), if_neg (by omega)]
  · show (if 84 = 84 ∧ 7 = 7 then x else _).toInt = ((l.length + 1 : Nat) : Int)
    rw [if_pos ⟨rfl, rfl⟩, hx, i_p1 (by omega)]
    omega
theorem F1_n (h : y.toInt < 0) {x : (Nat → Nat → Int32) × List (List Int32)} : cF1 x y = x := if_pos h
theorem F1_y (h : 0 ≤ y.toInt) {x : (Nat → Nat → Int32) × List (List Int32)} : cF1 x y = cFa x.1 x.2 y := if_neg (by omega)
def cNu (a : Nat → Nat → Int32) : Nat := cSu (fun m => if a 126 m = 0 then 0 else 1) 512
theorem Nu_le : cNu a ≤ 512 := by
  unfold cNu
  have q := cSu_bd (f := fun m => if a 126 m = 0 then 0 else 1) (B := 1) 512 (fun k _ => by
    show (if a 126 k = 0 then 0 else 1) ≤ 1
    split <;> omega)
  omega
theorem Nu_rm (hy : xAl a y.toNatClampNeg) : cNu (aRm a y) + 1 = cNu a := by
  have t := cSu_up (f := fun m => if a 126 m = 0 then 0 else 1) (g := fun m => if aRm a y 126 m = 0 then 0 else 1) (j := y.toNatClampNeg) 512 hy.1 (fun u hu w => by
    show (if aRm a y 126 u = 0 then 0 else 1) = (if a 126 u = 0 then 0 else 1)
    rw [rm_rw (c := 126) (by decide) (by decide) w])
  have t1 : (if a 126 y.toNatClampNeg = 0 then 0 else 1) = 1 := if_neg hy.2
  have t2 : (if aRm a y 126 y.toNatClampNeg = 0 then 0 else 1) = 0 := if_pos (by rw [rm_f (by decide) (by decide), if_pos rfl])
  have t3 : cNu (aRm a y) + (if a 126 y.toNatClampNeg = 0 then 0 else 1) = cNu a + (if aRm a y 126 y.toNatClampNeg = 0 then 0 else 1) := t
  rw [t1, t2] at t3
  omega
theorem Nu_ra : ∀ (l : List (Int32 × Int32)) (a : Nat → Nat → Int32), (∀ q, q ∈ l → 0 ≤ q.1.toInt ∧ xAl a q.1.toNatClampNeg) → cDs l → cNu (cRa a l) + l.length = cNu a := by
  intro l
  induction l with
  | nil => intro a _ _; exact Nat.add_zero _
  | cons q t ih =>
    intro a h hd
    have h0 := h q List.mem_cons_self
    have r := ih (aRm a q.1) (fun p hp => ⟨(h p (List.mem_cons_of_mem _ hp)).1, (rm_al h0.1).mpr ⟨(h p (List.mem_cons_of_mem _ hp)).2, fun e => hd.1 p hp e.symm⟩⟩) hd.2
    have s := Nu_rm (a := a) h0.2
    show cNu (cRa (aRm a q.1) t) + (t.length + 1) = cNu a
    omega
/-- there is room on the stack -/
theorem C_rm5 (h : cC a l K B) (hr : xAl (cRa a l) n) : l.length < 512 := by
  have q := Nu_ra l a (fun q hq => ⟨(h.2.1 q hq).1, (h.2.1 q hq).2.1⟩) h.2.2.1
  have u : (if cRa a l 126 n = 0 then 0 else 1) ≤ cNu (cRa a l) := cSu_le (f := fun m => if cRa a l 126 m = 0 then 0 else 1) 512 hr.1
  rw [if_neg hr.2] at u
  have := Nu_le (a := a)
  omega
theorem Mu_st {x : (Nat → Nat → Int32) × List (List Int32)} (h : cV x.1 x.2 B) (hx : x.2 ≠ []) : cMu (cSt x) < cMu x := by
  obtain ⟨b, st⟩ := x
  cases st with
  | nil => exact absurd rfl hx
  | cons l0 t0 =>
    cases l0 with
    | nil =>
      show cLm t0 + cMs b < cLm ([] :: t0) + cMs b
      have : cLm ([] :: t0) = 0 + 1 + cLm t0 := rfl
      omega
    | cons r l1 =>
      have e : cLm ((r :: l1) :: t0) = l1.length + 1 + 1 + cLm t0 := rfl
      have e1 : cLm (l1 :: t0) = l1.length + 1 + cLm t0 := rfl
      by_cases z : r.toInt < 0
      · rw [cSt_n z]
        show cLm (l1 :: t0) + cMs b < cLm ((r :: l1) :: t0) + cMs b
        omega
      · rw [cSt_y (by omega)]
        have hr : xAl b r.toNatClampNeg := (h.2.2.1 (r :: l1) List.mem_cons_self r List.mem_cons_self).elim (fun w => absurd w z) id
        have h₉ : cV b ((r :: l1) :: t0) B := h
        have q : cLm (cFa b (l1 :: t0) r).2 + cMs (cFa b (l1 :: t0) r).1 ≤ cLm (l1 :: t0) + cMs b := (V_fa (V_tl h₉) (by omega) hr).2
        show cLm (cFa b (l1 :: t0) r).2 + cMs (cFa b (l1 :: t0) r).1 < cLm ((r :: l1) :: t0) + cMs b
        omega
end SK
/-! COUNTS, the class: falls -/
section FO
variable {W c k n : Nat} {S S₉ S1 : ma_S} {R : Nat → Option Nat} {ab b : Nat → Nat → Int32} {kk K₉ : Nat → Int32} {y i x : Int32} {l : List (Int32 × Int32)} {B m m₉ : Int}
theorem irw_y (hC : xB S R) (rg : zTa R y = some c) (e : aS W S = ab) (hi : 0 ≤ i.toInt) (hb : ¬ lg_cmp (((mL S c 3).toUInt64 >>> (i.toInt64.toUInt64 &&& Int64.toUInt64 63)).toInt64 &&& (1 : Int64)) (0 : Int64) = 0) : ab (1000 + y.toNatClampNeg) i.toNatClampNeg ≠ 0 := by
  rw [← e, rf_bit hC rg hi]
  unfold zbit
  rw [if_neg hb]
  decide
theorem irw_n (hC : xB S R) (rg : zTa R y = some c) (e : aS W S = ab) (hi : 0 ≤ i.toInt) (hb : lg_cmp (((mL S c 3).toUInt64 >>> (i.toInt64.toUInt64 &&& Int64.toUInt64 63)).toInt64 &&& (1 : Int64)) (0 : Int64) = 0) : ab (1000 + y.toNatClampNeg) i.toNatClampNeg = 0 := by
  rw [← e, rf_bit hC rg hi]
  unfold zbit
  rw [if_pos hb]
theorem fo_y (hC : cC ab l kk B) (hO : cOk (cRa ab l) y) (hx : xB S R) (hA : aS W S = ab) (e : zTa R y = none) : y.toInt < 0 := by
  rcases hO with w | w
  · exact w
  · by_cases z : y.toInt < 0
    · exact z
    · have al := C_al hC w
      have c := tn_cast (x := y) (by omega)
      have h5 := al.1.1
      exact absurd ⟨by omega, by omega, by rw [hA]; exact al.1.2⟩ (xB_nt (W := W) hx e)
theorem fo_al (hO : cOk (cRa ab l) y) (h0 : 0 ≤ y.toInt) : xAl (cRa ab l) y.toNatClampNeg := hO.elim (fun w => absurd h0 (by omega)) id
theorem FO_n (hS : zSt S R l) (hA : aS W S = ab) (hK : kC S = kk) (hC : cC ab l kk B) (hy : y.toInt < 0) : zFo W S R B (cF1 (cPr ab l) y) := ⟨l, hS, by rw [hA, hK]; exact hC, by rw [hA, F1_n hy]⟩
theorem FO_p (hS : zSt S R l) (hA : aS W S = ab) (hK : kC S = kk) (hC : cC ab l kk B) (hB : B ≤ 1000000) (hO : cOk (cRa ab l) y) (h0 : 0 ≤ y.toInt) (hk : 0 < (kk y.toNatClampNeg).toInt) : zFo W S R B (cF1 (cPr ab l) y) := ⟨l, hS, by rw [hA, hK]; exact hC, by rw [hA, F1_y h0]; exact (C_fp hC hB (fo_al hO h0) hk).symm⟩
theorem FO_g (hS : zSt S R l) (hA : aS W S = aGr ab y) (hC : cC ab l kk B) (hB : B ≤ 1000000) (hO : cOk (cRa ab l) y) (h0 : 0 ≤ y.toInt) (hk : ¬ 0 < (kk y.toNatClampNeg).toInt) (hw : ab 134 y.toNatClampNeg ≠ 0) (hK : ∀ n, xAl ab n → kC S n = kk n + (if (ab 69 5).toInt < 512 then Int32.ofNat (cIs y n) else 0)) : zFo W S R B (cF1 (cPr ab l) y) := by
  have q := C_fg (K₉ := kC S) hC hB h0 (fo_al hO h0) hk hw hK
  exact ⟨l, hS, by rw [hA]; exact q.1, by rw [hA, F1_y h0]; exact q.2.symm⟩
theorem FO_r (hS : zSt S R ((y, 0) :: l)) (hA : aS W S = ab) (hK : kC S = kk) (hC : cC ab l kk B) (hB : B ≤ 1000000) (hO : cOk (cRa ab l) y) (h0 : 0 ≤ y.toInt) (hk : ¬ 0 < (kk y.toNatClampNeg).toInt) (hw : ab 134 y.toNatClampNeg = 0) : zFo W S R B (cF1 (cPr ab l) y) := by
  have q := C_fr hC hB h0 (fo_al hO h0) hk hw
  exact ⟨(y, 0) :: l, hS, by rw [hA, hK]; exact q.1, by rw [hA, F1_y h0]; exact q.2.symm⟩
theorem DR (hC : cC ab ((y, i) :: l) kk B) (hi : i.toInt < (ab 128 y.toNatClampNeg).toInt - 1) (hb : ab (1000 + y.toNatClampNeg) i.toNatClampNeg ≠ 0) (hK : ∀ n, xAl ab n → K₉ n = kk n + Int32.ofNat (cIs (-1) n) - Int32.ofNat (cIs (aRef ab y.toNatClampNeg i) n)) (hbe : b = aCi ab y.toNatClampNeg i (aNm ab (-1))) : cC b ((y, i + 1) :: l) K₉ B ∧ cOk (cRa b ((y, i + 1) :: l)) (aRef ab y.toNatClampNeg i) ∧ cF1 (cPr b ((y, i + 1) :: l)) (aRef ab y.toNatClampNeg i) = cSt (cPr ab ((y, i) :: l)) := by
  have yy := hC.2.1 (y, i) List.mem_cons_self
  have wp : qWp ab y.toNatClampNeg i := ⟨yy.2.1, yy.2.2.1.1, hi⟩
  have q := cwp_i hC.1 wp
  have nm : aNm ab (-1) = -1 := if_neg (fun w => absurd w.1 (by decide))
  have be : b = ma_u ab 71 (ab 130 y.toNatClampNeg + 1 + i).toNatClampNeg (-1) := by
    rw [hbe, nm]
    exact if_pos ⟨q.2.1, q.2.2⟩
  obtain ⟨r1, r2, l0, t0, r3, r4⟩ := C_dr (K₉ := K₉) hC hi hb (fun n hn => by
    rw [hK n hn, cIs_n (by decide) hn.1]
    exact congrArg (fun z => z - _) (Int32.add_zero _)) be
  have ok : cOk (cRa ab ((y, i) :: l)) (aRef ab y.toNatClampNeg i) := by
    have w := hC.2.2.2.1.2.2.1
    rw [r3] at w
    exact w _ List.mem_cons_self _ List.mem_cons_self
  refine ⟨r1, by rw [r2]; exact ok, ?_⟩
  unfold cPr
  rw [r2, r3, r4]
  by_cases z : (aRef ab y.toNatClampNeg i).toInt < 0
  · rw [F1_n z, cSt_n z]
  · rw [F1_y (by omega), cSt_y (by omega)]
theorem FD_0 (hS : zSt S R ((y, i + 1) :: l)) (hA : aS W S = ab) (hK : kC S = kk) (hC : cC ab ((y, i) :: l) kk B) (hi : i.toInt < (ab 128 y.toNatClampNeg).toInt - 1) (hb : ab (1000 + y.toNatClampNeg) i.toNatClampNeg = 0) : zFo W S R B (cSt (cPr ab ((y, i) :: l))) := by
  have q := C_d0 hC hi hb
  exact ⟨(y, i + 1) :: l, hS, by rw [hA, hK]; exact q.1, by rw [hA]; exact q.2.1.symm⟩
variable {x0 : (Nat → Nat → Int32) × List (List Int32)}
theorem NF_0 (h : zFo W S R B x0) (hR : mR S 70 = R) : zNF W S B x0 0 := by
  obtain ⟨l, h1, h2, h3⟩ := h
  refine ⟨l, by rw [hR]; exact h1, h2, fun b hb => by rw [← h3]; exact hb, ?_⟩
  have q := h2.2.2.2.1.2.2.2.2.2
  show 0 + ((cLm (cZ (aS W S) l) + cMs (cRa (aS W S) l) : Nat) : Int) ≤ 40000
  omega
theorem NF_d (h : zFo W S₉ R B (cSt (cPr (aS W S) l))) (hR : mR S₉ 70 = R) (hC : cC (aS W S) l (kC S) B) (h3 : ∀ b, cE (cPr (aS W S) l) b → cE x0 b) (h4 : m + (cMu (cPr (aS W S) l) : Int) ≤ 40000) (hl : l = l.headD (0, 0) :: l.tail) (hm : m₉ = m + 1) : zNF W S₉ B x0 m₉ := by
  obtain ⟨l₉, g1, g2, g3⟩ := h
  have mu := Mu_st (x := cPr (aS W S) l) hC.2.2.2.1 (by rw [hl]; exact List.cons_ne_nil _ _)
  refine ⟨l₉, by rw [hR]; exact g1, g2, fun b hb => h3 b (cE_s (by rw [← g3]; exact hb)), ?_⟩
  rw [g3]
  omega
/-- the last one is removed -/
theorem NF_p (hC : cC (aS W S) l (kC S) B) (h3 : ∀ b, cE (cPr (aS W S) l) b → cE x0 b) (h4 : m + (cMu (cPr (aS W S) l) : Int) ≤ 40000) (hl : l = l.headD (0, 0) :: l.tail) (hm : m₉ = m + 1) (hi : ¬ (l.headD (0, 0)).2.toInt < (aS W S 128 (l.headD (0, 0)).1.toNatClampNeg).toInt - 1) (hA : aS W S₉ = aRm (aS W S) (l.headD (0, 0)).1) (hK : ∀ n, xAl (aS W S) n → n ≠ (l.headD (0, 0)).1.toNatClampNeg → kC S₉ n = kC S n - Int32.ofNat (cOb (aS W S) (l.headD (0, 0)).1.toNatClampNeg n)) (hS : zSt S₉ (mR S 70) l.tail) (hR : mR S₉ 70 = zRu (mR S 70) (l.headD (0, 0)).1.toNatClampNeg none) : zNF W S₉ B x0 m₉ := by
  have hC₉ := hC
  rw [hl] at hC₉
  have q := C_pop (y := (l.headD (0, 0)).1) (i := (l.headD (0, 0)).2) (t := l.tail) (K₉ := kC S₉) hC₉ hi hK
  have e : cSt (cPr (aS W S) l) = cPr (aRm (aS W S) (l.headD (0, 0)).1) l.tail := by
    have e0 : cPr (aS W S) l = (cRa (aS W S) (((l.headD (0, 0)).1, (l.headD (0, 0)).2) :: l.tail), cZ (aS W S) (((l.headD (0, 0)).1, (l.headD (0, 0)).2) :: l.tail)) := congrArg (cPr (aS W S)) hl
    rw [e0]
    exact q.2.1
  have mu := Mu_st (x := cPr (aS W S) l) hC.2.2.2.1 (by rw [hl]; exact List.cons_ne_nil _ _)
  have hd : ∀ p, p ∈ l.tail → (l.headD (0, 0)).1.toNatClampNeg ≠ p.1.toNatClampNeg := hC₉.2.2.1.1
  refine ⟨l.tail, ⟨Sk_cg l.tail (fun k _ => ⟨rfl, rfl⟩) (fun p hp => ?_) hS.1, hS.2⟩, by rw [hA]; exact q.1, fun b hb => h3 b (cE_s (by rw [e, ← hA]; exact hb)), ?_⟩
  · rw [hR]
    unfold zTa zRu
    by_cases z : 0 ≤ p.1.toInt ∧ p.1.toInt < 512
    · rw [if_pos z, if_pos z, if_neg (fun w => hd p hp w.symm)]
    · rw [if_neg z, if_neg z]
  · rw [hA, ← e]
    omega
/-- the last one is there -/
theorem NF_n (hC : cC (aS W S) l (kC S) B) (hx : xB S R) (hl : l = l.headD (0, 0) :: l.tail) (e : zTa R (l.headD (0, 0)).1 = none) : False := by
  have hC₉ := hC
  rw [hl] at hC₉
  have yy := hC₉.2.1 (l.headD (0, 0)) List.mem_cons_self
  have c := tn_cast yy.1
  have h5 := yy.2.1.1
  exact xB_nt (W := W) hx e ⟨yy.1, by omega, yy.2.1.2⟩
theorem NF_e (h : zNF W S B (cF1 (cPr ab []) y) m) (hO : cOk ab y) (hd : ¬ 0 < (mI S 84 7).toInt ∨ 40000 < m) : aS W S = cLe ab y ∧ cC (aS W S) [] (kC S) B := by
  obtain ⟨l, h1, h2, h3, h4⟩ := h
  have hl : l = [] := by
    rcases hd with w | w
    · exact St_nil h1 w
    · exfalso
      omega
  rw [hl] at h2 h3
  have q := h3 (aS W S) cE_o
  refine ⟨?_, h2⟩
  rcases hO with w | w
  · rw [F1_n w] at q
    rw [cLe_n (fun z => by omega)]
    exact (cE_dt q cE_o)
  · by_cases z : y.toInt < 0
    · rw [F1_n z] at q
      rw [cLe_n (fun z => by omega)]
      exact (cE_dt q cE_o)
    · rw [F1_y (by omega)] at q
      exact (cLe_y (by omega) w q).symm
end FO

/-! from 95.m14 -/
/-! COUNTS, the class (written by wip/tools/gen20k.py) -/
/-! COUNTS: calls keep the counts right -/
section C7
variable {a b : Nat → Nat → Int32} {K K₉ : Nat → Int32} {x y i d : Int32} {n m k c : Nat} {B : Int}
theorem al_of {o : Int32} (q : zRq a o) : xAl a o.toNatClampNeg := by
  have c := tn_cast q.1
  have q2 := q.2.1
  exact ⟨by omega, q.2.2.1⟩
theorem Ms_le (hI : cQI a) : cMs a ≤ 31744 := by
  unfold cMs
  have q := cSu_bd (f := fun m => if a 126 m = 0 then 0 else (a 128 m).toInt.toNat + 1) (B := 62) 512 (fun m hm => by
    show (if a 126 m = 0 then 0 else (a 128 m).toInt.toNat + 1) ≤ 62
    by_cases z : a 126 m = 0
    · rw [if_pos z]; omega
    · rw [if_neg z]
      have w := hI.1 m ⟨hm, z⟩
      omega)
  omega
theorem C0_mk (h1 : cQI a) (h2 : cNd a) (h3 : cHd a B) (h5 : 0 ≤ (a 69 5).toInt ∧ (a 69 5).toInt ≤ 512) (hK : ∀ n, xAl a n → K n = Int32.ofInt (cRf a n)) : cC a [] K B := by
  refine ⟨h1, fun q hq => absurd hq (List.not_mem_nil), trivial, ⟨h1, h2, fun l hl => absurd hl (List.not_mem_nil), h3, h5, ?_⟩, fun n hn => ?_⟩
  · have q := Ms_le h1
    show 0 + cMs a ≤ 40000
    omega
  · show K n = Int32.ofInt (cRf a n + ((0 : Nat) : Int))
    rw [hK n hn]
    exact congrArg Int32.ofInt (by omega)
theorem C0_un (h : cC a [] K B) : cQI a ∧ cNd a ∧ cHd a B ∧ (0 ≤ (a 69 5).toInt ∧ (a 69 5).toInt ≤ 512) ∧ ∀ n, xAl a n → K n = Int32.ofInt (cRf a n) := by
  obtain ⟨h1, _, _, ⟨_, h2, _, h3, h5, _⟩, hk⟩ := h
  refine ⟨h1, h2, h3, h5, fun n hn => ?_⟩
  have q : K n = Int32.ofInt (cRf a n + ((0 : Nat) : Int)) := hk n hn
  rw [q]
  exact congrArg Int32.ofInt (by omega)
theorem u_al (hc : c ≠ 126) : xAl (ma_u a c k x) = xAl a := by
  funext n
  unfold xAl
  rw [un (fun z => hc z.symm)]
theorem cQ_u (hc : c ≠ 126 ∧ c ≠ 128 ∧ c ≠ 130 ∧ c < 1000) (hI : cQI a) : cQI (ma_u a c k x) := by
  obtain ⟨h1, h2, h3⟩ := hI
  have al := u_al (a := a) (k := k) (x := x) hc.1
  refine ⟨?_, ?_, ?_⟩
  · rw [al, un (n := 130) (fun z => hc.2.2.1 z.symm), un (n := 128) (fun z => hc.2.1 z.symm)]
    exact h1
  · unfold qI2
    rw [al, un (n := 130) (fun z => hc.2.2.1 z.symm), un (n := 128) (fun z => hc.2.1 z.symm)]
    exact h2
  · intro n hn k₉
    rw [al] at hn
    rw [un (by omega)]
    exact h3 n hn k₉
theorem u_ref (hc : c ≠ 130 ∧ c ≠ 71 ∧ c < 1000) : aRef (ma_u a c k x) m i = aRef a m i := rf_cg (un (by omega)) (un (fun z => hc.1 z.symm)) (un (fun z => hc.2.1 z.symm))
theorem u_wp (hc : c ≠ 126 ∧ c ≠ 128) {j : Int32} : qWp (ma_u a c k x) m j ↔ qWp a m j := by
  unfold qWp
  rw [u_al hc.1, un (fun z => hc.2 z.symm)]
/-- a row that counting does not look at -/
theorem C_u (hc : c ≠ 126 ∧ c ≠ 128 ∧ c ≠ 130 ∧ c ≠ 71 ∧ c < 1000) (h2 : c ≠ 72 ∧ c ≠ 69 ∧ c ≠ 74 ∧ c ≠ 133) (h : cC a [] K B) : cC (ma_u a c k x) [] K B := by
  obtain ⟨q1, ⟨n1, n2, n3⟩, q3, q5, qk⟩ := C0_un h
  have al := u_al (a := a) (k := k) (x := x) hc.1
  refine C0_mk (cQ_u ⟨hc.1, hc.2.1, hc.2.2.1, hc.2.2.2.2⟩ q1) ⟨fun j hj => ?_, fun j hj => ?_, fun u j w => ?_⟩ (fun n hn => ?_) ?_ (fun n hn => ?_)
  · rw [un (n := 72) (by omega), cOk_cg al]; exact n1 j hj
  · rw [un (n := 74) (by omega), cOk_cg al]
    rw [un (n := 69) (by omega)] at hj
    exact n2 j hj
  · rw [u_ref ⟨hc.2.2.1, hc.2.2.2.1, hc.2.2.2.2⟩, cOk_cg al]
    exact n3 u j ((u_wp ⟨hc.1, hc.2.1⟩).mp w)
  · rw [al] at hn
    rw [un (n := 133) (by omega)]
    exact q3 n hn
  · rw [un (n := 69) (by omega)]; exact q5
  · rw [al] at hn
    rw [Rf_u hc h2]
    exact qk n hn
theorem nm_ok : cOk a (aNm a y) := by
  unfold aNm
  split
  · rename_i w
    have c := tn_cast w.1
    exact Or.inr ⟨by omega, w.2.2⟩
  · exact Or.inl (by decide)
theorem nm_is (hn : xAl a n) : cIs (aNm a y) n = cIs y n := by
  unfold aNm
  by_cases w : 0 ≤ y.toInt ∧ y.toInt < 512 ∧ a 126 y.toNatClampNeg ≠ 0
  · rw [if_pos w]
  · rw [if_neg w, cIs_n (by decide) hn.1]
    refine (cIs_0 (fun e => w ?_)).symm
    have q := ofN_i hn.1
    have h0 : 0 ≤ y.toInt := by rw [e]; omega
    have c := tn_cast h0
    have e2 : y.toNatClampNeg = n := by
      rw [← e] at q
      omega
    exact ⟨h0, by have := hn.1; omega, by rw [e2]; exact hn.2⟩
theorem K_ad (p q r : Int) (u v : Nat) (h : r + (v : Int) = p + (u : Int)) : Int32.ofInt p + Int32.ofNat u - Int32.ofNat v = Int32.ofInt r := by
  rw [← Int32.ofInt_eq_ofNat (n := u), ← Int32.ofInt_eq_ofNat (n := v), ← Int32.ofInt_add, ← Int32.ofInt_sub]
  exact congrArg Int32.ofInt (by omega)
/-- a ROOT -/
theorem C_rt (h : cC a [] K B) (hi : k < 16) (hK : ∀ n, xAl a n → K₉ n = K n + Int32.ofNat (cIs y n) - Int32.ofNat (cIs (a 72 k) n)) : cC (ma_u a 72 k (aNm a y)) [] K₉ B := by
  obtain ⟨q1, ⟨n1, n2, n3⟩, q3, q5, qk⟩ := C0_un h
  have al := u_al (a := a) (c := 72) (k := k) (x := aNm a y) (by decide)
  refine C0_mk (cQ_u (by decide) q1) ⟨fun j hj => ?_, fun j hj => ?_, fun u j w => ?_⟩ (fun n hn => ?_) ?_ (fun n hn => ?_)
  · rw [cOk_cg al]
    by_cases z : j = k
    · rw [z, mu_self]; exact nm_ok
    · rw [mu_ne z]; exact n1 j hj
  · rw [un (n := 74) (by decide), cOk_cg al]
    rw [un (n := 69) (by decide)] at hj
    exact n2 j hj
  · rw [u_ref (by decide), cOk_cg al]
    exact n3 u j ((u_wp (by decide)).mp w)
  · rw [al] at hn
    rw [un (n := 133) (by decide)]
    exact q3 n hn
  · rw [un (n := 69) (by decide)]; exact q5
  · rw [al] at hn
    have r := Rf_rt (a := a) (x := aNm a y) (n := n) hi
    rw [nm_is hn] at r
    rw [hK n hn, qk n hn]
    exact K_ad _ 0 _ _ _ r
/-- a REFERENCE -/
theorem C_li (h : cC a [] K B) (hw : qWp a m i) (hb : a (1000 + m) i.toNatClampNeg ≠ 0) (hK : ∀ n, xAl a n → K₉ n = K n + Int32.ofNat (cIs y n) - Int32.ofNat (cIs (aRef a m i) n)) : cC (aCi a m i (aNm a y)) [] K₉ B := by
  obtain ⟨q1, ⟨n1, n2, n3⟩, q3, q5, qk⟩ := C0_un h
  have q := cwp_i q1 hw
  have e : aCi a m i (aNm a y) = ma_u a 71 (a 130 m + 1 + i).toNatClampNeg (aNm a y) := if_pos ⟨q.2.1, q.2.2⟩
  rw [e]
  have al := u_al (a := a) (c := 71) (k := (a 130 m + 1 + i).toNatClampNeg) (x := aNm a y) (by decide)
  refine C0_mk (cQ_71 q1) ⟨fun j hj => ?_, fun j hj => ?_, fun u j w => ?_⟩ (fun n hn => ?_) ?_ (fun n hn => ?_)
  · rw [un (n := 72) (by decide), cOk_cg al]; exact n1 j hj
  · rw [un (n := 74) (by decide), cOk_cg al]
    rw [un (n := 69) (by decide)] at hj
    exact n2 j hj
  · have w2 := (u_wp (by decide)).mp w
    rw [cOk_cg al, crf_w q1 hw w2]
    by_cases z : u = m ∧ j = i
    · rw [if_pos z, if_pos hb]; exact nm_ok
    · rw [if_neg z]; exact n3 u j w2
  · rw [al] at hn
    rw [un (n := 133) (by decide)]
    exact q3 n hn
  · rw [un (n := 69) (by decide)]; exact q5
  · rw [al] at hn
    have r := Rf_w (x := aNm a y) (n := n) q1 hw hw.1.1 hb
    rw [nm_is hn] at r
    rw [hK n hn, qk n hn]
    exact K_ad _ 0 _ _ _ r
/-- a word that does not refer -/
theorem C_pu (h : cC a [] K B) (hw : qWp a m i) (hb : a (1000 + m) i.toNatClampNeg = 0) : cC (aCi a m i x) [] K B := by
  obtain ⟨q1, ⟨n1, n2, n3⟩, q3, q5, qk⟩ := C0_un h
  have q := cwp_i q1 hw
  have e : aCi a m i x = ma_u a 71 (a 130 m + 1 + i).toNatClampNeg x := if_pos ⟨q.2.1, q.2.2⟩
  rw [e]
  have al := u_al (a := a) (c := 71) (k := (a 130 m + 1 + i).toNatClampNeg) (x := x) (by decide)
  refine C0_mk (cQ_71 q1) ⟨fun j hj => ?_, fun j hj => ?_, fun u j w => ?_⟩ (fun n hn => ?_) ?_ (fun n hn => ?_)
  · rw [un (n := 72) (by decide), cOk_cg al]; exact n1 j hj
  · rw [un (n := 74) (by decide), cOk_cg al]
    rw [un (n := 69) (by decide)] at hj
    exact n2 j hj
  · have w2 := (u_wp (by decide)).mp w
    rw [cOk_cg al, crf_w q1 hw w2]
    by_cases z : u = m ∧ j = i
    · rw [if_pos z, if_neg (fun w => w hb)]; exact Or.inl (by decide)
    · rw [if_neg z]; exact n3 u j w2
  · rw [al] at hn
    rw [un (n := 133) (by decide)]
    exact q3 n hn
  · rw [un (n := 69) (by decide)]; exact q5
  · rw [al] at hn
    rw [Rf_p q1 hw hb]
    exact qk n hn
/-- a hold -/
theorem C_ho (h : cC a [] K B) (h0 : 0 ≤ (a 133 k + d).toInt) (h1 : (a 133 k + d).toInt = (a 133 k).toInt + d.toInt) (hB : (a 133 k + d).toInt ≤ B + 1) (hK : ∀ n, K₉ n = K n + (if n = k then d else 0)) : cC (ma_u a 133 k (a 133 k + d)) [] K₉ (B + 1) := by
  obtain ⟨q1, ⟨n1, n2, n3⟩, q3, q5, qk⟩ := C0_un h
  have al := u_al (a := a) (c := 133) (k := k) (x := a 133 k + d) (by decide)
  refine C0_mk (cQ_u (by decide) q1) ⟨fun j hj => ?_, fun j hj => ?_, fun u j w => ?_⟩ (fun n hn => ?_) ?_ (fun n hn => ?_)
  · rw [un (n := 72) (by decide), cOk_cg al]; exact n1 j hj
  · rw [un (n := 74) (by decide), cOk_cg al]
    rw [un (n := 69) (by decide)] at hj
    exact n2 j hj
  · rw [u_ref (by decide), cOk_cg al]
    exact n3 u j ((u_wp (by decide)).mp w)
  · rw [al] at hn
    by_cases z : n = k
    · rw [z, mu_self]; exact ⟨h0, hB⟩
    · rw [mu_ne z]
      have := q3 n hn
      omega
  · rw [un (n := 69) (by decide)]; exact q5
  · rw [al] at hn
    rw [hK n, qk n hn, Rf_ho]
    by_cases z : n = k
    · rw [if_pos z, if_pos z, h1, show (a 133 k).toInt + d.toInt - (a 133 k).toInt = d.toInt from by omega, Int32.ofInt_add, Int32.ofInt_toInt]
    · rw [if_neg z, if_neg z, Int32.add_zero, Int.add_zero]
theorem C_hx (h : cC a [] K B) (al : xAl a k) (hB : B + 1 ≤ 1000000) (hd : d = 1 ∨ (d = -1 ∧ a 133 k ≠ 0)) (hK : ∀ n, K₉ n = K n + (if n = k then d else 0)) : cC (ma_u a 133 k (a 133 k + d)) [] K₉ (B + 1) := by
  have q := (C0_un h).2.2.1 k al
  rcases hd with e | ⟨e, w⟩
  · rw [e] at hK ⊢
    have d1 : (a 133 k + 1).toInt = (a 133 k).toInt + (1 : Int32).toInt := i_add (by rw [show (1 : Int32).toInt = 1 from rfl]; omega) (by rw [show (1 : Int32).toInt = 1 from rfl]; omega)
    have d2 : (1 : Int32).toInt = 1 := rfl
    exact C_ho h (by omega) d1 (by omega) hK
  · rw [e] at hK ⊢
    have w1 : (a 133 k).toInt ≠ 0 := fun z => w (Int32.toInt_inj.mp (by rw [z]; rfl))
    have d2 : (-1 : Int32).toInt = -1 := rfl
    have d1 : (a 133 k + -1).toInt = (a 133 k).toInt + (-1 : Int32).toInt := i_add (by omega) (by omega)
    exact C_ho h (by omega) d1 (by omega) hK
/-- a wish is taken -/
theorem C_tw (h : cC a [] K B) (hK : ∀ n, xAl a n → K₉ n = K n - (if 0 < (a 69 5).toInt then Int32.ofNat (cIs (a 74 0) n) else 0)) : cC (aTw a) [] K₉ B ∧ cOk (aTw a) (aTy a) := by
  obtain ⟨q1, ⟨n1, n2, n3⟩, q3, q5, qk⟩ := C0_un h
  by_cases w : 0 < (a 69 5).toInt
  · have e : aTw a = zSh (ma_u a 69 5 (a 69 5 - 1)) ((a 69 5).toInt - 1) := aTw_y w
    have z : ∀ c, c ≠ 74 → c ≠ 69 → aTw a c = a c := fun c h1 h2 => funext (fun k => by
      rw [e]
      show (if c = 74 ∧ (k : Int) < _ then _ else ma_u a 69 5 (a 69 5 - 1) c k) = a c k
      rw [if_neg (fun w => h1 w.1), xu_o (fun w => h2 w.1)])
    have e5 : aTw a 69 5 = a 69 5 - 1 := by
      rw [e]
      show (if 69 = 74 ∧ _ then _ else ma_u a 69 5 (a 69 5 - 1) 69 5) = _
      rw [if_neg (fun w => absurd w.1 (by decide)), xu_s]
    have s5 : (a 69 5 - 1).toInt = (a 69 5).toInt - 1 := i_subk rfl (by omega) (by omega)
    have e74 : ∀ k : Nat, (k : Int) < (a 69 5).toInt - 1 → aTw a 74 k = a 74 (k + 1) := fun k hk => by
      rw [e]
      show (if 74 = 74 ∧ (k : Int) < _ then ma_u a 69 5 (a 69 5 - 1) 74 (k + 1) else _) = _
      rw [if_pos ⟨rfl, hk⟩, xu_o (fun w => absurd w.1 (by decide))]
    have al : xAl (aTw a) = xAl a := by
      funext n
      unfold xAl
      rw [z 126 (by decide) (by decide)]
    have rf : ∀ u j, aRef (aTw a) u j = aRef a u j := fun u j => rf_cg (z _ (by omega) (by omega)) (z 130 (by decide) (by decide)) (z 71 (by decide) (by decide))
    have ty : aTy a = a 74 0 := aTy_y w
    refine ⟨C0_mk ?_ ⟨fun j hj => ?_, fun j hj => ?_, fun u j w2 => ?_⟩ (fun n hn => ?_) ?_ (fun n hn => ?_), ?_⟩
    · obtain ⟨g1, g2, g3⟩ := q1
      refine ⟨?_, ?_, fun n hn k => ?_⟩
      · rw [al, z 130 (by decide) (by decide), z 128 (by decide) (by decide)]; exact g1
      · unfold qI2
        rw [al, z 130 (by decide) (by decide), z 128 (by decide) (by decide)]; exact g2
      · rw [al] at hn
        rw [z _ (by omega) (by omega)]
        exact g3 n hn k
    · rw [z 72 (by decide) (by decide), cOk_cg al]; exact n1 j hj
    · rw [e5, s5] at hj
      rw [e74 j hj, cOk_cg al]
      exact n2 (j + 1) (by omega)
    · rw [rf, cOk_cg al]
      refine n3 u j ?_
      unfold qWp at w2 ⊢
      rw [al, z 128 (by decide) (by decide)] at w2
      exact w2
    · rw [al] at hn
      rw [z 133 (by decide) (by decide)]
      exact q3 n hn
    · rw [e5, s5]; omega
    · rw [al] at hn
      have r := Rf_tw (n := n) w q5.2
      rw [hK n hn, if_pos w, qk n hn, ← Int32.ofInt_eq_ofNat (n := cIs (a 74 0) n), ← Int32.ofInt_sub]
      exact congrArg Int32.ofInt (by omega)
    · rw [ty, cOk_cg al]
      exact n2 0 (by omega)
  · rw [aTw_n w, aTy_n w]
    refine ⟨C0_mk q1 ⟨n1, n2, n3⟩ q3 q5 (fun n hn => ?_), Or.inl (by decide)⟩
    rw [hK n hn, if_neg w, Int32.sub_zero]
    exact qk n hn
end C7
theorem g_119_75_sk_0 {X : Nat × (Nat → Int32)} {d w : Nat} {S : ma_S} {Q : Option ma_V ⊕ Nat → ma_S → Prop} (t : Option Nat) (hd : 0 ≤ d) (hw : 0 ≤ w) (hS : zT S) (h : (t = none → Q (.inl none) S) ∧ (∀ c1, t = some c1 → (126 ≤ c1 ∧ c1 < mN S) ∧ (if (mI S c1 4) < (mI S 75 5) then (Q (.inl none) S) else ((126 ≤ c1 ∧ c1 < mN S) ∧ (if (512 : Int32) ≤ (mI S c1 0) then (Q (.inl none) S) else (if (mI S 75 4) < (512 : Int32) then ((126 ≤ c1 ∧ c1 < mN S) ∧ ((0 ≤ (mI S c1 0) ∧ (mI S c1 0).toNatClampNeg < 512) ∧ (if (mI S 77 (mI S c1 0).toNatClampNeg) = 0 then ((126 ≤ c1 ∧ c1 < mN S) ∧ ((0 ≤ (mI S c1 0) ∧ (mI S c1 0).toNatClampNeg < 512) ∧ ((126 ≤ c1 ∧ c1 < mN (ma_put S 77 (mI S c1 0).toNatClampNeg (.inl (1 : Int32)))) ∧ ((0 ≤ (mI S 75 4) ∧ (mI S 75 4).toNatClampNeg < 512) ∧ (Q (.inl none) (ma_put (ma_put (ma_put S 77 (mI S c1 0).toNatClampNeg (.inl (1 : Int32))) 76 (mI S 75 4).toNatClampNeg (.inl (mI (ma_put S 77 (mI S c1 0).toNatClampNeg (.inl (1 : Int32))) c1 0))) 75 4 (.inl ((mI S 75 4) + (1 : Int32))))))))) else (Q (.inl none) S)))) else (Q (.inl none) S))))))) : ma_wp X d w 119 0 [(0, .inr (.inr (some 75))), (1, .inr (.inr t))] [] S Q := by
  refine zw_push hm_119 dX10_comes_0 (v := .inr (.inr t)) rfl ?_
  refine zw_ifnull hm_119 dX10_comes_1 (t := 35) rfl ?_ ?_
  · intro hc
    have h := h.1 hc
    (try rw [hc])
    show ma_wp X d w 119 35 [(0, .inr (.inr (some 75))), (1, .inr (.inr none))] [] S _
    exact zw_vret hm_119 dX10_comes_35 h
  · intro c1 hc
    have h := h.2 c1 hc
    (try rw [hc])
    show ma_wp X d w 119 4 [(0, .inr (.inr (some 75))), (1, .inr (.inr (some c1)))] [] S _
    refine zw_push hm_119 dX10_comes_4 (v := .inr (.inr (some c1))) rfl ?_
    obtain ⟨hg, h⟩ := h
    refine zw_gf hm_119 dX10_comes_5 (v := .inl (mI S c1 4)) (zT_tis hS hg) (zT_tt hS hg) rfl f_10_49_9 rfl ?_
    refine zw_push hm_119 dX10_comes_8 (v := .inr (.inr (some 75))) rfl ?_
    refine zw_gf hm_119 dX10_comes_9 (v := .inl (mI S 75 5)) (zT_is hS s_75) (zT_t hS s_75) rfl f_10_35_10 rfl ?_
    refine zw_if2 hm_119 dX10_comes_12 (t := 35) rfl zc2_lt ?_ ?_
    · intro hc
      rw [if_pos hc] at h
      exact zw_vret hm_119 dX10_comes_35 h
    · intro hc
      rw [if_neg hc] at h
      refine zw_push hm_119 dX10_comes_15 (v := .inr (.inr (some c1))) rfl ?_
      obtain ⟨hg, h⟩ := h
      refine zw_gf hm_119 dX10_comes_16 (v := .inl (mI S c1 0)) (zT_tis hS hg) (zT_tt hS hg) rfl f_10_58_9 rfl ?_
      refine zw_push hm_119 dX10_comes_19 (v := .inl (512 : Int32)) rfl ?_
      refine zw_if2 hm_119 dX10_comes_22 (t := 35) rfl zc2_ge ?_ ?_
      · intro hc
        rw [if_pos hc] at h
        exact zw_vret hm_119 dX10_comes_35 h
      · intro hc
        rw [if_neg hc] at h
        refine zw_push hm_119 dX10_comes_25 (v := .inr (.inr (some 75))) rfl ?_
        refine zw_gf hm_119 dX10_comes_26 (v := .inl (mI S 75 4)) (zT_is hS s_75) (zT_t hS s_75) rfl f_10_32_10 rfl ?_
        refine zw_push hm_119 dX10_comes_29 (v := .inl (512 : Int32)) rfl ?_
        refine zw_if2 hm_119 dX10_comes_32 (t := 36) rfl zc2_lt ?_ ?_
        · intro hc
          rw [if_pos hc] at h
          refine zw_push hm_119 dX10_comes_36 (v := .inr (.inr (some 75))) rfl ?_
          refine zw_gf hm_119 dX10_comes_37 (v := .inr (.inr (some 77))) (zT_is hS s_75) (zT_t hS s_75) rfl f_10_15_10 (zT_f hS r_75_2) ?_
          refine zw_push hm_119 dX10_comes_40 (v := .inr (.inr (some c1))) rfl ?_
          obtain ⟨hg, h⟩ := h
          refine zw_gf hm_119 dX10_comes_41 (v := .inl (mI S c1 0)) (zT_tis hS hg) (zT_tt hS hg) rfl f_10_58_9 rfl ?_
          obtain ⟨hg, h⟩ := h
          refine zw_ia hm_119 dX10_comes_44 (zT_is hS s_77) (zT_h hS s_77) rfl hg ?_
          show ma_wp X d w 119 45 [(0, .inr (.inr (some 75))), (1, .inr (.inr (some c1)))] [.inl (mI S 77 (mI S c1 0).toNatClampNeg)] S _
          refine zw_if0 hm_119 dX10_comes_45 (t := 81) rfl zc0_ne ?_ ?_
          · intro hc
            rw [if_neg hc] at h
            exact zw_vret hm_119 dX10_comes_81 h
          · intro hc
            rw [if_pos (Classical.not_not.mp hc)] at h
            refine zw_push hm_119 dX10_comes_48 (v := .inr (.inr (some 75))) rfl ?_
            refine zw_gf hm_119 dX10_comes_49 (v := .inr (.inr (some 77))) (zT_is hS s_75) (zT_t hS s_75) rfl f_10_15_10 (zT_f hS r_75_2) ?_
            refine zw_push hm_119 dX10_comes_52 (v := .inr (.inr (some c1))) rfl ?_
            obtain ⟨hg, h⟩ := h
            refine zw_gf hm_119 dX10_comes_53 (v := .inl (mI S c1 0)) (zT_tis hS hg) (zT_tt hS hg) rfl f_10_58_9 rfl ?_
            refine zw_push hm_119 dX10_comes_56 (v := .inl (1 : Int32)) rfl ?_
            obtain ⟨hg, h⟩ := h
            refine zw_ias hm_119 dX10_comes_57 (zT_is hS s_77) (zT_h hS s_77) rfl hg ?_
            refine zw_push hm_119 dX10_comes_58 (v := .inr (.inr (some 75))) rfl ?_
            refine zw_gf hm_119 dX10_comes_59 (v := .inr (.inr (some 76))) (zT_is (zT_pi hS) s_75) (zT_t (zT_pi hS) s_75) rfl f_10_9_10 (zT_f (zT_pi hS) r_75_1) ?_
            refine zw_push hm_119 dX10_comes_62 (v := .inr (.inr (some 75))) rfl ?_
            refine zw_gf hm_119 dX10_comes_63 (v := .inl (mI S 75 4)) (zT_is (zT_pi hS) s_75) (zT_t (zT_pi hS) s_75) rfl f_10_32_10 rfl ?_
            refine zw_push hm_119 dX10_comes_66 (v := .inr (.inr (some c1))) rfl ?_
            obtain ⟨hg, h⟩ := h
            refine zw_gf hm_119 dX10_comes_67 (v := .inl (mI (ma_put S 77 (mI S c1 0).toNatClampNeg (.inl (1 : Int32))) c1 0)) (zT_tis (zT_pi hS) hg) (zT_tt (zT_pi hS) hg) rfl f_10_58_9 rfl ?_
            obtain ⟨hg, h⟩ := h
            refine zw_ias hm_119 dX10_comes_70 (zT_is (zT_pi hS) s_76) (zT_h (zT_pi hS) s_76) rfl hg ?_
            refine zw_push hm_119 dX10_comes_71 (v := .inr (.inr (some 75))) rfl ?_
            refine zw_stk hm_119 dX10_comes_72 (st₉ := [.inr (.inr (some 75)), .inr (.inr (some 75))]) rfl rfl ?_
            refine zw_gf hm_119 dX10_comes_73 (v := .inl (mI S 75 4)) (zT_is (zT_pi (zT_pi hS)) s_75) (zT_t (zT_pi (zT_pi hS)) s_75) rfl f_10_32_10 rfl ?_
            refine zw_push hm_119 dX10_comes_76 (v := .inl (1 : Int32)) rfl ?_
            refine zw_stk hm_119 dX10_comes_77 (st₉ := [.inl ((mI S 75 4) + (1 : Int32)), .inr (.inr (some 75))]) rfl rfl ?_
            refine zw_pf hm_119 dX10_comes_78 (zT_is (zT_pi (zT_pi hS)) s_75) (zT_t (zT_pi (zT_pi hS)) s_75) p_10_32_10 zk_int ?_
            exact zw_vret hm_119 dX10_comes_81 h
        · intro hc
          rw [if_neg hc] at h
          exact zw_vret hm_119 dX10_comes_35 h
theorem sp_119_75_sk {X : Nat × (Nat → Int32)} {d w : Nat} {f : Nat → Nat → Int32} {r : Nat → Nat → Option Nat} {C Z N : Nat} {Q : Option ma_V ⊕ Nat → ma_S → Prop} {ab : Nat→Nat→Int32} {R : zRT} {y : Int32} {a8 : Nat→Nat→Int32} {kk : Nat→Int32} {S : ma_S} (t : Option Nat) (hd : 0 ≤ d) (hw : 0 ≤ w) (hI : zI f r C Z N S) (hq_t : ∀ c, t = some c → 126 ≤ c ∧ c < N) (hpre0 : xB S R) (hpre1 : aS 75 S = ab) (hpre2 : t = zTa R y) (hpre3 : aS 88 S = a8) (hpre4 : kC S = kk) (K : ∀ S₉, zI f r C Z N S₉ → (xB S₉ R) → (aS 75 S₉ = aCm ab y) → (aS 88 S₉ = a8) → (kC S₉ = kk) → Q (.inl none) S₉) : ma_wp X d w 119 0 [(0, .inr (.inr (some 75))), (1, .inr (.inr t))] [] S Q := by
  refine g_119_75_sk_0 t (by omega) (by omega) (zG_T hI) ?_
  refine ⟨fun hc => ?_, fun c1 hc => ?_⟩
  · skip
    have rn_c1 : zTa R y = none := hpre2.symm.trans hc
    exact K _ hI (show xB S R from by first | (exact (xC_o (W := 75) hpre0).2)) (show aS 75 S = aCm ab y from by first | (exact hpre1.trans (aCm_n (fun z => xB_nt (W := 75) hpre0 rn_c1 (by rw [hpre1]; exact ⟨z.1, z.2.1, z.2.2.1⟩))).symm)) (show aS 88 S = a8 from by first | (exact (xC_o (W := 88) hpre0).1.trans hpre3)) (show kC S = kk from by first | (exact (xK_o (W := 75) hpre0 hpre4).2))
  · skip
    have th_c1 := hq_t c1 hc
    have rg_c1 : zTa R y = some c1 := hpre2.symm.trans hc
    subst hc
    refine ⟨zG_n hI th_c1, ?_⟩
    have f1 := zG_th hI th_c1
    have b2 := i_bd (mI S 75 5)
    refine zd (fun h3 => ?_) (fun h3 => ?_)
    · skip
      have g4 := i_lt h3
      exact K _ hI (show xB S R from by first | (exact (xC_o (W := 75) hpre0).2)) (show aS 75 S = aCm ab y from by first | (have ty := xB_th (W := 75) hpre0 rg_c1; have e4 := congrArg Int32.toInt ty.2.2.2.2.2.1; refine hpre1.trans (aCm_n (fun z => ?_)).symm; rw [← hpre1] at z; have z4 : (mI S 75 5).toInt ≤ (mI S c1 4).toInt := (by rw [e4]; exact z.2.2.2.1); have z5 : (mI S 75 4).toInt < 512 := z.2.2.2.2.1; have z6 : (mI S 77 (mI S c1 0).toNatClampNeg).toInt = 0 := (by rw [ty.2.2.1]; exact congrArg Int32.toInt z.2.2.2.2.2); omega)) (show aS 88 S = a8 from by first | (exact (xC_o (W := 88) hpre0).1.trans hpre3)) (show kC S = kk from by first | (exact (xK_o (W := 75) hpre0 hpre4).2))
    · skip
      have g5 := i_nlt h3
      refine ⟨zG_n hI th_c1, ?_⟩
      have li6 : (512 : Int32).toInt = 512 := rfl
      have f7 := zG_th hI th_c1
      refine zd (fun h8 => ?_) (fun h8 => ?_)
      · skip
        have g9 := i_le h8
        exact K _ hI (show xB S R from by first | (exact (xC_o (W := 75) hpre0).2)) (show aS 75 S = aCm ab y from by first | (have ty := xB_th (W := 75) hpre0 rg_c1; have e4 := congrArg Int32.toInt ty.2.2.2.2.2.1; refine hpre1.trans (aCm_n (fun z => ?_)).symm; rw [← hpre1] at z; have z4 : (mI S 75 5).toInt ≤ (mI S c1 4).toInt := (by rw [e4]; exact z.2.2.2.1); have z5 : (mI S 75 4).toInt < 512 := z.2.2.2.2.1; have z6 : (mI S 77 (mI S c1 0).toNatClampNeg).toInt = 0 := (by rw [ty.2.2.1]; exact congrArg Int32.toInt z.2.2.2.2.2); omega)) (show aS 88 S = a8 from by first | (exact (xC_o (W := 88) hpre0).1.trans hpre3)) (show kC S = kk from by first | (exact (xK_o (W := 75) hpre0 hpre4).2))
      · skip
        have g10 := i_nle h8
        have f11 := zG_s hI (0) (512) (c := 75) (k := 4) (by decide)
        refine zd (fun h12 => ?_) (fun h12 => ?_)
        · skip
          have g13 := i_lt h12
          refine ⟨zG_n hI th_c1, ?_⟩
          refine ⟨i_ix (by omega) (by omega), ?_⟩
          have b14 := i_bd (mI S 77 (mI S c1 0).toNatClampNeg)
          have li15 : (0 : Int32).toInt = 0 := rfl
          refine zd (fun h16 => ?_) (fun h16 => ?_)
          · skip
            have g17 := i_eq h16
            refine ⟨zG_n hI th_c1, ?_⟩
            refine ⟨i_ix (by omega) (by omega), ?_⟩
            have hI18 : zI f r C Z N (ma_put S 77 (mI S c1 0).toNatClampNeg (.inl (1 : Int32))) := zG_fa hI rfl (by decide) (by decide) (by decide) trivial
            refine ⟨zG_n hI18 th_c1, ?_⟩
            refine ⟨i_ix (by omega) (by omega), ?_⟩
            have hI19 : zI f r C Z N (ma_put (ma_put S 77 (mI S c1 0).toNatClampNeg (.inl (1 : Int32))) 76 (mI S 75 4).toNatClampNeg (.inl (mI (ma_put S 77 (mI S c1 0).toNatClampNeg (.inl (1 : Int32))) c1 0))) := zG_fa hI18 rfl (by decide) (by decide) (by decide) trivial
            first | have e21 : ((mI S 75 4) + (1 : Int32)).toInt = (mI S 75 4).toInt + (1) := i_addk rfl (by omega) (by omega) | have b22 := i_bd ((mI S 75 4) + (1 : Int32))
            have hI20 : zI f r C Z N (ma_put (ma_put (ma_put S 77 (mI S c1 0).toNatClampNeg (.inl (1 : Int32))) 76 (mI S 75 4).toNatClampNeg (.inl (mI (ma_put S 77 (mI S c1 0).toNatClampNeg (.inl (1 : Int32))) c1 0))) 75 4 (.inl ((mI S 75 4) + (1 : Int32)))) := zG_sp hI19 (0) (512) rfl (by decide) (by decide) (by decide) trivial (by omega) (by omega)
            exact K _ hI20 (show xB (ma_put (ma_put (ma_put S 77 (mI S c1 0).toNatClampNeg (.inl (1 : Int32))) 76 (mI S 75 4).toNatClampNeg (.inl (mI (ma_put S 77 (mI S c1 0).toNatClampNeg (.inl (1 : Int32))) c1 0))) 75 4 (.inl ((mI S 75 4) + (1 : Int32)))) R from by first | (exact (xC_p (c := 75) (k := 4) (x := ((mI S 75 4) + (1 : Int32))) (xC_p (c := 76) (k := (mI S 75 4).toNatClampNeg) (x := (mI (ma_put S 77 (mI S c1 0).toNatClampNeg (.inl (1 : Int32))) c1 0)) (xC_p (c := 77) (k := (mI S c1 0).toNatClampNeg) (x := (1 : Int32)) (xC_o (W := 75) hpre0) 77 xW75 rfl rfl) 76 xW75 rfl rfl) 75 xW75 rfl rfl).2)) (show aS 75 (ma_put (ma_put (ma_put S 77 (mI S c1 0).toNatClampNeg (.inl (1 : Int32))) 76 (mI S 75 4).toNatClampNeg (.inl (mI (ma_put S 77 (mI S c1 0).toNatClampNeg (.inl (1 : Int32))) c1 0))) 75 4 (.inl ((mI S 75 4) + (1 : Int32)))) = aCm ab y from by first | (have ty := xB_th (W := 75) hpre0 rg_c1; have e4 := congrArg Int32.toInt ty.2.2.2.2.2.1; refine (xC_p (c := 75) (k := 4) (x := ((mI S 75 4) + (1 : Int32))) (xC_p (c := 76) (k := (mI S 75 4).toNatClampNeg) (x := (mI (ma_put S 77 (mI S c1 0).toNatClampNeg (.inl (1 : Int32))) c1 0)) (xC_p (c := 77) (k := (mI S c1 0).toNatClampNeg) (x := (1 : Int32)) (xC_o (W := 75) hpre0) 77 xW75 rfl rfl) 76 xW75 rfl rfl) 75 xW75 rfl rfl).1.trans ?_; (try simp only [zp_e (c₉ := 75) th_c1.1 (by decide), zp_e (c₉ := 76) th_c1.1 (by decide), zp_e (c₉ := 77) th_c1.1 (by decide)]); rw [ty.2.2.1, ← hpre1]; refine (aCm_y ⟨ty.1, ty.2.1, ?_, ?_, ?_, ?_⟩).symm; (rw [ty.2.2.2.2.2.2.2.2]; decide); (show (mI S 75 5).toInt ≤ _; rw [← e4]; omega); (show (mI S 75 4).toInt < 512; omega); (show mI S 77 y.toNatClampNeg = 0; rw [← ty.2.2.1]; assumption))) (show aS 88 (ma_put (ma_put (ma_put S 77 (mI S c1 0).toNatClampNeg (.inl (1 : Int32))) 76 (mI S 75 4).toNatClampNeg (.inl (mI (ma_put S 77 (mI S c1 0).toNatClampNeg (.inl (1 : Int32))) c1 0))) 75 4 (.inl ((mI S 75 4) + (1 : Int32)))) = a8 from by first | (exact (xC_n (c := 75) (k := 4) (x := ((mI S 75 4) + (1 : Int32))) (xC_n (c := 76) (k := (mI S 75 4).toNatClampNeg) (x := (mI (ma_put S 77 (mI S c1 0).toNatClampNeg (.inl (1 : Int32))) c1 0)) (xC_n (c := 77) (k := (mI S c1 0).toNatClampNeg) (x := (1 : Int32)) (xC_o (W := 88) hpre0) ⟨by decide, Or.inr ⟨rfl, Or.inl (by decide)⟩⟩) ⟨by decide, Or.inr ⟨rfl, Or.inl (by decide)⟩⟩) ⟨by decide, Or.inr ⟨rfl, Or.inl (by decide)⟩⟩).1.trans hpre3)) (show kC (ma_put (ma_put (ma_put S 77 (mI S c1 0).toNatClampNeg (.inl (1 : Int32))) 76 (mI S 75 4).toNatClampNeg (.inl (mI (ma_put S 77 (mI S c1 0).toNatClampNeg (.inl (1 : Int32))) c1 0))) 75 4 (.inl ((mI S 75 4) + (1 : Int32)))) = kk from by first | (exact (xK_p (c := 75) (k := 4) (x := ((mI S 75 4) + (1 : Int32))) (xK_p (c := 76) (k := (mI S 75 4).toNatClampNeg) (x := (mI (ma_put S 77 (mI S c1 0).toNatClampNeg (.inl (1 : Int32))) c1 0)) (xK_p (c := 77) (k := (mI S c1 0).toNatClampNeg) (x := (1 : Int32)) (xK_o (W := 75) hpre0 hpre4) 77 xW75 rfl rfl) 76 xW75 rfl rfl) 75 xW75 rfl rfl).2))
          · skip
            have g23 := i_ne h16
            exact K _ hI (show xB S R from by first | (exact (xC_o (W := 75) hpre0).2)) (show aS 75 S = aCm ab y from by first | (have ty := xB_th (W := 75) hpre0 rg_c1; have e4 := congrArg Int32.toInt ty.2.2.2.2.2.1; refine hpre1.trans (aCm_n (fun z => ?_)).symm; rw [← hpre1] at z; have z4 : (mI S 75 5).toInt ≤ (mI S c1 4).toInt := (by rw [e4]; exact z.2.2.2.1); have z5 : (mI S 75 4).toInt < 512 := z.2.2.2.2.1; have z6 : (mI S 77 (mI S c1 0).toNatClampNeg).toInt = 0 := (by rw [ty.2.2.1]; exact congrArg Int32.toInt z.2.2.2.2.2); omega)) (show aS 88 S = a8 from by first | (exact (xC_o (W := 88) hpre0).1.trans hpre3)) (show kC S = kk from by first | (exact (xK_o (W := 75) hpre0 hpre4).2))
        · skip
          have g24 := i_nlt h12
          exact K _ hI (show xB S R from by first | (exact (xC_o (W := 75) hpre0).2)) (show aS 75 S = aCm ab y from by first | (have ty := xB_th (W := 75) hpre0 rg_c1; have e4 := congrArg Int32.toInt ty.2.2.2.2.2.1; refine hpre1.trans (aCm_n (fun z => ?_)).symm; rw [← hpre1] at z; have z4 : (mI S 75 5).toInt ≤ (mI S c1 4).toInt := (by rw [e4]; exact z.2.2.2.1); have z5 : (mI S 75 4).toInt < 512 := z.2.2.2.2.1; have z6 : (mI S 77 (mI S c1 0).toNatClampNeg).toInt = 0 := (by rw [ty.2.2.1]; exact congrArg Int32.toInt z.2.2.2.2.2); omega)) (show aS 88 S = a8 from by first | (exact (xC_o (W := 88) hpre0).1.trans hpre3)) (show kC S = kk from by first | (exact (xK_o (W := 75) hpre0 hpre4).2))

/-! from 95.m15 -/
/-! COUNTS, the class (written by wip/tools/gen20k.py) -/
theorem g_276_77_sk_0 {X : Nat × (Nat → Int32)} {d w : Nat} {S : ma_S} {Q : Option ma_V ⊕ Nat → ma_S → Prop} (x : Int32) (hd : 0 ≤ d) (hw : 0 ≤ w) (hS : zT S) (h : ma_wp X d w 276 5 [(0, .inr (.inr (some 77))), (1, .inl x), (2, .inl (0 : Int32)), (3, .inl (512 : Int32))] [] S Q) : ma_wp X d w 276 0 [(0, .inr (.inr (some 77))), (1, .inl x)] [] S Q := by
  refine zw_push hm_276 dJ7_fill_53178_0 (v := .inl (0 : Int32)) rfl ?_
  refine zw_sto hm_276 dJ7_fill_53178_1 [(2, .inl (0 : Int32)), (0, .inr (.inr (some 77))), (1, .inl x)] rfl rfl rfl ?_
  refine zw_push hm_276 dJ7_fill_53178_2 (v := .inr (.inr (some 77))) rfl ?_
  refine zw_len hm_276 dJ7_fill_53178_3 (zT_is hS s_77) (zT_h hS s_77) rfl rfl ?_
  refine zw_sto hm_276 dJ7_fill_53178_4 [(3, .inl (512 : Int32)), (2, .inl (0 : Int32)), (0, .inr (.inr (some 77))), (1, .inl x)] rfl rfl rfl ?_
  exact zw_sub (ma_nd_of (ks := [0, 1, 2, 3]) rfl (by decide)) (ma_nd_of (ks := [3, 2, 0, 1]) rfl (by decide)) (ma_le_cons rfl (ma_le_cons rfl (ma_le_cons rfl (ma_le_cons rfl (ma_le_nil _))))) h
theorem g_276_77_sk_5 {X : Nat × (Nat → Int32)} {d w : Nat} {S : ma_S} {Q : Option ma_V ⊕ Nat → ma_S → Prop} (l1 : Int32) (l2 : Int32) (l3 : Int32) (hd : 0 ≤ d) (hw : 0 ≤ w) (hS : zT S) (h : if l3 ≤ l2 then (Q (.inl none) S) else ((0 ≤ l2 ∧ l2.toNatClampNeg < 512) ∧ (ma_wp X d w 276 5 [(0, .inr (.inr (some 77))), (1, .inl l1), (2, .inl (l2 + (1 : Int32))), (3, .inl l3)] [] (ma_put S 77 l2.toNatClampNeg (.inl l1)) Q))) : ma_wp X d w 276 5 [(0, .inr (.inr (some 77))), (1, .inl l1), (2, .inl l2), (3, .inl l3)] [] S Q := by
  refine zw_push hm_276 dJ7_fill_53178_5 (v := .inl l2) rfl ?_
  refine zw_push hm_276 dJ7_fill_53178_6 (v := .inl l3) rfl ?_
  refine zw_if2 hm_276 dJ7_fill_53178_7 (t := 20) rfl zc2_ge ?_ ?_
  · intro hc
    rw [if_pos hc] at h
    exact zw_vret hm_276 dJ7_fill_53178_20 h
  · intro hc
    rw [if_neg hc] at h
    refine zw_push hm_276 dJ7_fill_53178_10 (v := .inr (.inr (some 77))) rfl ?_
    refine zw_push hm_276 dJ7_fill_53178_11 (v := .inl l2) rfl ?_
    refine zw_push hm_276 dJ7_fill_53178_12 (v := .inl l1) rfl ?_
    obtain ⟨hg, h⟩ := h
    refine zw_ias hm_276 dJ7_fill_53178_13 (zT_is hS s_77) (zT_h hS s_77) rfl hg ?_
    refine zw_sto hm_276 dJ7_fill_53178_14 [(2, .inl (l2 + (1 : Int32))), (0, .inr (.inr (some 77))), (1, .inl l1), (3, .inl l3)] rfl rfl rfl ?_
    refine zw_goto hm_276 dJ7_fill_53178_17 (t := 5) rfl ?_
    exact zw_sub (ma_nd_of (ks := [0, 1, 2, 3]) rfl (by decide)) (ma_nd_of (ks := [2, 0, 1, 3]) rfl (by decide)) (ma_le_cons rfl (ma_le_cons rfl (ma_le_cons rfl (ma_le_cons rfl (ma_le_nil _))))) h
theorem lp_276_77_sk_5 {X : Nat × (Nat → Int32)} {d w : Nat} {f : Nat → Nat → Int32} {r : Nat → Nat → Option Nat} {C Z N : Nat} {Q : Option ma_V ⊕ Nat → ma_S → Prop} {ab : Nat→Nat→Int32} {R : zRT} {a8 : Nat→Nat→Int32} {kk : Nat→Int32} {x : Int32} (hd : 0 ≤ d) (hw : 0 ≤ w) (K : ∀ S₉, zI f r C Z N S₉ → (xB S₉ R) → (aS 75 S₉ = zFl ab 77 x 512) → (aS 88 S₉ = a8) → (kC S₉ = kk) → Q (.inl none) S₉) : ∀ (n : Nat) (S : ma_S) (l1 : Int32) (l2 : Int32) (l3 : Int32), (l3.toInt - l2.toInt).toNat = n → zI f r C Z N S → (0 ≤ l2.toInt) → (l3.toInt = 512) → (l2.toInt ≤ 512) → (xB S R) → (aS 75 S = zFl ab 77 l1 l2.toInt) → (l1 = x) → (aS 88 S = a8) → (kC S = kk) → ma_wp X d w 276 5 [(0, .inr (.inr (some 77))), (1, .inl l1), (2, .inl l2), (3, .inl l3)] [] S Q := by
  intro n
  induction n using Nat.strongRecOn with
  | _ n IH =>
    intro S l1 l2 l3 hmu hI  hi0 hi1 hi2 hi3 hi4 hi5 hi6 hi7
    refine g_276_77_sk_5 l1 l2 l3 (by omega) (by omega) (zG_T hI) ?_
    have b1 := i_bd l3
    have b2 := i_bd l2
    refine zd (fun h3 => ?_) (fun h3 => ?_)
    · skip
      have g4 := i_le h3
      exact K _ hI (show xB S R from by first | (exact (xC_o (W := 75) hi3).2)) (show aS 75 S = zFl ab 77 x 512 from by first | (rw [hi4, show l2.toInt = 512 from by omega, hi5])) (show aS 88 S = a8 from by first | (exact (xC_o (W := 88) hi3).1.trans hi6)) (show kC S = kk from by first | (exact (xK_o (W := 75) hi3 hi7).2))
    · skip
      have g5 := i_nle h3
      refine ⟨i_ix (by omega) (by omega), ?_⟩
      have hI6 : zI f r C Z N (ma_put S 77 l2.toNatClampNeg (.inl l1)) := zG_fa hI rfl (by decide) (by decide) (by decide) trivial
      have b7 := i_bd l1
      first | have e8 : (l2 + (1 : Int32)).toInt = l2.toInt + (1) := i_addk rfl (by omega) (by omega) | have b9 := i_bd (l2 + (1 : Int32))
      exact IH _ (by omega) _ (l1) ((l2 + (1 : Int32))) (l3) rfl hI6 (by omega) (by omega) (by omega) (show xB (ma_put S 77 l2.toNatClampNeg (.inl l1)) R from by first | (exact (xC_p (c := 77) (k := l2.toNatClampNeg) (x := l1) (xC_o (W := 75) hi3) 77 xW75 rfl rfl).2)) (show aS 75 (ma_put S 77 l2.toNatClampNeg (.inl l1)) = zFl ab 77 (l1) ((l2 + (1 : Int32))).toInt from by first | (refine (xC_p (c := 77) (k := l2.toNatClampNeg) (x := l1) (xC_o (W := 75) hi3) 77 xW75 rfl rfl).1.trans ?_; skip; rw [hi4]; exact zFl_s (by omega) (by omega))) (show (l1) = x from by first | (exact rfl) | (exact hi5)) (show aS 88 (ma_put S 77 l2.toNatClampNeg (.inl l1)) = a8 from by first | (exact (xC_n (c := 77) (k := l2.toNatClampNeg) (x := l1) (xC_o (W := 88) hi3) ⟨by decide, Or.inr ⟨rfl, Or.inl (by decide)⟩⟩).1.trans hi6)) (show kC (ma_put S 77 l2.toNatClampNeg (.inl l1)) = kk from by first | (exact (xK_p (c := 77) (k := l2.toNatClampNeg) (x := l1) (xK_o (W := 75) hi3 hi7) 77 xW75 rfl rfl).2))
theorem sp_276_77_sk {X : Nat × (Nat → Int32)} {d w : Nat} {f : Nat → Nat → Int32} {r : Nat → Nat → Option Nat} {C Z N : Nat} {Q : Option ma_V ⊕ Nat → ma_S → Prop} {ab : Nat→Nat→Int32} {R : zRT} {a8 : Nat→Nat→Int32} {kk : Nat→Int32} {S : ma_S} (x : Int32) (hd : 0 ≤ d) (hw : 0 ≤ w) (hI : zI f r C Z N S) (hpre0 : xB S R) (hpre1 : aS 75 S = ab) (hpre2 : aS 88 S = a8) (hpre3 : kC S = kk) (K : ∀ S₉, zI f r C Z N S₉ → (xB S₉ R) → (aS 75 S₉ = zFl ab 77 x 512) → (aS 88 S₉ = a8) → (kC S₉ = kk) → Q (.inl none) S₉) : ma_wp X d w 276 0 [(0, .inr (.inr (some 77))), (1, .inl x)] [] S Q := by
  refine g_276_77_sk_0 x (by omega) (by omega) (zG_T hI) ?_
  have b1 := i_bd x
  have li2 : (0 : Int32).toInt = 0 := rfl
  have li3 : (512 : Int32).toInt = 512 := rfl
  exact lp_276_77_sk_5 (by omega) (by omega) K _ _ (x) ((0 : Int32)) ((512 : Int32)) rfl hI (by omega) (by omega) (by omega) (show xB S R from by first | (exact (xC_o (W := 75) hpre0).2)) (show aS 75 S = zFl ab 77 (x) ((0 : Int32)).toInt from by first | (rw [hpre1]; exact zFl_0.symm)) (show (x) = x from by first | (exact rfl)) (show aS 88 S = a8 from by first | (exact (xC_o (W := 88) hpre0).1.trans hpre2)) (show kC S = kk from by first | (exact (xK_o (W := 75) hpre0 hpre3).2))
theorem g_117_75_sk_0 {X : Nat × (Nat → Int32)} {d w : Nat} {S : ma_S} {Q : Option ma_V ⊕ Nat → ma_S → Prop} (p : Int32) (hd : 1 ≤ d) (hw : 23 ≤ w) (hS : zT S) (h : ma_wp X (d - 1) (w - 23) 276 0 [(0, .inr (.inr (some 77))), (1, .inl (0 : Int32))] [] S (zv (fun S1 => zT S1 ∧ (Q (.inl none) (ma_put (ma_put (ma_put S1 75 3 (.inl (0 : Int32))) 75 4 (.inl (0 : Int32))) 75 5 (.inl p)))) (fun _ _ => False))) : ma_wp X d w 117 0 [(0, .inr (.inr (some 75))), (1, .inl p)] [] S Q := by
  refine zw_push hm_117 dX10_restart_0 (v := .inr (.inr (some 75))) rfl ?_
  refine zw_gf hm_117 dX10_restart_1 (v := .inr (.inr (some 77))) (zT_is hS s_75) (zT_t hS s_75) rfl f_10_15_10 (zT_f hS r_75_2) ?_
  refine zw_push hm_117 dX10_restart_4 (v := .inl (0 : Int32)) rfl ?_
  refine zw_cs hm_117 dX10_restart_5 pn_10_22 sl_10_22 hm_276 [.inl (0 : Int32), .inr (.inr (some 77))] [] rfl ⟨by omega, by omega⟩ rfl (zw_mono h (zv_go ?_ ?_))
  · intro S1 hv
    obtain ⟨hS1, h⟩ := hv
    refine zw_push hm_117 dX10_restart_8 (v := .inr (.inr (some 75))) rfl ?_
    refine zw_push hm_117 dX10_restart_9 (v := .inl (0 : Int32)) rfl ?_
    refine zw_pf hm_117 dX10_restart_10 (zT_is hS1 s_75) (zT_t hS1 s_75) p_10_28_10 zk_int ?_
    refine zw_push hm_117 dX10_restart_13 (v := .inr (.inr (some 75))) rfl ?_
    refine zw_push hm_117 dX10_restart_14 (v := .inl (0 : Int32)) rfl ?_
    refine zw_pf hm_117 dX10_restart_15 (zT_is (zT_pi hS1) s_75) (zT_t (zT_pi hS1) s_75) p_10_32_10 zk_int ?_
    refine zw_push hm_117 dX10_restart_18 (v := .inr (.inr (some 75))) rfl ?_
    refine zw_push hm_117 dX10_restart_19 (v := .inl p) rfl ?_
    refine zw_pf hm_117 dX10_restart_20 (zT_is (zT_pi (zT_pi hS1)) s_75) (zT_t (zT_pi (zT_pi hS1)) s_75) p_10_35_10 zk_int ?_
    exact zw_vret hm_117 dX10_restart_23 h
  · intro x S9 hx
    exact hx.elim
theorem sp_117_75_sk {X : Nat × (Nat → Int32)} {d w : Nat} {f : Nat → Nat → Int32} {r : Nat → Nat → Option Nat} {C Z N : Nat} {Q : Option ma_V ⊕ Nat → ma_S → Prop} {ab : Nat→Nat→Int32} {R : zRT} {a8 : Nat→Nat→Int32} {kk : Nat→Int32} {S : ma_S} (p : Int32) (hd : 1 ≤ d) (hw : 23 ≤ w) (hI : zI f r C Z N S) (hpre0 : xB S R) (hpre1 : aS 75 S = ab) (hpre2 : aS 88 S = a8) (hpre3 : kC S = kk) (K : ∀ S₉, zI f r C Z N S₉ → (xB S₉ R) → (aS 75 S₉ = aWh ab p) → (aS 88 S₉ = a8) → (kC S₉ = kk) → Q (.inl none) S₉) : ma_wp X d w 117 0 [(0, .inr (.inr (some 75))), (1, .inl p)] [] S Q := by
  refine g_117_75_sk_0 p (by omega) (by omega) (zG_T hI) ?_
  have li1 : (0 : Int32).toInt = 0 := rfl
  refine sp_276_77_sk (ab := (aS 75 S)) (R := R) (a8 := a8) (kk := kk) ((0 : Int32)) (by omega) (by omega) hI (show xB S R from by first | (exact (xC_o (W := 75) hpre0).2)) (show aS 75 S = (aS 75 S) from by first | (exact rfl)) (show aS 88 S = a8 from by first | (exact (xC_o (W := 88) hpre0).1.trans hpre2)) (show kC S = kk from by first | (exact (xK_o (W := 75) hpre0 hpre3).2)) (fun S1 hI_S1 rp0_S1 rp1_S1 rp2_S1 rp3_S1 => zv_n ⟨zG_T hI_S1, ?_⟩)
  have rp0_S1 : xB S1 R := rp0_S1
  have rp1_S1 : aS 75 S1 = zFl (aS 75 S) 77 (0 : Int32) 512 := rp1_S1
  have rp2_S1 : aS 88 S1 = a8 := rp2_S1
  have rp3_S1 : kC S1 = kk := rp3_S1
  have hI2 : zI f r C Z N (ma_put S1 75 3 (.inl (0 : Int32))) := zG_sp hI_S1 (0) (512) rfl (by decide) (by decide) (by decide) trivial (by omega) (by omega)
  have hI3 : zI f r C Z N (ma_put (ma_put S1 75 3 (.inl (0 : Int32))) 75 4 (.inl (0 : Int32))) := zG_sp hI2 (0) (512) rfl (by decide) (by decide) (by decide) trivial (by omega) (by omega)
  have hI4 : zI f r C Z N (ma_put (ma_put (ma_put S1 75 3 (.inl (0 : Int32))) 75 4 (.inl (0 : Int32))) 75 5 (.inl p)) := zG_fr hI3 rfl (by decide) (by decide) (by decide) trivial
  exact K _ hI4 (show xB (ma_put (ma_put (ma_put S1 75 3 (.inl (0 : Int32))) 75 4 (.inl (0 : Int32))) 75 5 (.inl p)) R from by first | (exact (xC_p (c := 75) (k := 5) (x := p) (xC_p (c := 75) (k := 4) (x := (0 : Int32)) (xC_p (c := 75) (k := 3) (x := (0 : Int32)) (xC_o (W := 75) rp0_S1) 75 xW75 rfl rfl) 75 xW75 rfl rfl) 75 xW75 rfl rfl).2)) (show aS 75 (ma_put (ma_put (ma_put S1 75 3 (.inl (0 : Int32))) 75 4 (.inl (0 : Int32))) 75 5 (.inl p)) = aWh ab p from by first | (refine (xC_p (c := 75) (k := 5) (x := p) (xC_p (c := 75) (k := 4) (x := (0 : Int32)) (xC_p (c := 75) (k := 3) (x := (0 : Int32)) (xC_o (W := 75) rp0_S1) 75 xW75 rfl rfl) 75 xW75 rfl rfl) 75 xW75 rfl rfl).1.trans ?_; skip; rw [rp1_S1, hpre1]; rfl)) (show aS 88 (ma_put (ma_put (ma_put S1 75 3 (.inl (0 : Int32))) 75 4 (.inl (0 : Int32))) 75 5 (.inl p)) = a8 from by first | (exact (xC_n (c := 75) (k := 5) (x := p) (xC_n (c := 75) (k := 4) (x := (0 : Int32)) (xC_n (c := 75) (k := 3) (x := (0 : Int32)) (xC_o (W := 88) rp0_S1) ⟨by decide, Or.inr ⟨rfl, Or.inl (by decide)⟩⟩) ⟨by decide, Or.inr ⟨rfl, Or.inl (by decide)⟩⟩) ⟨by decide, Or.inr ⟨rfl, Or.inl (by decide)⟩⟩).1.trans rp2_S1)) (show kC (ma_put (ma_put (ma_put S1 75 3 (.inl (0 : Int32))) 75 4 (.inl (0 : Int32))) 75 5 (.inl p)) = kk from by first | (exact (xK_p (c := 75) (k := 5) (x := p) (xK_p (c := 75) (k := 4) (x := (0 : Int32)) (xK_p (c := 75) (k := 3) (x := (0 : Int32)) (xK_o (W := 75) rp0_S1 rp3_S1) 75 xW75 rfl rfl) 75 xW75 rfl rfl) 75 xW75 rfl rfl).2))

