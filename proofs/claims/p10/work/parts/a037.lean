/-! from 95.o16 -/
/-! the reference under COUNTS (written by wip/tools/gen20s.py) -/
set_option maxHeartbeats 8000000 in
theorem lp_183r4_142 {X : Nat × (Nat → Int32)} {P : Option ma_V → (Nat → Nat → Int32) → Prop} {T : Nat} {aa : Nat→Nat→Int32} {B : Int} {LL : Int64} {kk : Int32} {nn : Int32} {r1 : Int32} {m0 : Nat → Nat → Int32} (h0 : zV m0) (K : ∀ v m₉, zF wr_183 m0 m₉ → zV m₉ → (zW (m₉ 94 7) (m₉ 98) (m₉ 101) (m₉ 102) (m₉ 108)) → (zGW (T + 1) (m₉ 94 55) (m₉ 109)) → (zGU (T + 1) (m₉ 94 46) (m₉ 99)) → (zOw (m₉ 99) (m₉ 103) (m₉ 111)) → (zGG (m₉ 94 58) (m₉ 94 56) (m₉ 94 57) (m₉ 106)) → (qRB (m₉ 99) (m₉ 100) (m₉ 98) (m₉ 101) (m₉ 102) (m₉ 103) (m₉ 107) (m₉ 108) (m₉ 109) (m₉ 111) (m₉ 112) (m₉ 113) (m₉ 114) (m₉ 94 55) (m₉ 94 46) (m₉ 94 11) (m₉ 94 12) (m₉ 94 62) (m₉ 94 17) (m₉ 94 9) (kMk aa kk nn LL r1)) → (qI (kMk aa kk nn LL r1)) → ((kMk aa kk nn LL r1) 87 8 = (m₉ 94 58)) → (cV (kMk aa kk nn LL r1) [] B) → (qCt (m₉ 105) (m₉ 99) (m₉ 100) (kMk aa kk nn LL r1) [] (-1) (-1)) → ((m₉ 94 45).toInt = sm (zbU (m₉ 99)) (m₉ 102) 3100) → ((m₉ 94 58).toInt = 0) → (v = sMn aa nn) → P (some (.inl v)) m₉) : ∀ (n : Nat) (m : Nat → Nat → Int32) (l2 : Int32) (l3 : Int32) (l4 : Int32) (l5 : Int32) (l6 : Int32), (61 - l6.toInt).toNat = n → zF wr_183 m0 m → zV m → (l2.toInt = nn.toInt) → (0 ≤ l2.toInt) → (l2.toInt ≤ 60) → (0 ≤ l3.toInt) → (l3.toInt ≤ 15) → (0 ≤ l4.toInt) → (l4.toInt ≤ 1500) → (0 ≤ l5.toInt) → (l5.toInt ≤ 3099) → (T + 1 ≤ 512) → (0 ≤ l6.toInt) → ((m 94 10).toInt = 4 ∧ (m 94 58).toInt = 0) → ((m 94 8).toInt = 1) → ((m 94 46).toInt ≤ 511) → (l2 = nn) → (l3 = r1) → (qEq l4.toInt (zRp aa (nn + (1 : Int32)).toInt)) → ((m 102 l5.toNatClampNeg).toInt = l2.toInt) → ((m 99) l5.toNatClampNeg ≠ 0) → (zGUp T (m 94 46) (m 99)) → (zOw (m 99) (m 103) (m 111)) → (zGG (m 94 58) (m 94 56) (m 94 57) (m 106)) → (qI (zRs aa (nn + (1 : Int32)).toInt)) → (qNs (m 99) (m 100) (m 98) (m 101) (m 102) (m 103) (m 107) (m 108) (m 109) (m 111) (m 112) (m 113) (m 114) (m 94 55) (m 94 46) (m 94 11) (m 94 12) (m 94 62) (m 94 17) (m 94 9) (zRs aa (nn + (1 : Int32)).toInt) l5.toNatClampNeg (m 94 46) kk nn l4) → (qMG (m 94 58) (m 106) (m 115) (m 94 57) (m 94 56) (zmk (m 99) l5.toNatClampNeg) (m 100) (zRs aa (nn + (1 : Int32)).toInt)) → ((zRs aa (nn + (1 : Int32)).toInt) 87 8 = (m 94 58)) → ((m 94 45).toInt = sm (zbU (zmk (m 99) l5.toNatClampNeg)) (m 102) 3100) → (∀ j : Nat, (j : Int) < nn.toInt → (zbit LL (Int32.ofNat j) ≠ 0 ↔ (kk = 16 ∨ (kk < 16 ∧ (((m 98) kk.toNatClampNeg >>> (Int32.ofNat j &&& 31)) &&& 1) = 1)))) → ((aa 69 6).toInt < 512) → (cV (zRs aa (nn + (1 : Int32)).toInt) [] B) → (qCt (m 105) (zmk (m 99) l5.toNatClampNeg) (m 100) (zRs aa (nn + (1 : Int32)).toInt) [] (-1) (-1)) → (0 ≤ B) → (B ≤ 1000000) → (zWn (m 94 7) (m 98) (m 101) (m 102) (m 108) l5.toNatClampNeg l6.toNatClampNeg) → (zGW (T + 1) (m 94 55) (m 109)) → (qCo (m 94 58) (m 106) l5.toNatClampNeg) → ((m 105) l5.toNatClampNeg = 0) → ((m 107) l5.toNatClampNeg = 0) → ((m 109) l5.toNatClampNeg = 0) → zm X 9 198 183 142 [(0, .inr (.inr (some 94))), (2, .inl l2), (3, .inl l3), (4, .inl l4), (5, .inl l5), (6, .inl l6)] m P := by
  intro n
  induction n using Nat.strongRecOn with
  | _ n IH =>
    intro m l2 l3 l4 l5 l6 hmu hF hV hi0 hi1 hi2 hi3 hi4 hi5 hi6 hi7 hi8 hi9 hi10 hi11 hi12 hi13 r_L2n r_L3r r_PLq hi17 r_USn r_GUp r_OW r_GG r_QIb r_NS r_MGz r_MKb r_WTz r_BTS r_N6 r_VVb r_CTz hi31 hi32 r_WN r_GW r_COs r_CZs r_HOs r_WIs
    refine g_183_142 l2 l3 l4 l5 l6 ?_
    have f1 : 0 ≤ (m 94 10).toInt ∧ (m 94 10).toInt ≤ 6 := rs_94_10 (m := m) hV
    have f2 : 0 ≤ (m 94 58).toInt ∧ (m 94 58).toInt ≤ 1 := rs_94_58 (m := m) hV
    have f3 : 0 ≤ (m 94 8).toInt ∧ (m 94 8).toInt ≤ 1 := rs_94_8 (m := m) hV
    have f4 : 0 ≤ (m 94 46).toInt ∧ (m 94 46).toInt ≤ 100000 := rs_94_46 (m := m) hV
    have b5 := i_bd l5
    first | have f6 : 0 ≤ (m 102 l5.toNatClampNeg).toInt ∧ (m 102 l5.toNatClampNeg).toInt ≤ 60 := ra_102 (m := m) hV (k := l5.toNatClampNeg) (i_ix (n := 3100) (by omega) (by omega)).2 | have b7 := i_bd (m 102 l5.toNatClampNeg)
    have b8 := i_bd l2
    have b9 := i_bd l6
    refine zd (fun (h10 : l2 ≤ l6) => ?_) (fun (h10 : ¬ l2 ≤ l6) => ?_)
    · skip
      have g11 := i_le h10
      have b12 := i_bd l3
      first | have e14 : ((m 94 46) + (1 : Int32)).toInt = (m 94 46).toInt + (1) := i_addk rfl (by omega) (by omega) | have b15 := i_bd ((m 94 46) + (1 : Int32))
      have hV13 : zV (ma_u m 94 46 ((m 94 46) + (1 : Int32))) := us_94_46 hV (by omega) (by omega)
      have hV16 : zV (ma_u (ma_u m 94 46 ((m 94 46) + (1 : Int32))) 94 44 ((m 94 44) + (1 : Int32))) := uf_94_44 hV13
      have hV17 : zV (ma_u (ma_u (ma_u m 94 46 ((m 94 46) + (1 : Int32))) 94 44 ((m 94 44) + (1 : Int32))) 94 45 ((m 94 45) + (l2 + (1 : Int32)))) := uf_94_45 hV16
      have b19 := i_bd l4
      first | have e20 : (l4 + l2).toInt = l4.toInt + l2.toInt := i_add (by omega) (by omega) | have b21 := i_bd (l4 + l2)
      first | have e22 : ((l4 + l2) + (1 : Int32)).toInt = (l4 + l2).toInt + (1) := i_addk rfl (by omega) (by omega) | have b23 := i_bd ((l4 + l2) + (1 : Int32))
      have hV18 : zV (ma_u (ma_u (ma_u (ma_u m 94 46 ((m 94 46) + (1 : Int32))) 94 44 ((m 94 44) + (1 : Int32))) 94 45 ((m 94 45) + (l2 + (1 : Int32)))) 94 62 ((l4 + l2) + (1 : Int32))) := us_94_62 hV17 (by omega) (by omega)
      refine sp_238r4 (T := (T + 1)) (x := (-1 : Int32)) (aa := (aMd (aAd (zRs aa (nn + (1 : Int32)).toInt) (m 94 46) (zFn (m 94 46) kk (nn + (1 : Int32)) l4) LL) (m 94 46))) (l3) (l5) hV18 (by omega) (by omega) (by omega) (by omega) (by omega) (by omega) (show (m 94 10).toInt = 4 ∧ (m 94 58).toInt = 0 from by omega) (show zW (m 94 7) (m 98) (m 101) (m 102) (m 108) from by first | (exact Wn_end r_WN (by rw [tn_cast (x := l6) (by omega)]; omega)) | (exfalso; omega; done) | (exfalso; contradiction; done)) r_GW (show zGU (T + 1) ((m 94 46) + (1 : Int32)) (m 99) from by first | (exact GUp_end r_GUp (by omega)) | (exfalso; omega; done) | (exfalso; contradiction; done)) r_OW (show qRB (m 99) (m 100) (m 98) (m 101) (m 102) (m 103) (m 107) (m 108) (m 109) (m 111) (m 112) (m 113) (m 114) (m 94 55) ((m 94 46) + (1 : Int32)) (m 94 11) (m 94 12) ((l4 + l2) + (1 : Int32)) (m 94 17) (m 94 9) (aMd (aAd (zRs aa (nn + (1 : Int32)).toInt) (m 94 46) (zFn (m 94 46) kk (nn + (1 : Int32)) l4) LL) (m 94 46)) from by first | (exact RB_ns r_NS (Ne_o0 r_QIb r_PLq (by omega) (by omega) (by omega) r_NS.1.2.2.2.2.2.2.2.1 (by omega)) (Ad_of (b := (zRs aa (nn + (1 : Int32)).toInt)) (y := (m 94 46)) (kk := kk) (w := nn) (pl := l4) (L := LL) (by omega) (by omega) (by omega) (by omega) (by omega)) (tn_lt (by omega) (by omega)) r_HOs r_WIs (fun j hj => r_WN.2.1 j (by have := tn_cast (x := l6) (by omega); omega)) (fun j hj => (r_BTS j hj).trans (by unfold qIr; rw [r_NS.2.2.2.1])) rfl (by rw [r_L2n, Int32.add_assoc])) | (exfalso; omega; done) | (exfalso; contradiction; done)) (show qI (aMd (aAd (zRs aa (nn + (1 : Int32)).toInt) (m 94 46) (zFn (m 94 46) kk (nn + (1 : Int32)) l4) LL) (m 94 46)) from by first | (exact I_ad (Ne_o0 r_QIb r_PLq (by omega) (by omega) (by omega) r_NS.1.2.2.2.2.2.2.2.1 (by omega)) (Ad_of (b := (zRs aa (nn + (1 : Int32)).toInt)) (y := (m 94 46)) (kk := kk) (w := nn) (pl := l4) (L := LL) (by omega) (by omega) (by omega) (by omega) (by omega))) | (exfalso; omega; done) | (exfalso; contradiction; done)) (show (aMd (aAd (zRs aa (nn + (1 : Int32)).toInt) (m 94 46) (zFn (m 94 46) kk (nn + (1 : Int32)) l4) LL) (m 94 46)) 87 8 = (m 94 58) from by first | (exact ((Ad_of (b := (zRs aa (nn + (1 : Int32)).toInt)) (y := (m 94 46)) (kk := kk) (w := nn) (pl := l4) (L := LL) (by omega) (by omega) (by omega) (by omega) (by omega)).2.2.2.2.2.2.1 8 (by decide)).trans r_MKb) | (exfalso; omega; done) | (exfalso; contradiction; done)) (show ((m 94 45) + (l2 + (1 : Int32))).toInt = sm (zbU (m 99)) (m 102) 3100 from by first | (have q := WT_ad r_WTz (tn_lt (by omega) (by omega)) r_USn (fun t ht => ra_102 hV ht); rw [r_NS.2.2.2.2.1, ← r_L2n] at q; exact q; done) | (exfalso; omega; done) | (exfalso; contradiction; done)) (show cV (aMd (aAd (zRs aa (nn + (1 : Int32)).toInt) (m 94 46) (zFn (m 94 46) kk (nn + (1 : Int32)) l4) LL) (m 94 46)) [] B from by first | (exact V_ad4 (Ne_o0 r_QIb r_PLq (by omega) (by omega) (by omega) r_NS.1.2.2.2.2.2.2.2.1 (by omega)) (Ad_of (b := (zRs aa (nn + (1 : Int32)).toInt)) (y := (m 94 46)) (kk := kk) (w := nn) (pl := l4) (L := LL) (by omega) (by omega) (by omega) (by omega) (by omega)) r_VVb (by omega)) | (exfalso; omega; done) | (exfalso; contradiction; done)) (show qCt (m 105) (m 99) (m 100) (aMd (aAd (zRs aa (nn + (1 : Int32)).toInt) (m 94 46) (zFn (m 94 46) kk (nn + (1 : Int32)) l4) LL) (m 94 46)) [] (-1 : Int32) (-1) from by first | (exact Ct_ad (Ne_o0 r_QIb r_PLq (by omega) (by omega) (by omega) r_NS.1.2.2.2.2.2.2.2.1 (by omega)) (Ad_of (b := (zRs aa (nn + (1 : Int32)).toInt)) (y := (m 94 46)) (kk := kk) (w := nn) (pl := l4) (L := LL) (by omega) (by omega) (by omega) (by omega) (by omega)) r_VVb r_CTz r_NS.1.1 r_CZs r_NS.2.2.1) | (exfalso; omega; done) | (exfalso; contradiction; done)) (show qU (m 99) l5 from by first | (exact Or.inr ⟨by omega, r_USn⟩) | (assumption; done) | (exact ow5.1) | (exact ow3.1) | (exfalso; omega; done) | (exfalso; contradiction; done)) (show (-1 : Int32).toInt < 0 ∨ (-1 : Int32) = qNo (m 100) l5 from by first | (exact Or.inl (by decide)) | (exfalso; omega; done) | (exfalso; contradiction; done)) (fun m1 hV_m1 p0_m1 p1_m1 p2_m1 p3_m1 p4_m1 p5_m1 p6_m1 p7_m1 p8_m1 p9_m1 p10_m1 => zmv_n ?_)
      have p0_m1 : zGW (T + 1) (m1 94 55) (m1 109) := p0_m1
      have p1_m1 : zGU (T + 1) ((m 94 46) + (1 : Int32)) (m1 99) := p1_m1
      have p2_m1 : zOw (m1 99) (m 103) (m1 111) := p2_m1
      have p3_m1 : (m1 94 45).toInt = sm (zbU (m1 99)) (m 102) 3100 := p3_m1
      have p4_m1 : qRB (m1 99) (m 100) (m 98) (m 101) (m 102) (m 103) (m 107) (m 108) (m1 109) (m1 111) (m1 112) (m1 113) (m1 114) (m1 94 55) ((m 94 46) + (1 : Int32)) (m 94 11) (m 94 12) ((l4 + l2) + (1 : Int32)) (m 94 17) (m 94 9) (kRt (aMd (aAd (zRs aa (nn + (1 : Int32)).toInt) (m 94 46) (zFn (m 94 46) kk (nn + (1 : Int32)) l4) LL) (m 94 46)) l3 (qNo (m 100) l5)) := p4_m1
      have p5_m1 : qI (kRt (aMd (aAd (zRs aa (nn + (1 : Int32)).toInt) (m 94 46) (zFn (m 94 46) kk (nn + (1 : Int32)) l4) LL) (m 94 46)) l3 (qNo (m 100) l5)) := p5_m1
      have p6_m1 : (kRt (aMd (aAd (zRs aa (nn + (1 : Int32)).toInt) (m 94 46) (zFn (m 94 46) kk (nn + (1 : Int32)) l4) LL) (m 94 46)) l3 (qNo (m 100) l5)) 87 8 = (m 94 58) := p6_m1
      have p7_m1 : cV (kRt (aMd (aAd (zRs aa (nn + (1 : Int32)).toInt) (m 94 46) (zFn (m 94 46) kk (nn + (1 : Int32)) l4) LL) (m 94 46)) l3 (qNo (m 100) l5)) [] B := p7_m1
      have p8_m1 : qCt (m1 105) (m1 99) (m 100) (kRt (aMd (aAd (zRs aa (nn + (1 : Int32)).toInt) (m 94 46) (zFn (m 94 46) kk (nn + (1 : Int32)) l4) LL) (m 94 46)) l3 (qNo (m 100) l5)) [] (-1 : Int32) (-1) := p8_m1
      have p9_m1 : qXr (kRt (aMd (aAd (zRs aa (nn + (1 : Int32)).toInt) (m 94 46) (zFn (m 94 46) kk (nn + (1 : Int32)) l4) LL) (m 94 46)) l3 (qNo (m 100) l5)) (-1 : Int32) := p9_m1
      have p10_m1 : (m1 112) l3.toNatClampNeg = l5 := p10_m1
      have hg24 : (0 ≤ l5 ∧ l5.toNatClampNeg < 3100) := i_ix (by omega) (by omega)
      refine ⟨hg24, ?_⟩
      try have e21 : (l2 + (1 : Int32)).toInt = l2.toInt + 1 := i_addk rfl (by omega) (by omega)
      try have gun := GU_nu p1_m1
      first | have f25 : 0 ≤ (m 100 l5.toNatClampNeg).toInt ∧ (m 100 l5.toNatClampNeg).toInt ≤ 100000 := ra_100 (m := m) hV (k := l5.toNatClampNeg) (i_ix (n := 3100) (by omega) (by omega)).2 | have b26 := i_bd (m 100 l5.toNatClampNeg)
      exact K ((m 100 l5.toNatClampNeg)) _ (zF_zov (zF_u (zF_u (zF_u (zF_u hF rfl) rfl) rfl) rfl) ws_238_183) hV_m1 (show zW (m 94 7) (m 98) (m 101) (m 102) (m 108) from by first | (exact Wn_end r_WN (by rw [tn_cast (x := l6) (by omega)]; omega)) | (exfalso; omega; done) | (exfalso; contradiction; done)) p0_m1 p1_m1 p2_m1 (show zGG (m 94 58) (m1 94 56) (m 94 57) (m1 106) from by first | (exact fun z => absurd z (by omega)) | (exact fun z => absurd z (by decide)) | (exact fun z => absurd z (by omega)) | (exfalso; omega; done) | (exfalso; contradiction; done)) (show qRB (m1 99) (m 100) (m 98) (m 101) (m 102) (m 103) (m 107) (m 108) (m1 109) (m1 111) (m1 112) (m1 113) (m1 114) (m1 94 55) ((m 94 46) + (1 : Int32)) (m 94 11) (m 94 12) ((l4 + l2) + (1 : Int32)) (m 94 17) (m 94 9) (kMk aa kk nn LL r1) from by first | (have e := p4_m1; rw [No_y (by omega), r_NS.2.2.1, r_L3r] at e; unfold kRt at e; rw [ad_72] at e; rw [(kMk_2 (a := aa) (b := (zRs aa (nn + (1 : Int32)).toInt)) (kd := kk) (wd := nn) (rt := r1) (L := LL) (pl := l4) (y := (m 94 46)) r_N6 rfl (qE r_PLq) (by omega) r_NS.1.2.2.2.2.2.2.2.1.symm).1]; exact e; done) | (exfalso; omega; done) | (exfalso; contradiction; done)) (show qI (kMk aa kk nn LL r1) from by first | (have e := p5_m1; rw [No_y (by omega), r_NS.2.2.1, r_L3r] at e; unfold kRt at e; rw [ad_72] at e; rw [(kMk_2 (a := aa) (b := (zRs aa (nn + (1 : Int32)).toInt)) (kd := kk) (wd := nn) (rt := r1) (L := LL) (pl := l4) (y := (m 94 46)) r_N6 rfl (qE r_PLq) (by omega) r_NS.1.2.2.2.2.2.2.2.1.symm).1]; exact e; done) | (exfalso; omega; done) | (exfalso; contradiction; done)) (show (kMk aa kk nn LL r1) 87 8 = (m 94 58) from by first | (have e := p6_m1; rw [No_y (by omega), r_NS.2.2.1, r_L3r] at e; unfold kRt at e; rw [ad_72] at e; rw [(kMk_2 (a := aa) (b := (zRs aa (nn + (1 : Int32)).toInt)) (kd := kk) (wd := nn) (rt := r1) (L := LL) (pl := l4) (y := (m 94 46)) r_N6 rfl (qE r_PLq) (by omega) r_NS.1.2.2.2.2.2.2.2.1.symm).1]; exact e; done) | (exfalso; omega; done) | (exfalso; contradiction; done)) (show cV (kMk aa kk nn LL r1) [] B from by first | (have e := p7_m1; rw [No_y (by omega), r_NS.2.2.1, r_L3r] at e; unfold kRt at e; rw [ad_72] at e; rw [(kMk_2 (a := aa) (b := (zRs aa (nn + (1 : Int32)).toInt)) (kd := kk) (wd := nn) (rt := r1) (L := LL) (pl := l4) (y := (m 94 46)) r_N6 rfl (qE r_PLq) (by omega) r_NS.1.2.2.2.2.2.2.2.1.symm).1]; exact e; done) | (exfalso; omega; done) | (exfalso; contradiction; done)) (show qCt (m1 105) (m1 99) (m 100) (kMk aa kk nn LL r1) [] (-1) (-1) from by first | (have e := p8_m1; rw [No_y (by omega), r_NS.2.2.1, r_L3r] at e; unfold kRt at e; rw [ad_72] at e; rw [(kMk_2 (a := aa) (b := (zRs aa (nn + (1 : Int32)).toInt)) (kd := kk) (wd := nn) (rt := r1) (L := LL) (pl := l4) (y := (m 94 46)) r_N6 rfl (qE r_PLq) (by omega) r_NS.1.2.2.2.2.2.2.2.1.symm).1]; exact e; done) | (exfalso; omega; done) | (exfalso; contradiction; done)) p3_m1 (show (m 94 58).toInt = 0 from by omega) (show (m 100 l5.toNatClampNeg) = sMn aa nn from by first | (rw [r_NS.2.2.1]; exact (kMk_2 (a := aa) (b := (zRs aa (nn + (1 : Int32)).toInt)) (kd := kk) (wd := nn) (rt := r1) (L := LL) (pl := l4) (y := (m 94 46)) r_N6 rfl (qE r_PLq) (by omega) r_NS.1.2.2.2.2.2.2.2.1.symm).2.symm; done) | (exfalso; omega; done) | (exfalso; contradiction; done))
    · skip
      have g27 := i_nle h10
      have hg28 : (0 ≤ l5 ∧ l5.toNatClampNeg < 3100) := i_ix (by omega) (by omega)
      refine ⟨hg28, ?_⟩
      first | have f29 : 0 ≤ (m 101 l5.toNatClampNeg).toInt ∧ (m 101 l5.toNatClampNeg).toInt ≤ 17 := ra_101 (m := m) hV (k := l5.toNatClampNeg) (i_ix (n := 3100) (by omega) (by omega)).2 | have b30 := i_bd (m 101 l5.toNatClampNeg)
      have li31 : (16 : Int32).toInt = 16 := rfl
      refine zd (fun (h32 : (m 101 l5.toNatClampNeg) = (16 : Int32)) => ?_) (fun (h32 : ¬ (m 101 l5.toNatClampNeg) = (16 : Int32)) => ?_)
      · skip
        have g33 := i_eq h32
        have li34 : (60 : Int32).toInt = 60 := rfl
        first | have e35 : (l5 * (60 : Int32)).toInt = l5.toInt * 60 := i_mulk rfl (by omega) (by omega) | have b36 := i_bd (l5 * (60 : Int32))
        first | have e37 : ((l5 * (60 : Int32)) + l6).toInt = (l5 * (60 : Int32)).toInt + l6.toInt := i_add (by omega) (by omega) | have b38 := i_bd ((l5 * (60 : Int32)) + l6)
        have hg39 : (0 ≤ ((l5 * (60 : Int32)) + l6) ∧ ((l5 * (60 : Int32)) + l6).toNatClampNeg < 186000) := i_ix (by omega) (by omega)
        refine ⟨hg39, ?_⟩
        try have e21 : (l2 + (1 : Int32)).toInt = l2.toInt + 1 := i_addk rfl (by omega) (by omega)
        have hV40 : zV (ma_u m 108 ((l5 * (60 : Int32)) + l6).toNatClampNeg (-1 : Int32)) := ua_108 hV
        have b41 := i_bd l3
        have b42 := i_bd l4
        first | have e43 : (l6 + (1 : Int32)).toInt = l6.toInt + (1) := i_addk rfl (by omega) (by omega) | have b44 := i_bd (l6 + (1 : Int32))
        exact IH (61 - (l6 + (1 : Int32)).toInt).toNat (by omega) _ (l2) (l3) (l4) (l5) ((l6 + (1 : Int32))) rfl (zF_u hF rfl) hV40 (by omega) (by omega) (by omega) (by omega) (by omega) (by omega) (by omega) (by omega) (by omega) (by omega) (by omega) (show (m 94 10).toInt = 4 ∧ (m 94 58).toInt = 0 from by omega) (show (m 94 8).toInt = 1 from by omega) (show (m 94 46).toInt ≤ 511 from by omega) r_L2n r_L3r r_PLq (show (m 102 l5.toNatClampNeg).toInt = l2.toInt from by omega) r_USn r_GUp r_OW r_GG r_QIb (show qNs (m 99) (m 100) (m 98) (m 101) (m 102) (m 103) (m 107) ((ma_u m 108 ((l5 * (60 : Int32)) + l6).toNatClampNeg (-1 : Int32)) 108) (m 109) (m 111) (m 112) (m 113) (m 114) (m 94 55) (m 94 46) (m 94 11) (m 94 12) (m 94 62) (m 94 17) (m 94 9) (zRs aa (nn + (1 : Int32)).toInt) l5.toNatClampNeg (m 94 46) kk nn l4 from by first | (exact NS_h r_NS (fun _ _ => rfl) (fun _ _ => rfl) (fun t ht hne i hi => (zrf_oth (ix_word (by omega) (by omega) (by omega) (by omega)) (by rw [tn_eq]; omega) (fun t ht => (ra_102 hV ht).2)) t i hne ht hi)) | (exfalso; omega; done) | (exfalso; contradiction; done)) r_MGz r_MKb r_WTz r_BTS r_N6 r_VVb r_CTz (by omega) (by omega) (show zWn (m 94 7) (m 98) (m 101) (m 102) ((ma_u m 108 ((l5 * (60 : Int32)) + l6).toNatClampNeg (-1 : Int32)) 108) l5.toNatClampNeg (l6 + (1 : Int32)).toNatClampNeg from by first | (exact Wn_put r_WN (zrf_oth (ix_word (by omega) (by omega) (by omega) (by omega)) (by rw [tn_eq]; omega) (fun t ht => (ra_102 hV ht).2)) (zrf_bef (ix_word (by omega) (by omega) (by omega) (by omega))) (zrf_m1 (ix_word (by omega) (by omega) (by omega) (by omega)) rfl) (tn_succ (by omega) (by omega))) | (exact Wn_put r_WN (zrf_oth (ix_word (by omega) (by omega) (by omega) (by omega)) (by rw [tn_eq]; omega) (fun t ht => (ra_102 hV ht).2)) (zrf_bef (ix_word (by omega) (by omega) (by omega) (by omega))) (zrf_nr rfl (by omega) (by assumption) (fun z => by first | exact absurd (Int32.lt_iff_toInt_lt.mp z.1) (by omega) | exact absurd z.2 (by assumption))) (tn_succ (by omega) (by omega))) | (exfalso; omega; done) | (exfalso; contradiction; done)) r_GW r_COs r_CZs r_HOs r_WIs
      · skip
        have g45 := i_ne h32
        have hg46 : (0 ≤ l5 ∧ l5.toNatClampNeg < 3100) := i_ix (by omega) (by omega)
        refine ⟨hg46, ?_⟩
        refine zd (fun (h47 : (16 : Int32) ≤ (m 101 l5.toNatClampNeg)) => ?_) (fun (h47 : ¬ (16 : Int32) ≤ (m 101 l5.toNatClampNeg)) => ?_)
        · skip
          have g48 := i_le h47
          have li49 : (60 : Int32).toInt = 60 := rfl
          first | have e50 : (l5 * (60 : Int32)).toInt = l5.toInt * 60 := i_mulk rfl (by omega) (by omega) | have b51 := i_bd (l5 * (60 : Int32))
          first | have e52 : ((l5 * (60 : Int32)) + l6).toInt = (l5 * (60 : Int32)).toInt + l6.toInt := i_add (by omega) (by omega) | have b53 := i_bd ((l5 * (60 : Int32)) + l6)
          have hg54 : (0 ≤ ((l5 * (60 : Int32)) + l6) ∧ ((l5 * (60 : Int32)) + l6).toNatClampNeg < 186000) := i_ix (by omega) (by omega)
          refine ⟨hg54, ?_⟩
          try have e21 : (l2 + (1 : Int32)).toInt = l2.toInt + 1 := i_addk rfl (by omega) (by omega)
          have hV55 : zV (ma_u m 108 ((l5 * (60 : Int32)) + l6).toNatClampNeg (0 : Int32)) := ua_108 hV
          have b56 := i_bd l3
          have b57 := i_bd l4
          first | have e58 : (l6 + (1 : Int32)).toInt = l6.toInt + (1) := i_addk rfl (by omega) (by omega) | have b59 := i_bd (l6 + (1 : Int32))
          exact IH (61 - (l6 + (1 : Int32)).toInt).toNat (by omega) _ (l2) (l3) (l4) (l5) ((l6 + (1 : Int32))) rfl (zF_u hF rfl) hV55 (by omega) (by omega) (by omega) (by omega) (by omega) (by omega) (by omega) (by omega) (by omega) (by omega) (by omega) (show (m 94 10).toInt = 4 ∧ (m 94 58).toInt = 0 from by omega) (show (m 94 8).toInt = 1 from by omega) (show (m 94 46).toInt ≤ 511 from by omega) r_L2n r_L3r r_PLq (show (m 102 l5.toNatClampNeg).toInt = l2.toInt from by omega) r_USn r_GUp r_OW r_GG r_QIb (show qNs (m 99) (m 100) (m 98) (m 101) (m 102) (m 103) (m 107) ((ma_u m 108 ((l5 * (60 : Int32)) + l6).toNatClampNeg (0 : Int32)) 108) (m 109) (m 111) (m 112) (m 113) (m 114) (m 94 55) (m 94 46) (m 94 11) (m 94 12) (m 94 62) (m 94 17) (m 94 9) (zRs aa (nn + (1 : Int32)).toInt) l5.toNatClampNeg (m 94 46) kk nn l4 from by first | (exact NS_h r_NS (fun _ _ => rfl) (fun _ _ => rfl) (fun t ht hne i hi => (zrf_oth (ix_word (by omega) (by omega) (by omega) (by omega)) (by rw [tn_eq]; omega) (fun t ht => (ra_102 hV ht).2)) t i hne ht hi)) | (exfalso; omega; done) | (exfalso; contradiction; done)) r_MGz r_MKb r_WTz r_BTS r_N6 r_VVb r_CTz (by omega) (by omega) (show zWn (m 94 7) (m 98) (m 101) (m 102) ((ma_u m 108 ((l5 * (60 : Int32)) + l6).toNatClampNeg (0 : Int32)) 108) l5.toNatClampNeg (l6 + (1 : Int32)).toNatClampNeg from by first | (exact Wn_put r_WN (zrf_oth (ix_word (by omega) (by omega) (by omega) (by omega)) (by rw [tn_eq]; omega) (fun t ht => (ra_102 hV ht).2)) (zrf_bef (ix_word (by omega) (by omega) (by omega) (by omega))) (zrf_m1 (ix_word (by omega) (by omega) (by omega) (by omega)) rfl) (tn_succ (by omega) (by omega))) | (exact Wn_put r_WN (zrf_oth (ix_word (by omega) (by omega) (by omega) (by omega)) (by rw [tn_eq]; omega) (fun t ht => (ra_102 hV ht).2)) (zrf_bef (ix_word (by omega) (by omega) (by omega) (by omega))) (zrf_nr rfl (by omega) (by assumption) (fun z => by first | exact absurd (Int32.lt_iff_toInt_lt.mp z.1) (by omega) | exact absurd z.2 (by assumption))) (tn_succ (by omega) (by omega))) | (exfalso; omega; done) | (exfalso; contradiction; done)) r_GW r_COs r_CZs r_HOs r_WIs
        · skip
          have g60 := i_nle h47
          have hg61 : (0 ≤ l5 ∧ l5.toNatClampNeg < 3100) := i_ix (by omega) (by omega)
          refine ⟨hg61, ?_⟩
          have hg62 : (0 ≤ (m 101 l5.toNatClampNeg) ∧ (m 101 l5.toNatClampNeg).toNatClampNeg < 16) := i_ix (by omega) (by omega)
          refine ⟨hg62, ?_⟩
          have b63 := i_bd (((m 98 (m 101 l5.toNatClampNeg).toNatClampNeg) >>> (l6 &&& 31)) &&& (1 : Int32))
          have li64 : (1 : Int32).toInt = 1 := rfl
          refine zd (fun (h65 : (((m 98 (m 101 l5.toNatClampNeg).toNatClampNeg) >>> (l6 &&& 31)) &&& (1 : Int32)) = (1 : Int32)) => ?_) (fun (h65 : ¬ (((m 98 (m 101 l5.toNatClampNeg).toNatClampNeg) >>> (l6 &&& 31)) &&& (1 : Int32)) = (1 : Int32)) => ?_)
          · skip
            have g66 := i_eq h65
            have li67 : (60 : Int32).toInt = 60 := rfl
            first | have e68 : (l5 * (60 : Int32)).toInt = l5.toInt * 60 := i_mulk rfl (by omega) (by omega) | have b69 := i_bd (l5 * (60 : Int32))
            first | have e70 : ((l5 * (60 : Int32)) + l6).toInt = (l5 * (60 : Int32)).toInt + l6.toInt := i_add (by omega) (by omega) | have b71 := i_bd ((l5 * (60 : Int32)) + l6)
            have hg72 : (0 ≤ ((l5 * (60 : Int32)) + l6) ∧ ((l5 * (60 : Int32)) + l6).toNatClampNeg < 186000) := i_ix (by omega) (by omega)
            refine ⟨hg72, ?_⟩
            try have e21 : (l2 + (1 : Int32)).toInt = l2.toInt + 1 := i_addk rfl (by omega) (by omega)
            have hV73 : zV (ma_u m 108 ((l5 * (60 : Int32)) + l6).toNatClampNeg (-1 : Int32)) := ua_108 hV
            have b74 := i_bd l3
            have b75 := i_bd l4
            first | have e76 : (l6 + (1 : Int32)).toInt = l6.toInt + (1) := i_addk rfl (by omega) (by omega) | have b77 := i_bd (l6 + (1 : Int32))
            exact IH (61 - (l6 + (1 : Int32)).toInt).toNat (by omega) _ (l2) (l3) (l4) (l5) ((l6 + (1 : Int32))) rfl (zF_u hF rfl) hV73 (by omega) (by omega) (by omega) (by omega) (by omega) (by omega) (by omega) (by omega) (by omega) (by omega) (by omega) (show (m 94 10).toInt = 4 ∧ (m 94 58).toInt = 0 from by omega) (show (m 94 8).toInt = 1 from by omega) (show (m 94 46).toInt ≤ 511 from by omega) r_L2n r_L3r r_PLq (show (m 102 l5.toNatClampNeg).toInt = l2.toInt from by omega) r_USn r_GUp r_OW r_GG r_QIb (show qNs (m 99) (m 100) (m 98) (m 101) (m 102) (m 103) (m 107) ((ma_u m 108 ((l5 * (60 : Int32)) + l6).toNatClampNeg (-1 : Int32)) 108) (m 109) (m 111) (m 112) (m 113) (m 114) (m 94 55) (m 94 46) (m 94 11) (m 94 12) (m 94 62) (m 94 17) (m 94 9) (zRs aa (nn + (1 : Int32)).toInt) l5.toNatClampNeg (m 94 46) kk nn l4 from by first | (exact NS_h r_NS (fun _ _ => rfl) (fun _ _ => rfl) (fun t ht hne i hi => (zrf_oth (ix_word (by omega) (by omega) (by omega) (by omega)) (by rw [tn_eq]; omega) (fun t ht => (ra_102 hV ht).2)) t i hne ht hi)) | (exfalso; omega; done) | (exfalso; contradiction; done)) r_MGz r_MKb r_WTz r_BTS r_N6 r_VVb r_CTz (by omega) (by omega) (show zWn (m 94 7) (m 98) (m 101) (m 102) ((ma_u m 108 ((l5 * (60 : Int32)) + l6).toNatClampNeg (-1 : Int32)) 108) l5.toNatClampNeg (l6 + (1 : Int32)).toNatClampNeg from by first | (exact Wn_put r_WN (zrf_oth (ix_word (by omega) (by omega) (by omega) (by omega)) (by rw [tn_eq]; omega) (fun t ht => (ra_102 hV ht).2)) (zrf_bef (ix_word (by omega) (by omega) (by omega) (by omega))) (zrf_m1 (ix_word (by omega) (by omega) (by omega) (by omega)) rfl) (tn_succ (by omega) (by omega))) | (exact Wn_put r_WN (zrf_oth (ix_word (by omega) (by omega) (by omega) (by omega)) (by rw [tn_eq]; omega) (fun t ht => (ra_102 hV ht).2)) (zrf_bef (ix_word (by omega) (by omega) (by omega) (by omega))) (zrf_nr rfl (by omega) (by assumption) (fun z => by first | exact absurd (Int32.lt_iff_toInt_lt.mp z.1) (by omega) | exact absurd z.2 (by assumption))) (tn_succ (by omega) (by omega))) | (exfalso; omega; done) | (exfalso; contradiction; done)) r_GW r_COs r_CZs r_HOs r_WIs
          · skip
            have g78 := i_ne h65
            have li79 : (60 : Int32).toInt = 60 := rfl
            first | have e80 : (l5 * (60 : Int32)).toInt = l5.toInt * 60 := i_mulk rfl (by omega) (by omega) | have b81 := i_bd (l5 * (60 : Int32))
            first | have e82 : ((l5 * (60 : Int32)) + l6).toInt = (l5 * (60 : Int32)).toInt + l6.toInt := i_add (by omega) (by omega) | have b83 := i_bd ((l5 * (60 : Int32)) + l6)
            have hg84 : (0 ≤ ((l5 * (60 : Int32)) + l6) ∧ ((l5 * (60 : Int32)) + l6).toNatClampNeg < 186000) := i_ix (by omega) (by omega)
            refine ⟨hg84, ?_⟩
            try have e21 : (l2 + (1 : Int32)).toInt = l2.toInt + 1 := i_addk rfl (by omega) (by omega)
            have hV85 : zV (ma_u m 108 ((l5 * (60 : Int32)) + l6).toNatClampNeg (0 : Int32)) := ua_108 hV
            have b86 := i_bd l3
            have b87 := i_bd l4
            first | have e88 : (l6 + (1 : Int32)).toInt = l6.toInt + (1) := i_addk rfl (by omega) (by omega) | have b89 := i_bd (l6 + (1 : Int32))
            exact IH (61 - (l6 + (1 : Int32)).toInt).toNat (by omega) _ (l2) (l3) (l4) (l5) ((l6 + (1 : Int32))) rfl (zF_u hF rfl) hV85 (by omega) (by omega) (by omega) (by omega) (by omega) (by omega) (by omega) (by omega) (by omega) (by omega) (by omega) (show (m 94 10).toInt = 4 ∧ (m 94 58).toInt = 0 from by omega) (show (m 94 8).toInt = 1 from by omega) (show (m 94 46).toInt ≤ 511 from by omega) r_L2n r_L3r r_PLq (show (m 102 l5.toNatClampNeg).toInt = l2.toInt from by omega) r_USn r_GUp r_OW r_GG r_QIb (show qNs (m 99) (m 100) (m 98) (m 101) (m 102) (m 103) (m 107) ((ma_u m 108 ((l5 * (60 : Int32)) + l6).toNatClampNeg (0 : Int32)) 108) (m 109) (m 111) (m 112) (m 113) (m 114) (m 94 55) (m 94 46) (m 94 11) (m 94 12) (m 94 62) (m 94 17) (m 94 9) (zRs aa (nn + (1 : Int32)).toInt) l5.toNatClampNeg (m 94 46) kk nn l4 from by first | (exact NS_h r_NS (fun _ _ => rfl) (fun _ _ => rfl) (fun t ht hne i hi => (zrf_oth (ix_word (by omega) (by omega) (by omega) (by omega)) (by rw [tn_eq]; omega) (fun t ht => (ra_102 hV ht).2)) t i hne ht hi)) | (exfalso; omega; done) | (exfalso; contradiction; done)) r_MGz r_MKb r_WTz r_BTS r_N6 r_VVb r_CTz (by omega) (by omega) (show zWn (m 94 7) (m 98) (m 101) (m 102) ((ma_u m 108 ((l5 * (60 : Int32)) + l6).toNatClampNeg (0 : Int32)) 108) l5.toNatClampNeg (l6 + (1 : Int32)).toNatClampNeg from by first | (exact Wn_put r_WN (zrf_oth (ix_word (by omega) (by omega) (by omega) (by omega)) (by rw [tn_eq]; omega) (fun t ht => (ra_102 hV ht).2)) (zrf_bef (ix_word (by omega) (by omega) (by omega) (by omega))) (zrf_m1 (ix_word (by omega) (by omega) (by omega) (by omega)) rfl) (tn_succ (by omega) (by omega))) | (exact Wn_put r_WN (zrf_oth (ix_word (by omega) (by omega) (by omega) (by omega)) (by rw [tn_eq]; omega) (fun t ht => (ra_102 hV ht).2)) (zrf_bef (ix_word (by omega) (by omega) (by omega) (by omega))) (zrf_nr rfl (by omega) (by assumption) (fun z => by first | exact absurd (Int32.lt_iff_toInt_lt.mp z.1) (by omega) | exact absurd z.2 (by assumption))) (tn_succ (by omega) (by omega))) | (exfalso; omega; done) | (exfalso; contradiction; done)) r_GW r_COs r_CZs r_HOs r_WIs
set_option maxHeartbeats 8000000 in
theorem lp_183r4_123 {X : Nat × (Nat → Int32)} {P : Option ma_V → (Nat → Nat → Int32) → Prop} {T : Nat} {aa : Nat→Nat→Int32} {B : Int} {LL : Int64} {kk : Int32} {nn : Int32} {r1 : Int32} {m0 : Nat → Nat → Int32} (h0 : zV m0) (K : ∀ v m₉, zF wr_183 m0 m₉ → zV m₉ → (zW (m₉ 94 7) (m₉ 98) (m₉ 101) (m₉ 102) (m₉ 108)) → (zGW (T + 1) (m₉ 94 55) (m₉ 109)) → (zGU (T + 1) (m₉ 94 46) (m₉ 99)) → (zOw (m₉ 99) (m₉ 103) (m₉ 111)) → (zGG (m₉ 94 58) (m₉ 94 56) (m₉ 94 57) (m₉ 106)) → (qRB (m₉ 99) (m₉ 100) (m₉ 98) (m₉ 101) (m₉ 102) (m₉ 103) (m₉ 107) (m₉ 108) (m₉ 109) (m₉ 111) (m₉ 112) (m₉ 113) (m₉ 114) (m₉ 94 55) (m₉ 94 46) (m₉ 94 11) (m₉ 94 12) (m₉ 94 62) (m₉ 94 17) (m₉ 94 9) (kMk aa kk nn LL r1)) → (qI (kMk aa kk nn LL r1)) → ((kMk aa kk nn LL r1) 87 8 = (m₉ 94 58)) → (cV (kMk aa kk nn LL r1) [] B) → (qCt (m₉ 105) (m₉ 99) (m₉ 100) (kMk aa kk nn LL r1) [] (-1) (-1)) → ((m₉ 94 45).toInt = sm (zbU (m₉ 99)) (m₉ 102) 3100) → ((m₉ 94 58).toInt = 0) → (v = sMn aa nn) → P (some (.inl v)) m₉) : ∀ (n : Nat) (m : Nat → Nat → Int32) (l2 : Int32) (l3 : Int32) (l4 : Int32) (l5 : Int32), ((0 : Int)).toNat = n → zF wr_183 m0 m → zV m → (l2.toInt = nn.toInt) → (0 ≤ l2.toInt) → (l2.toInt ≤ 60) → (0 ≤ l3.toInt) → (l3.toInt ≤ 15) → (0 ≤ l4.toInt) → (l4.toInt ≤ 1500) → (0 ≤ l5.toInt) → (l5.toInt ≤ 3099) → (T + 1 ≤ 512) → ((m 94 10).toInt = 4 ∧ (m 94 58).toInt = 0) → ((m 94 8).toInt = 1) → ((m 94 46).toInt ≤ 511) → (l2 = nn) → (l3 = r1) → (qEq l4.toInt (zRp aa (nn + (1 : Int32)).toInt)) → ((m 102 l5.toNatClampNeg).toInt = l2.toInt) → ((m 99) l5.toNatClampNeg ≠ 0) → (zGUp T (m 94 46) (m 99)) → (zOw (m 99) (m 103) (m 111)) → (zGG (m 94 58) (m 94 56) (m 94 57) (m 106)) → (qI (zRs aa (nn + (1 : Int32)).toInt)) → (qNs (m 99) (m 100) (m 98) (m 101) (m 102) (m 103) (m 107) (m 108) (m 109) (m 111) (m 112) (m 113) (m 114) (m 94 55) (m 94 46) (m 94 11) (m 94 12) (m 94 62) (m 94 17) (m 94 9) (zRs aa (nn + (1 : Int32)).toInt) l5.toNatClampNeg (m 94 46) kk nn l4) → (qMG (m 94 58) (m 106) (m 115) (m 94 57) (m 94 56) (zmk (m 99) l5.toNatClampNeg) (m 100) (zRs aa (nn + (1 : Int32)).toInt)) → ((zRs aa (nn + (1 : Int32)).toInt) 87 8 = (m 94 58)) → ((m 94 45).toInt = sm (zbU (zmk (m 99) l5.toNatClampNeg)) (m 102) 3100) → (∀ j : Nat, (j : Int) < nn.toInt → (zbit LL (Int32.ofNat j) ≠ 0 ↔ (kk = 16 ∨ (kk < 16 ∧ (((m 98) kk.toNatClampNeg >>> (Int32.ofNat j &&& 31)) &&& 1) = 1)))) → ((aa 69 6).toInt < 512) → (cV (zRs aa (nn + (1 : Int32)).toInt) [] B) → (qCt (m 105) (zmk (m 99) l5.toNatClampNeg) (m 100) (zRs aa (nn + (1 : Int32)).toInt) [] (-1) (-1)) → (0 ≤ B) → (B ≤ 1000000) → (zWn (m 94 7) (m 98) (m 101) (m 102) (m 108) l5.toNatClampNeg (0 : Int32).toNatClampNeg) → (zGW T (m 94 55) (m 109)) → (qCo (m 94 58) (m 106) l5.toNatClampNeg) → ((m 105) l5.toNatClampNeg = 0) → zm X 9 198 183 123 [(0, .inr (.inr (some 94))), (2, .inl l2), (3, .inl l3), (4, .inl l4), (5, .inl l5)] m P := by
  intro n
  induction n using Nat.strongRecOn with
  | _ n IH =>
    intro m l2 l3 l4 l5 hmu hF hV hi0 hi1 hi2 hi3 hi4 hi5 hi6 hi7 hi8 hi9 hi10 hi11 hi12 r_L2n r_L3r r_PLq hi16 r_USn r_GUp r_OW r_GG r_QIb r_NS r_MGz r_MKb r_WTz r_BTS r_N6 r_VVb r_CTz hi30 hi31 r_WN r_GW r_COs r_CZs
    refine g_183_123 l2 l3 l4 l5 ?_
    have f1 : 0 ≤ (m 94 10).toInt ∧ (m 94 10).toInt ≤ 6 := rs_94_10 (m := m) hV
    have f2 : 0 ≤ (m 94 58).toInt ∧ (m 94 58).toInt ≤ 1 := rs_94_58 (m := m) hV
    have f3 : 0 ≤ (m 94 8).toInt ∧ (m 94 8).toInt ≤ 1 := rs_94_8 (m := m) hV
    have f4 : 0 ≤ (m 94 46).toInt ∧ (m 94 46).toInt ≤ 100000 := rs_94_46 (m := m) hV
    have b5 := i_bd l5
    first | have f6 : 0 ≤ (m 102 l5.toNatClampNeg).toInt ∧ (m 102 l5.toNatClampNeg).toInt ≤ 60 := ra_102 (m := m) hV (k := l5.toNatClampNeg) (i_ix (n := 3100) (by omega) (by omega)).2 | have b7 := i_bd (m 102 l5.toNatClampNeg)
    have hg8 : (0 ≤ l5 ∧ l5.toNatClampNeg < 3100) := i_ix (by omega) (by omega)
    refine ⟨hg8, ?_⟩
    have hg9 : (0 ≤ l5 ∧ l5.toNatClampNeg < 3100) := i_ix (by omega) (by omega)
    refine ⟨hg9, ?_⟩
    try have e21 : (l2 + (1 : Int32)).toInt = l2.toInt + 1 := i_addk rfl (by omega) (by omega)
    have hV10 : zV (ma_u m 107 l5.toNatClampNeg (0 : Int32)) := ua_107 hV
    have li12 : (0 : Int32).toInt = 0 := rfl
    have hV11 : zV (ma_u (ma_u m 107 l5.toNatClampNeg (0 : Int32)) 109 l5.toNatClampNeg (0 : Int32)) := ua_109 hV10 (by omega) (by omega)
    have b13 := i_bd l2
    have b14 := i_bd l3
    have b15 := i_bd l4
    exact lp_183r4_142 (kk := kk) (nn := nn) (r1 := r1) h0 K _ _ (l2) (l3) (l4) (l5) ((0 : Int32)) rfl (zF_u (zF_u hF rfl) rfl) hV11 (by omega) (by omega) (by omega) (by omega) (by omega) (by omega) (by omega) (by omega) (by omega) (by omega) (by omega) (show (m 94 10).toInt = 4 ∧ (m 94 58).toInt = 0 from by omega) (show (m 94 8).toInt = 1 from by omega) (show (m 94 46).toInt ≤ 511 from by omega) r_L2n r_L3r r_PLq (show (m 102 l5.toNatClampNeg).toInt = l2.toInt from by omega) r_USn r_GUp r_OW r_GG r_QIb (show qNs (m 99) (m 100) (m 98) (m 101) (m 102) (m 103) ((ma_u m 107 l5.toNatClampNeg (0 : Int32)) 107) (m 108) ((ma_u m 109 l5.toNatClampNeg (0 : Int32)) 109) (m 111) (m 112) (m 113) (m 114) (m 94 55) (m 94 46) (m 94 11) (m 94 12) (m 94 62) (m 94 17) (m 94 9) (zRs aa (nn + (1 : Int32)).toInt) l5.toNatClampNeg (m 94 46) kk nn l4 from by first | (exact NS_h r_NS (fun t ht => mu_ne ht) (fun t ht => mu_ne ht) (fun _ _ _ _ _ => rfl)) | (exfalso; omega; done) | (exfalso; contradiction; done)) r_MGz r_MKb r_WTz r_BTS r_N6 r_VVb r_CTz (by omega) (by omega) r_WN (show zGW (T + 1) (m 94 55) ((ma_u m 109 l5.toNatClampNeg (0 : Int32)) 109) from by first | (exact GW_up (GW_0 r_GW) (by omega)) | (exfalso; omega; done) | (exfalso; contradiction; done)) r_COs r_CZs (show ((ma_u m 107 l5.toNatClampNeg (0 : Int32)) 107) l5.toNatClampNeg = 0 from by first | (exact mu_self) | (exfalso; omega; done) | (exfalso; contradiction; done)) (show ((ma_u m 109 l5.toNatClampNeg (0 : Int32)) 109) l5.toNatClampNeg = 0 from by first | (exact mu_self) | (exfalso; omega; done) | (exfalso; contradiction; done))
set_option maxHeartbeats 8000000 in
theorem lp_183r4_88 {X : Nat × (Nat → Int32)} {P : Option ma_V → (Nat → Nat → Int32) → Prop} {T : Nat} {aa : Nat→Nat→Int32} {B : Int} {LL : Int64} {kk : Int32} {nn : Int32} {r1 : Int32} {m0 : Nat → Nat → Int32} (h0 : zV m0) (K : ∀ v m₉, zF wr_183 m0 m₉ → zV m₉ → (zW (m₉ 94 7) (m₉ 98) (m₉ 101) (m₉ 102) (m₉ 108)) → (zGW (T + 1) (m₉ 94 55) (m₉ 109)) → (zGU (T + 1) (m₉ 94 46) (m₉ 99)) → (zOw (m₉ 99) (m₉ 103) (m₉ 111)) → (zGG (m₉ 94 58) (m₉ 94 56) (m₉ 94 57) (m₉ 106)) → (qRB (m₉ 99) (m₉ 100) (m₉ 98) (m₉ 101) (m₉ 102) (m₉ 103) (m₉ 107) (m₉ 108) (m₉ 109) (m₉ 111) (m₉ 112) (m₉ 113) (m₉ 114) (m₉ 94 55) (m₉ 94 46) (m₉ 94 11) (m₉ 94 12) (m₉ 94 62) (m₉ 94 17) (m₉ 94 9) (kMk aa kk nn LL r1)) → (qI (kMk aa kk nn LL r1)) → ((kMk aa kk nn LL r1) 87 8 = (m₉ 94 58)) → (cV (kMk aa kk nn LL r1) [] B) → (qCt (m₉ 105) (m₉ 99) (m₉ 100) (kMk aa kk nn LL r1) [] (-1) (-1)) → ((m₉ 94 45).toInt = sm (zbU (m₉ 99)) (m₉ 102) 3100) → ((m₉ 94 58).toInt = 0) → (v = sMn aa nn) → P (some (.inl v)) m₉) : ∀ (n : Nat) (m : Nat → Nat → Int32) (l2 : Int32) (l3 : Int32) (l4 : Int32) (l5 : Int32), ((0 : Int)).toNat = n → zF wr_183 m0 m → zV m → (l2.toInt = nn.toInt) → (0 ≤ l2.toInt) → (l2.toInt ≤ 60) → (0 ≤ l3.toInt) → (l3.toInt ≤ 15) → (0 ≤ l4.toInt) → (l4.toInt ≤ 1500) → (0 ≤ l5.toInt) → (l5.toInt ≤ 3099) → (T + 1 ≤ 512) → ((m 94 10).toInt = 4 ∧ (m 94 58).toInt = 0) → ((m 94 8).toInt = 1) → ((m 94 46).toInt ≤ 511) → (l2 = nn) → (l3 = r1) → (qEq l4.toInt (zRp aa (nn + (1 : Int32)).toInt)) → ((m 102 l5.toNatClampNeg).toInt = l2.toInt) → ((m 99) l5.toNatClampNeg ≠ 0) → (zGUp T (m 94 46) (m 99)) → (zOw (m 99) (m 103) (m 111)) → (zGG (m 94 58) (m 94 56) (m 94 57) (m 106)) → (qI (zRs aa (nn + (1 : Int32)).toInt)) → (qNs (m 99) (m 100) (m 98) (m 101) (m 102) (m 103) (m 107) (m 108) (m 109) (m 111) (m 112) (m 113) (m 114) (m 94 55) (m 94 46) (m 94 11) (m 94 12) (m 94 62) (m 94 17) (m 94 9) (zRs aa (nn + (1 : Int32)).toInt) l5.toNatClampNeg (m 94 46) kk nn l4) → (qMG (m 94 58) (m 106) (m 115) (m 94 57) (m 94 56) (zmk (m 99) l5.toNatClampNeg) (m 100) (zRs aa (nn + (1 : Int32)).toInt)) → ((zRs aa (nn + (1 : Int32)).toInt) 87 8 = (m 94 58)) → ((m 94 45).toInt = sm (zbU (zmk (m 99) l5.toNatClampNeg)) (m 102) 3100) → (∀ j : Nat, (j : Int) < nn.toInt → (zbit LL (Int32.ofNat j) ≠ 0 ↔ (kk = 16 ∨ (kk < 16 ∧ (((m 98) kk.toNatClampNeg >>> (Int32.ofNat j &&& 31)) &&& 1) = 1)))) → ((aa 69 6).toInt < 512) → (cV (zRs aa (nn + (1 : Int32)).toInt) [] B) → (qCt (m 105) (zmk (m 99) l5.toNatClampNeg) (m 100) (zRs aa (nn + (1 : Int32)).toInt) [] (-1) (-1)) → (0 ≤ B) → (B ≤ 1000000) → (zWn (m 94 7) (m 98) (m 101) (m 102) (m 108) l5.toNatClampNeg (0 : Int32).toNatClampNeg) → (zGW T (m 94 55) (m 109)) → zm X 9 198 183 88 [(0, .inr (.inr (some 94))), (2, .inl l2), (3, .inl l3), (4, .inl l4), (5, .inl l5)] m P := by
  intro n
  induction n using Nat.strongRecOn with
  | _ n IH =>
    intro m l2 l3 l4 l5 hmu hF hV hi0 hi1 hi2 hi3 hi4 hi5 hi6 hi7 hi8 hi9 hi10 hi11 hi12 r_L2n r_L3r r_PLq hi16 r_USn r_GUp r_OW r_GG r_QIb r_NS r_MGz r_MKb r_WTz r_BTS r_N6 r_VVb r_CTz hi30 hi31 r_WN r_GW
    refine g_183_88 l2 l3 l4 l5 ?_
    have f1 : 0 ≤ (m 94 10).toInt ∧ (m 94 10).toInt ≤ 6 := rs_94_10 (m := m) hV
    have f2 : 0 ≤ (m 94 58).toInt ∧ (m 94 58).toInt ≤ 1 := rs_94_58 (m := m) hV
    have f3 : 0 ≤ (m 94 8).toInt ∧ (m 94 8).toInt ≤ 1 := rs_94_8 (m := m) hV
    have f4 : 0 ≤ (m 94 46).toInt ∧ (m 94 46).toInt ≤ 100000 := rs_94_46 (m := m) hV
    have b5 := i_bd l5
    first | have f6 : 0 ≤ (m 102 l5.toNatClampNeg).toInt ∧ (m 102 l5.toNatClampNeg).toInt ≤ 60 := ra_102 (m := m) hV (k := l5.toNatClampNeg) (i_ix (n := 3100) (by omega) (by omega)).2 | have b7 := i_bd (m 102 l5.toNatClampNeg)
    have hg8 : (0 ≤ l5 ∧ l5.toNatClampNeg < 3100) := i_ix (by omega) (by omega)
    refine ⟨hg8, ?_⟩
    have hg9 : (0 ≤ l5 ∧ l5.toNatClampNeg < 3100) := i_ix (by omega) (by omega)
    refine ⟨hg9, ?_⟩
    have li10 : (0 : Int32).toInt = 0 := rfl
    refine zd (fun (h11 : (m 94 58) = (0 : Int32)) => ?_) (fun (h11 : ¬ (m 94 58) = (0 : Int32)) => ?_)
    · skip
      have g12 := i_eq h11
      have hg13 : (0 ≤ l5 ∧ l5.toNatClampNeg < 3100) := i_ix (by omega) (by omega)
      refine ⟨hg13, ?_⟩
      try have e21 : (l2 + (1 : Int32)).toInt = l2.toInt + 1 := i_addk rfl (by omega) (by omega)
      have hV14 : zV (ma_u m 104 l5.toNatClampNeg (0 : Int32)) := ua_104 hV
      have hV15 : zV (ma_u (ma_u m 104 l5.toNatClampNeg (0 : Int32)) 105 l5.toNatClampNeg (0 : Int32)) := ua_105 hV14
      have hV16 : zV (ma_u (ma_u (ma_u m 104 l5.toNatClampNeg (0 : Int32)) 105 l5.toNatClampNeg (0 : Int32)) 106 l5.toNatClampNeg (0 : Int32)) := ua_106 hV15
      have b17 := i_bd l2
      have b18 := i_bd l3
      have b19 := i_bd l4
      exact lp_183r4_123 (kk := kk) (nn := nn) (r1 := r1) h0 K _ _ (l2) (l3) (l4) (l5) rfl (zF_u (zF_u (zF_u hF rfl) rfl) rfl) hV16 (by omega) (by omega) (by omega) (by omega) (by omega) (by omega) (by omega) (by omega) (by omega) (by omega) (show (m 94 10).toInt = 4 ∧ (m 94 58).toInt = 0 from by omega) (show (m 94 8).toInt = 1 from by omega) (show (m 94 46).toInt ≤ 511 from by omega) r_L2n r_L3r r_PLq (show (m 102 l5.toNatClampNeg).toInt = l2.toInt from by omega) r_USn r_GUp r_OW (show zGG (m 94 58) (m 94 56) (m 94 57) ((ma_u m 106 l5.toNatClampNeg (0 : Int32)) 106) from by first | (exact fun z => absurd z (by omega)) | (exact fun z => absurd z (by decide)) | (exact fun z => absurd z (by omega)) | (exfalso; omega; done) | (exfalso; contradiction; done)) r_QIb r_NS (show qMG (m 94 58) ((ma_u m 106 l5.toNatClampNeg (0 : Int32)) 106) (m 115) (m 94 57) (m 94 56) (zmk (m 99) l5.toNatClampNeg) (m 100) (zRs aa (nn + (1 : Int32)).toInt) from by first | (exact fun z => absurd (by omega) z) | (exfalso; omega; done) | (exfalso; contradiction; done)) r_MKb r_WTz r_BTS r_N6 r_VVb (show qCt ((ma_u m 105 l5.toNatClampNeg (0 : Int32)) 105) (zmk (m 99) l5.toNatClampNeg) (m 100) (zRs aa (nn + (1 : Int32)).toInt) [] (-1) (-1) from by first | (exact Ct_z0 r_CTz (fun t ht => mu_ne ht) (fun _ _ => rfl) (fun t ht => (if_neg ht).symm)) | (exfalso; omega; done) | (exfalso; contradiction; done)) (by omega) (by omega) r_WN r_GW (show qCo (m 94 58) ((ma_u m 106 l5.toNatClampNeg (0 : Int32)) 106) l5.toNatClampNeg from by first | (exact fun z => absurd (by omega) z) | (exact fun _ => mu_self) | (exfalso; omega; done) | (exfalso; contradiction; done)) (show ((ma_u m 105 l5.toNatClampNeg (0 : Int32)) 105) l5.toNatClampNeg = 0 from by first | (exact mu_self) | (exfalso; omega; done) | (exfalso; contradiction; done))
    · skip
      have g20 := i_ne h11
      exfalso; omega
set_option maxHeartbeats 8000000 in
theorem lp_183r4_19 {X : Nat × (Nat → Int32)} {P : Option ma_V → (Nat → Nat → Int32) → Prop} {T : Nat} {aa : Nat→Nat→Int32} {B : Int} {LL : Int64} {kk : Int32} {nn : Int32} {r1 : Int32} {m0 : Nat → Nat → Int32} (h0 : zV m0) (K : ∀ v m₉, zF wr_183 m0 m₉ → zV m₉ → (zW (m₉ 94 7) (m₉ 98) (m₉ 101) (m₉ 102) (m₉ 108)) → (zGW (T + 1) (m₉ 94 55) (m₉ 109)) → (zGU (T + 1) (m₉ 94 46) (m₉ 99)) → (zOw (m₉ 99) (m₉ 103) (m₉ 111)) → (zGG (m₉ 94 58) (m₉ 94 56) (m₉ 94 57) (m₉ 106)) → (qRB (m₉ 99) (m₉ 100) (m₉ 98) (m₉ 101) (m₉ 102) (m₉ 103) (m₉ 107) (m₉ 108) (m₉ 109) (m₉ 111) (m₉ 112) (m₉ 113) (m₉ 114) (m₉ 94 55) (m₉ 94 46) (m₉ 94 11) (m₉ 94 12) (m₉ 94 62) (m₉ 94 17) (m₉ 94 9) (kMk aa kk nn LL r1)) → (qI (kMk aa kk nn LL r1)) → ((kMk aa kk nn LL r1) 87 8 = (m₉ 94 58)) → (cV (kMk aa kk nn LL r1) [] B) → (qCt (m₉ 105) (m₉ 99) (m₉ 100) (kMk aa kk nn LL r1) [] (-1) (-1)) → ((m₉ 94 45).toInt = sm (zbU (m₉ 99)) (m₉ 102) 3100) → ((m₉ 94 58).toInt = 0) → (v = sMn aa nn) → P (some (.inl v)) m₉) : ∀ (n : Nat) (m : Nat → Nat → Int32) (l1 : Int32) (l2 : Int32) (l3 : Int32) (l4 : Int32) (l5 : Int32), (3100 - l5.toInt).toNat = n → zF wr_183 m0 m → zV m → (l2.toInt = nn.toInt) → (0 ≤ l5.toInt) → (l5.toInt ≤ 3100) → (0 ≤ l4.toInt) → (l4.toInt ≤ 1500) → (0 ≤ l2.toInt) → (l2.toInt ≤ 60) → (0 ≤ l3.toInt) → (l3.toInt ≤ 15) → (0 ≤ l1.toInt) → (l1.toInt ≤ 17) → (T + 1 ≤ 512) → (16 ≤ l1.toInt ∨ l1.toInt < (m 94 7).toInt) → (zW (m 94 7) (m 98) (m 101) (m 102) (m 108)) → (zGW T (m 94 55) (m 109)) → (zGU T (m 94 46) (m 99)) → (zOw (m 99) (m 103) (m 111)) → (zGG (m 94 58) (m 94 56) (m 94 57) (m 106)) → ((m 94 10).toInt = 4 ∧ (m 94 58).toInt = 0) → ((m 94 8).toInt = 1) → (qRB (m 99) (m 100) (m 98) (m 101) (m 102) (m 103) (m 107) (m 108) (m 109) (m 111) (m 112) (m 113) (m 114) (m 94 55) (m 94 46) (m 94 11) (m 94 12) (m 94 62) (m 94 17) (m 94 9) (zRs aa (nn + (1 : Int32)).toInt)) → (qI (zRs aa (nn + (1 : Int32)).toInt)) → (qMG (m 94 58) (m 106) (m 115) (m 94 57) (m 94 56) (m 99) (m 100) (zRs aa (nn + (1 : Int32)).toInt)) → ((zRs aa (nn + (1 : Int32)).toInt) 87 8 = (m 94 58)) → ((m 94 45).toInt = sm (zbU (m 99)) (m 102) 3100) → (cV (zRs aa (nn + (1 : Int32)).toInt) [] B) → (qCt (m 105) (m 99) (m 100) (zRs aa (nn + (1 : Int32)).toInt) [] (-1) (-1)) → (0 ≤ B) → (B ≤ 1000000) → (∀ j : Nat, (j : Int) < l5.toInt → (m 99) j ≠ 0) → (l1 = kk) → (l2 = nn) → (l3 = r1) → (qEq l4.toInt (zRp aa (nn + (1 : Int32)).toInt)) → (∀ j : Nat, (j : Int) < nn.toInt → (zbit LL (Int32.ofNat j) ≠ 0 ↔ (kk = 16 ∨ (kk < 16 ∧ (((m 98) kk.toNatClampNeg >>> (Int32.ofNat j &&& 31)) &&& 1) = 1)))) → ((aa 69 6).toInt < 512) → zm X 9 198 183 19 [(0, .inr (.inr (some 94))), (1, .inl l1), (2, .inl l2), (3, .inl l3), (4, .inl l4), (5, .inl l5)] m P := by
  intro n
  induction n using Nat.strongRecOn with
  | _ n IH =>
    intro m l1 l2 l3 l4 l5 hmu hF hV hi0 hi1 hi2 hi3 hi4 hi5 hi6 hi7 hi8 hi9 hi10 hi11 hi12 r_W r_GW r_GU r_OW r_GG hi18 hi19 r_RB r_QI r_MG r_MK r_WTS r_VVb r_CT hi27 hi28 r_AU r_L1k r_L2n r_L3r r_PLq r_BTS r_N6
    refine g_183_19 l1 l2 l3 l4 l5 ?_
    have f1 : 0 ≤ (m 94 7).toInt ∧ (m 94 7).toInt ≤ 16 := rs_94_7 (m := m) hV
    have f2 : 0 ≤ (m 94 10).toInt ∧ (m 94 10).toInt ≤ 6 := rs_94_10 (m := m) hV
    have f3 : 0 ≤ (m 94 58).toInt ∧ (m 94 58).toInt ≤ 1 := rs_94_58 (m := m) hV
    have f4 : 0 ≤ (m 94 8).toInt ∧ (m 94 8).toInt ≤ 1 := rs_94_8 (m := m) hV
    have b5 := i_bd l5
    try have gk := AU_room r_AU r_GU (by omega)
    have hg6 : (0 ≤ l5 ∧ l5.toNatClampNeg < 3100) := i_ix (by omega) (by omega)
    refine ⟨hg6, ?_⟩
    first | have f7 : 0 ≤ (m 99 l5.toNatClampNeg).toInt ∧ (m 99 l5.toNatClampNeg).toInt ≤ 1 := ra_99 (m := m) hV (k := l5.toNatClampNeg) (i_ix (n := 3100) (by omega) (by omega)).2 | have b8 := i_bd (m 99 l5.toNatClampNeg)
    have li9 : (0 : Int32).toInt = 0 := rfl
    refine zd (fun (h10 : (m 99 l5.toNatClampNeg) = (0 : Int32)) => ?_) (fun (h10 : ¬ (m 99 l5.toNatClampNeg) = (0 : Int32)) => ?_)
    · skip
      have g11 := i_eq h10
      try have gk := AU_room r_AU r_GU (by omega)
      have hg12 : (0 ≤ l5 ∧ l5.toNatClampNeg < 3100) := i_ix (by omega) (by omega)
      refine ⟨hg12, ?_⟩
      have hg13 : (0 ≤ l5 ∧ l5.toNatClampNeg < 3100) := i_ix (by omega) (by omega)
      refine ⟨hg13, ?_⟩
      have hg14 : (0 ≤ l5 ∧ l5.toNatClampNeg < 3100) := i_ix (by omega) (by omega)
      refine ⟨hg14, ?_⟩
      have hg15 : (0 ≤ l5 ∧ l5.toNatClampNeg < 3100) := i_ix (by omega) (by omega)
      refine ⟨hg15, ?_⟩
      have hg16 : (0 ≤ l5 ∧ l5.toNatClampNeg < 3100) := i_ix (by omega) (by omega)
      refine ⟨hg16, ?_⟩
      have b17 := i_bd l4
      have hg18 : (0 ≤ l4 ∧ l4.toNatClampNeg < 4600) := i_ix (by omega) (by omega)
      refine ⟨hg18, ?_⟩
      try have gk := AU_room r_AU r_GU (by omega)
      try have e21 : (l2 + (1 : Int32)).toInt = l2.toInt + 1 := i_addk rfl (by omega) (by omega)
      try have gun := GU_nu r_GU
      have li20 : (1 : Int32).toInt = 1 := rfl
      have hV19 : zV (ma_u m 99 l5.toNatClampNeg (1 : Int32)) := ua_99 hV (by omega) (by omega)
      have f22 : 0 ≤ (m 94 46).toInt ∧ (m 94 46).toInt ≤ 100000 := rs_94_46 (m := m) hV
      have hV21 : zV (ma_u (ma_u m 99 l5.toNatClampNeg (1 : Int32)) 100 l5.toNatClampNeg (m 94 46)) := ua_100 hV19 (by omega) (by omega)
      have b24 := i_bd l1
      have hV23 : zV (ma_u (ma_u (ma_u m 99 l5.toNatClampNeg (1 : Int32)) 100 l5.toNatClampNeg (m 94 46)) 101 l5.toNatClampNeg l1) := ua_101 hV21 (by omega) (by omega)
      have b26 := i_bd l2
      have hV25 : zV (ma_u (ma_u (ma_u (ma_u m 99 l5.toNatClampNeg (1 : Int32)) 100 l5.toNatClampNeg (m 94 46)) 101 l5.toNatClampNeg l1) 102 l5.toNatClampNeg l2) := ua_102 hV23 (by omega) (by omega)
      have hV27 : zV (ma_u (ma_u (ma_u (ma_u (ma_u m 99 l5.toNatClampNeg (1 : Int32)) 100 l5.toNatClampNeg (m 94 46)) 101 l5.toNatClampNeg l1) 102 l5.toNatClampNeg l2) 103 l5.toNatClampNeg l4) := ua_103 hV25 (by omega) (by omega)
      have hV28 : zV (ma_u (ma_u (ma_u (ma_u (ma_u (ma_u m 99 l5.toNatClampNeg (1 : Int32)) 100 l5.toNatClampNeg (m 94 46)) 101 l5.toNatClampNeg l1) 102 l5.toNatClampNeg l2) 103 l5.toNatClampNeg l4) 111 l4.toNatClampNeg l5) := ua_111 hV27 (by omega) (by omega)
      have b29 := i_bd l3
      have q30 : ((ma_u m 102 l5.toNatClampNeg l2) 102 l5.toNatClampNeg).toInt = l2.toInt := congrArg Int32.toInt mu_self
      first | have f31 : 0 ≤ ((ma_u m 102 l5.toNatClampNeg l2) 102 l5.toNatClampNeg).toInt ∧ ((ma_u m 102 l5.toNatClampNeg l2) 102 l5.toNatClampNeg).toInt ≤ 60 := ra_102 (m := (ma_u (ma_u (ma_u (ma_u m 99 l5.toNatClampNeg (1 : Int32)) 100 l5.toNatClampNeg (m 94 46)) 101 l5.toNatClampNeg l1) 102 l5.toNatClampNeg l2)) hV25 (k := l5.toNatClampNeg) (i_ix (n := 3100) (by omega) (by omega)).2 | have b32 := i_bd ((ma_u m 102 l5.toNatClampNeg l2) 102 l5.toNatClampNeg)
      exact lp_183r4_88 (kk := kk) (nn := nn) (r1 := r1) h0 K _ _ (l2) (l3) (l4) (l5) rfl (zF_u (zF_u (zF_u (zF_u (zF_u (zF_u hF rfl) rfl) rfl) rfl) rfl) rfl) hV28 (by omega) (by omega) (by omega) (by omega) (by omega) (by omega) (by omega) (by omega) (by omega) (by omega) (show (m 94 10).toInt = 4 ∧ (m 94 58).toInt = 0 from by omega) (show (m 94 8).toInt = 1 from by omega) (show (m 94 46).toInt ≤ 511 from by omega) r_L2n r_L3r r_PLq (show ((ma_u m 102 l5.toNatClampNeg l2) 102 l5.toNatClampNeg).toInt = l2.toInt from by omega) (show ((ma_u m 99 l5.toNatClampNeg (1 : Int32)) 99) l5.toNatClampNeg ≠ 0 from by first | (rw [mu_self]; decide; done) | (exfalso; omega; done) | (exfalso; contradiction; done)) (show zGUp T (m 94 46) ((ma_u m 99 l5.toNatClampNeg (1 : Int32)) 99) from by first | (exact GUp_0 r_GU (by omega)) | (exfalso; omega; done) | (exfalso; contradiction; done)) (show zOw ((ma_u m 99 l5.toNatClampNeg (1 : Int32)) 99) ((ma_u m 103 l5.toNatClampNeg l4) 103) ((ma_u m 111 l4.toNatClampNeg l5) 111) from by first | (exact Ow_new r_OW (by assumption) (fun t ht => mu_ne ht) (by rw [mu_self]; decide) (fun t ht => mu_ne ht) mu_self (by omega) (fun t ht => mu_ne ht) (by rw [mu_self])) | (exact Ow_rm r_OW (by decide) (tn_cast (by omega)).symm) | (exfalso; omega; done) | (exfalso; contradiction; done)) r_GG (show qI (zRs aa (nn + (1 : Int32)).toInt) from by first | (exact r_QI) | (exfalso; omega; done) | (exfalso; contradiction; done)) (show qNs ((ma_u m 99 l5.toNatClampNeg (1 : Int32)) 99) ((ma_u m 100 l5.toNatClampNeg (m 94 46)) 100) (m 98) ((ma_u m 101 l5.toNatClampNeg l1) 101) ((ma_u m 102 l5.toNatClampNeg l2) 102) ((ma_u m 103 l5.toNatClampNeg l4) 103) (m 107) (m 108) (m 109) ((ma_u m 111 l4.toNatClampNeg l5) 111) (m 112) (m 113) (m 114) (m 94 55) (m 94 46) (m 94 11) (m 94 12) (m 94 62) (m 94 17) (m 94 9) (zRs aa (nn + (1 : Int32)).toInt) l5.toNatClampNeg (m 94 46) kk nn l4 from by first | (exact NS_0 r_RB r_QI (z := nn.toInt + 1) (by omega) (Ne_o0 r_QI r_PLq (by omega) (by omega) (by omega) r_RB.2.2.2.2.2.2.2.1 (by have gun := GU_nu r_GU; omega)).2.2.2.2 (by assumption) (by rw [mu_self]; decide) (fun t ht => mu_ne ht) mu_self (fun t ht => mu_ne ht) (mu_self.trans r_L1k) (fun t ht => mu_ne ht) (mu_self.trans r_L2n) (fun t ht => mu_ne ht) mu_self (fun t ht => mu_ne ht) (mu_self.trans (ofN_tn (by omega)).symm) (fun t ht => mu_ne ht)) | (exfalso; omega; done) | (exfalso; contradiction; done)) (show qMG (m 94 58) (m 106) (m 115) (m 94 57) (m 94 56) (zmk ((ma_u m 99 l5.toNatClampNeg (1 : Int32)) 99) l5.toNatClampNeg) ((ma_u m 100 l5.toNatClampNeg (m 94 46)) 100) (zRs aa (nn + (1 : Int32)).toInt) from by first | (exact fun z => absurd (by omega) z) | (exfalso; omega; done) | (exfalso; contradiction; done)) (show (zRs aa (nn + (1 : Int32)).toInt) 87 8 = (m 94 58) from by first | (exact r_MK) | (exfalso; omega; done) | (exfalso; contradiction; done)) (show (m 94 45).toInt = sm (zbU (zmk ((ma_u m 99 l5.toNatClampNeg (1 : Int32)) 99) l5.toNatClampNeg)) ((ma_u m 102 l5.toNatClampNeg l2) 102) 3100 from by first | (exact WT_0 r_WTS (by assumption) (fun t ht => mu_ne ht) (fun t ht => mu_ne ht)) | (exfalso; omega; done) | (exfalso; contradiction; done)) r_BTS r_N6 r_VVb (show qCt (m 105) (zmk ((ma_u m 99 l5.toNatClampNeg (1 : Int32)) 99) l5.toNatClampNeg) ((ma_u m 100 l5.toNatClampNeg (m 94 46)) 100) (zRs aa (nn + (1 : Int32)).toInt) [] (-1) (-1) from by first | (exact Ct_z0 r_CT (fun _ _ => rfl) (fun t ht => mu_ne ht) (fun t ht => mu_ne ht)) | (exfalso; omega; done) | (exfalso; contradiction; done)) (by omega) (by omega) (show zWn (m 94 7) (m 98) ((ma_u m 101 l5.toNatClampNeg l1) 101) ((ma_u m 102 l5.toNatClampNeg l2) 102) (m 108) l5.toNatClampNeg (0 : Int32).toNatClampNeg from by first | (exact Wn_0 r_W (fun t ht => mu_ne ht) (fun t ht => mu_ne ht) (by rw [mu_self]; assumption) rfl) | (exfalso; omega; done) | (exfalso; contradiction; done)) r_GW
    · skip
      have g33 := i_ne h10
      try have gk := AU_room r_AU r_GU (by omega)
      try have e21 : (l2 + (1 : Int32)).toInt = l2.toInt + 1 := i_addk rfl (by omega) (by omega)
      try have gun := GU_nu r_GU
      have b34 := i_bd l1
      have b35 := i_bd l2
      have b36 := i_bd l3
      have b37 := i_bd l4
      first | have e38 : (l5 + (1 : Int32)).toInt = l5.toInt + (1) := i_addk rfl (by omega) (by omega) | have b39 := i_bd (l5 + (1 : Int32))
      exact IH (3100 - (l5 + (1 : Int32)).toInt).toNat (by omega) _ (l1) (l2) (l3) (l4) ((l5 + (1 : Int32))) rfl hF hV (by omega) (by omega) (by omega) (by omega) (by omega) (by omega) (by omega) (by omega) (by omega) (by omega) (by omega) (by omega) (show 16 ≤ l1.toInt ∨ l1.toInt < (m 94 7).toInt from by omega) r_W r_GW r_GU r_OW r_GG (show (m 94 10).toInt = 4 ∧ (m 94 58).toInt = 0 from by omega) (show (m 94 8).toInt = 1 from by omega) r_RB r_QI r_MG r_MK r_WTS r_VVb r_CT (by omega) (by omega) (show ∀ j : Nat, (j : Int) < (l5 + (1 : Int32)).toInt → (m 99) j ≠ 0 from by first | (exact AU_step r_AU (by omega) (by assumption) (by omega)) | (exfalso; omega; done) | (exfalso; contradiction; done)) r_L1k r_L2n r_L3r r_PLq r_BTS r_N6
set_option maxHeartbeats 8000000 in
theorem sp_183r4 {X : Nat × (Nat → Int32)} {P : Option ma_V → (Nat → Nat → Int32) → Prop} {T : Nat} {aa : Nat→Nat→Int32} {B : Int} {LL : Int64} {m : Nat → Nat → Int32} (kk : Int32) (nn : Int32) (r1 : Int32) (hV : zV m) (hpre0 : 0 ≤ nn.toInt) (hpre1 : nn.toInt ≤ 60) (hpre2 : 0 ≤ r1.toInt) (hpre3 : r1.toInt ≤ 15) (hpre4 : 0 ≤ kk.toInt) (hpre5 : kk.toInt ≤ 17) (hpre6 : T + 1 ≤ 512) (hpre7 : 0 ≤ B) (hpre8 : B ≤ 1000000) (hpre9 : 16 ≤ kk.toInt ∨ kk.toInt < (m 94 7).toInt) (hpre10 : T ≤ 512) (r_W : zW (m 94 7) (m 98) (m 101) (m 102) (m 108)) (r_GW : zGW T (m 94 55) (m 109)) (r_GU : zGU T (m 94 46) (m 99)) (r_OW : zOw (m 99) (m 103) (m 111)) (r_GG : zGG (m 94 58) (m 94 56) (m 94 57) (m 106)) (hpre16 : (m 94 10).toInt = 4 ∧ (m 94 58).toInt = 0) (hpre17 : (m 94 8).toInt = 1) (r_RB : qRB (m 99) (m 100) (m 98) (m 101) (m 102) (m 103) (m 107) (m 108) (m 109) (m 111) (m 112) (m 113) (m 114) (m 94 55) (m 94 46) (m 94 11) (m 94 12) (m 94 62) (m 94 17) (m 94 9) aa) (r_QI : qI aa) (r_MK : aa 87 8 = (m 94 58)) (r_WTS : (m 94 45).toInt = sm (zbU (m 99)) (m 102) 3100) (r_VV : cV aa [] B) (r_CT : qCt (m 105) (m 99) (m 100) aa [] (-1) (-1)) (r_BTS : ∀ j : Nat, (j : Int) < nn.toInt → (zbit LL (Int32.ofNat j) ≠ 0 ↔ (kk = 16 ∨ (kk < 16 ∧ (((m 98) kk.toNatClampNeg >>> (Int32.ofNat j &&& 31)) &&& 1) = 1)))) (KZ : ∀ v m₉, zV (zov wr_183 m m₉) → (zW (m 94 7) (m 98) (m₉ 101) (m₉ 102) (m₉ 108)) → (zGW (T + 1) (m₉ 94 55) (m₉ 109)) → (zGU (T + 1) (m₉ 94 46) (m₉ 99)) → (zOw (m₉ 99) (m₉ 103) (m₉ 111)) → (zGG (m₉ 94 58) (m₉ 94 56) (m₉ 94 57) (m₉ 106)) → (qRB (m₉ 99) (m₉ 100) (m 98) (m₉ 101) (m₉ 102) (m₉ 103) (m₉ 107) (m₉ 108) (m₉ 109) (m₉ 111) (m₉ 112) (m₉ 113) (m₉ 114) (m₉ 94 55) (m₉ 94 46) (m 94 11) (m 94 12) (m₉ 94 62) (m 94 17) (m 94 9) (kMk aa kk nn LL r1)) → (qI (kMk aa kk nn LL r1)) → ((kMk aa kk nn LL r1) 87 8 = (m₉ 94 58)) → (cV (kMk aa kk nn LL r1) [] B) → (qCt (m₉ 105) (m₉ 99) (m₉ 100) (kMk aa kk nn LL r1) [] (-1) (-1)) → ((m₉ 94 45).toInt = sm (zbU (m₉ 99)) (m₉ 102) 3100) → ((m₉ 94 58).toInt = 0) → (v = sMn aa nn) → P (some (.inl v)) (zov wr_183 m m₉)) : zm X 9 198 183 0 [(0, .inr (.inr (some 94))), (1, .inl kk), (2, .inl nn), (3, .inl r1)] m P := by
  have K : ∀ v m₉, zF wr_183 m m₉ → zV m₉ → (zW (m₉ 94 7) (m₉ 98) (m₉ 101) (m₉ 102) (m₉ 108)) → (zGW (T + 1) (m₉ 94 55) (m₉ 109)) → (zGU (T + 1) (m₉ 94 46) (m₉ 99)) → (zOw (m₉ 99) (m₉ 103) (m₉ 111)) → (zGG (m₉ 94 58) (m₉ 94 56) (m₉ 94 57) (m₉ 106)) → (qRB (m₉ 99) (m₉ 100) (m₉ 98) (m₉ 101) (m₉ 102) (m₉ 103) (m₉ 107) (m₉ 108) (m₉ 109) (m₉ 111) (m₉ 112) (m₉ 113) (m₉ 114) (m₉ 94 55) (m₉ 94 46) (m₉ 94 11) (m₉ 94 12) (m₉ 94 62) (m₉ 94 17) (m₉ 94 9) (kMk aa kk nn LL r1)) → (qI (kMk aa kk nn LL r1)) → ((kMk aa kk nn LL r1) 87 8 = (m₉ 94 58)) → (cV (kMk aa kk nn LL r1) [] B) → (qCt (m₉ 105) (m₉ 99) (m₉ 100) (kMk aa kk nn LL r1) [] (-1) (-1)) → ((m₉ 94 45).toInt = sm (zbU (m₉ 99)) (m₉ 102) 3100) → ((m₉ 94 58).toInt = 0) → (v = sMn aa nn) → P (some (.inl v)) m₉ := by
    intro v m₉ hf z q0 q1 q2 q3 q4 q5 q6 q7 q8 q9 q10 q11 q12
    have e := zov_eq hf
    rw [e] at z ⊢
    try rw [e] at q0
    try rw [e] at q1
    try rw [e] at q2
    try rw [e] at q3
    try rw [e] at q4
    try rw [e] at q5
    try rw [e] at q6
    try rw [e] at q7
    try rw [e] at q8
    try rw [e] at q9
    try rw [e] at q10
    try rw [e] at q11
    try rw [e] at q12
    exact KZ v m₉ z q0 q1 q2 q3 q4 q5 q6 q7 q8 q9 q10 q11 q12
  refine g_183_0 kk nn r1 ?_
  have f1 : 0 ≤ (m 94 7).toInt ∧ (m 94 7).toInt ≤ 16 := rs_94_7 (m := m) hV
  have f2 : 0 ≤ (m 94 10).toInt ∧ (m 94 10).toInt ≤ 6 := rs_94_10 (m := m) hV
  have f3 : 0 ≤ (m 94 58).toInt ∧ (m 94 58).toInt ≤ 1 := rs_94_58 (m := m) hV
  have f4 : 0 ≤ (m 94 8).toInt ∧ (m 94 8).toInt ≤ 1 := rs_94_8 (m := m) hV
  have b5 := i_bd nn
  first | have e6 : (nn + (1 : Int32)).toInt = nn.toInt + (1) := i_addk rfl (by omega) (by omega) | have b7 := i_bd (nn + (1 : Int32))
  refine sp_184r4 (aa := aa) ((nn + (1 : Int32))) hV (by omega) r_W r_GW r_GU r_OW r_GG (show (m 94 10).toInt = 4 ∧ (m 94 58).toInt = 0 from by omega) r_RB r_QI r_MK r_WTS r_VV r_CT (fun v2 m1 hV_m1 p0_m1 p1_m1 p2_m1 p3_m1 p4_m1 p5_m1 p6_m1 p7_m1 p8_m1 p9_m1 p10_m1 p11_m1 p12_m1 => zmi_n ?_)
  have p0_m1 : zGW T (m1 94 55) (m1 109) := p0_m1
  have p1_m1 : zGU T (m 94 46) (m1 99) := p1_m1
  have p2_m1 : zOw (m1 99) (m1 103) (m1 111) := p2_m1
  have p3_m1 : zGG (m1 94 58) (m1 94 56) (m1 94 57) (m1 106) := p3_m1
  have p4_m1 : -1 ≤ v2.toInt ∧ v2.toInt ≤ 1500 := p4_m1
  have p5_m1 : qRB (m1 99) (m 100) (m 98) (m 101) (m 102) (m1 103) (m 107) (m 108) (m1 109) (m1 111) (m 112) (m1 113) (m1 114) (m1 94 55) (m 94 46) (m 94 11) (m 94 12) (m 94 62) (m 94 17) (m 94 9) (zRs aa (nn + (1 : Int32)).toInt) := p5_m1
  have p6_m1 : qI (zRs aa (nn + (1 : Int32)).toInt) := p6_m1
  have p7_m1 : (zRs aa (nn + (1 : Int32)).toInt) 87 8 = (m1 94 58) := p7_m1
  have p8_m1 : (m1 94 45).toInt = sm (zbU (m1 99)) (m 102) 3100 := p8_m1
  have p9_m1 : cV (zRs aa (nn + (1 : Int32)).toInt) [] B := p9_m1
  have p10_m1 : qCt (m1 105) (m1 99) (m 100) (zRs aa (nn + (1 : Int32)).toInt) [] (-1) (-1) := p10_m1
  have p11_m1 : qEq v2.toInt (zRp aa (nn + (1 : Int32)).toInt) := p11_m1
  have p12_m1 : (m1 94 58).toInt = 0 := p12_m1
  have f8 : 0 ≤ (m1 94 58).toInt ∧ (m1 94 58).toInt ≤ 1 := rs_94_58 (m := (zov wr_184 m m1)) hV_m1
  have li9 : (0 : Int32).toInt = 0 := rfl
  have b10 := i_bd v2
  refine zd (fun (h11 : (0 : Int32) ≤ v2) => ?_) (fun (h11 : ¬ (0 : Int32) ≤ v2) => ?_)
  · skip
    have g12 := i_le h11
    try have e21 : (l2 + (1 : Int32)).toInt = l2.toInt + 1 := i_addk rfl (by omega) (by omega)
    try have gun := GU_nu p1_m1
    have b13 := i_bd kk
    have b14 := i_bd r1
    exact lp_183r4_19 (kk := kk) (nn := nn) (r1 := r1) hV K _ _ (kk) (nn) (r1) (v2) ((0 : Int32)) rfl (zF_zov zF_rfl ws_184_183) hV_m1 (by omega) (by omega) (by omega) (by omega) (by omega) (by omega) (by omega) (by omega) (by omega) (by omega) (by omega) (by omega) (show 16 ≤ kk.toInt ∨ kk.toInt < (m 94 7).toInt from by omega) r_W p0_m1 p1_m1 p2_m1 p3_m1 (show (m 94 10).toInt = 4 ∧ (m1 94 58).toInt = 0 from by omega) (show (m 94 8).toInt = 1 from by omega) p5_m1 p6_m1 (show qMG (m1 94 58) (m1 106) (m1 115) (m1 94 57) (m1 94 56) (m1 99) (m 100) (zRs aa (nn + (1 : Int32)).toInt) from by first | (exact fun z => absurd (by omega) z) | (exfalso; omega; done) | (exfalso; contradiction; done)) p7_m1 p8_m1 (show cV (zRs aa (nn + (1 : Int32)).toInt) [] B from by first | (exact p9_m1) | (exfalso; omega; done) | (exfalso; contradiction; done)) p10_m1 (by omega) (by omega) (show ∀ j : Nat, (j : Int) < (0 : Int32).toInt → (m1 99) j ≠ 0 from by first | (intro j hj; omega; done) | (exfalso; omega; done) | (exfalso; contradiction; done)) (show kk = kk from by first | (exact rfl) | (exfalso; omega; done) | (exfalso; contradiction; done)) (show nn = nn from by first | (exact rfl) | (exfalso; omega; done) | (exfalso; contradiction; done)) (show r1 = r1 from by first | (exact rfl) | (exfalso; omega; done) | (exfalso; contradiction; done)) (show qEq v2.toInt (zRp aa (nn + (1 : Int32)).toInt) from by first | (exact p11_m1) | (exfalso; omega; done) | (exfalso; contradiction; done)) r_BTS (show (aa 69 6).toInt < 512 from by first | (exact (show (aa 69 6).toInt < 512 from by rw [r_RB.2.2.2.2.2.2.2.1]; have gun := GU_nu r_GU; omega)) | (exfalso; omega; done) | (exfalso; contradiction; done))
  · skip
    have g15 := i_nle h11
    try have e21 : (l2 + (1 : Int32)).toInt = l2.toInt + 1 := i_addk rfl (by omega) (by omega)
    try have gun := GU_nu p1_m1
    have li16 : (-1 : Int32).toInt = -1 := rfl
    exact K ((-1 : Int32)) _ (zF_zov zF_rfl ws_184_183) hV_m1 r_W (show zGW (T + 1) (m1 94 55) (m1 109) from by first | (exact GW_up p0_m1 (by omega)) | (exfalso; omega; done) | (exfalso; contradiction; done)) (show zGU (T + 1) (m 94 46) (m1 99) from by first | (exact GU_up p1_m1 (by omega)) | (exact GU_0 p1_m1) | (exfalso; omega; done) | (exfalso; contradiction; done)) p2_m1 p3_m1 (show qRB (m1 99) (m 100) (m 98) (m 101) (m 102) (m1 103) (m 107) (m 108) (m1 109) (m1 111) (m 112) (m1 113) (m1 114) (m1 94 55) (m 94 46) (m 94 11) (m 94 12) (m 94 62) (m 94 17) (m 94 9) (kMk aa kk nn LL r1) from by first | (rw [(kMk_1 (a := aa) (kd := kk) (wd := nn) (rt := r1) (L := LL) (show (aa 69 6).toInt < 512 from by rw [r_RB.2.2.2.2.2.2.2.1]; have gun := GU_nu r_GU; omega) ((qE p11_m1).symm.trans (by omega))).1]; exact p5_m1; done) | (exfalso; omega; done) | (exfalso; contradiction; done)) (show qI (kMk aa kk nn LL r1) from by first | (rw [(kMk_1 (a := aa) (kd := kk) (wd := nn) (rt := r1) (L := LL) (show (aa 69 6).toInt < 512 from by rw [r_RB.2.2.2.2.2.2.2.1]; have gun := GU_nu r_GU; omega) ((qE p11_m1).symm.trans (by omega))).1]; exact p6_m1; done) | (exfalso; omega; done) | (exfalso; contradiction; done)) (show (kMk aa kk nn LL r1) 87 8 = (m1 94 58) from by first | (rw [(kMk_1 (a := aa) (kd := kk) (wd := nn) (rt := r1) (L := LL) (show (aa 69 6).toInt < 512 from by rw [r_RB.2.2.2.2.2.2.2.1]; have gun := GU_nu r_GU; omega) ((qE p11_m1).symm.trans (by omega))).1]; exact p7_m1; done) | (exfalso; omega; done) | (exfalso; contradiction; done)) (show cV (kMk aa kk nn LL r1) [] B from by first | (rw [(kMk_1 (a := aa) (kd := kk) (wd := nn) (rt := r1) (L := LL) (show (aa 69 6).toInt < 512 from by rw [r_RB.2.2.2.2.2.2.2.1]; have gun := GU_nu r_GU; omega) ((qE p11_m1).symm.trans (by omega))).1]; exact p9_m1; done) | (exfalso; omega; done) | (exfalso; contradiction; done)) (show qCt (m1 105) (m1 99) (m 100) (kMk aa kk nn LL r1) [] (-1) (-1) from by first | (rw [(kMk_1 (a := aa) (kd := kk) (wd := nn) (rt := r1) (L := LL) (show (aa 69 6).toInt < 512 from by rw [r_RB.2.2.2.2.2.2.2.1]; have gun := GU_nu r_GU; omega) ((qE p11_m1).symm.trans (by omega))).1]; exact p10_m1; done) | (exfalso; omega; done) | (exfalso; contradiction; done)) p8_m1 (show (m1 94 58).toInt = 0 from by omega) (show (-1 : Int32) = sMn aa nn from by first | (exact (kMk_1 (a := aa) (kd := kk) (wd := nn) (rt := r1) (L := LL) (show (aa 69 6).toInt < 512 from by rw [r_RB.2.2.2.2.2.2.2.1]; have gun := GU_nu r_GU; omega) ((qE p11_m1).symm.trans (by omega))).2.symm) | (exfalso; omega; done) | (exfalso; contradiction; done))

/-! from 95.o17 -/
/-! the reference under COUNTS (written by wip/tools/gen20s.py) -/
set_option maxHeartbeats 8000000 in
theorem sp_181r4 {X : Nat × (Nat → Int32)} {P : Option ma_V → (Nat → Nat → Int32) → Prop} {T : Nat} {aa : Nat→Nat→Int32} {B : Int} {LL : Int64} {m : Nat → Nat → Int32} (kk : Int32) (r1 : Int32) (hV : zV m) (hpre0 : T + 1 ≤ 512) (hpre1 : T ≤ 512) (hpre2 : 0 ≤ B) (hpre3 : B ≤ 1000000) (r_W : zW (m 94 7) (m 98) (m 101) (m 102) (m 108)) (r_GW : zGW T (m 94 55) (m 109)) (r_GU : zGU T (m 94 46) (m 99)) (r_OW : zOw (m 99) (m 103) (m 111)) (r_GG : zGG (m 94 58) (m 94 56) (m 94 57) (m 106)) (hpre9 : (m 94 10).toInt = 4 ∧ (m 94 58).toInt = 0) (hpre10 : (m 94 8).toInt = 1) (r_RB : qRB (m 99) (m 100) (m 98) (m 101) (m 102) (m 103) (m 107) (m 108) (m 109) (m 111) (m 112) (m 113) (m 114) (m 94 55) (m 94 46) (m 94 11) (m 94 12) (m 94 62) (m 94 17) (m 94 9) aa) (r_QI : qI aa) (r_MK : aa 87 8 = (m 94 58)) (r_WTS : (m 94 45).toInt = sm (zbU (m 99)) (m 102) 3100) (r_VV : cV aa [] B) (r_CT : qCt (m 105) (m 99) (m 100) aa [] (-1) (-1)) (r_BT1 : (0 ≤ kk.toInt ∧ kk.toInt < (m 94 7).toInt) → ∀ j : Nat, (j : Int) < ((m 97) kk.toNatClampNeg).toInt → (zbit LL (Int32.ofNat j) ≠ 0 ↔ (kk = 16 ∨ (kk < 16 ∧ (((m 98) kk.toNatClampNeg >>> (Int32.ofNat j &&& 31)) &&& 1) = 1)))) (KZ : ∀ v m₉, zV (zov wr_181 m m₉) → (zW (m 94 7) (m 98) (m₉ 101) (m₉ 102) (m₉ 108)) → (zGW (T + 1) (m₉ 94 55) (m₉ 109)) → (zGU (T + 1) (m₉ 94 46) (m₉ 99)) → (zOw (m₉ 99) (m₉ 103) (m₉ 111)) → (zGG (m₉ 94 58) (m₉ 94 56) (m₉ 94 57) (m₉ 106)) → (qRB (m₉ 99) (m₉ 100) (m 98) (m₉ 101) (m₉ 102) (m₉ 103) (m₉ 107) (m₉ 108) (m₉ 109) (m₉ 111) (m₉ 112) (m₉ 113) (m₉ 114) (m₉ 94 55) (m₉ 94 46) (m 94 11) (m 94 12) (m₉ 94 62) (m 94 17) (m 94 9) (qIf (0 ≤ kk.toInt ∧ kk.toInt < (m 94 7).toInt ∧ zSl r1) (kMk aa kk ((m 97) kk.toNatClampNeg) LL r1) aa)) → (qI (qIf (0 ≤ kk.toInt ∧ kk.toInt < (m 94 7).toInt ∧ zSl r1) (kMk aa kk ((m 97) kk.toNatClampNeg) LL r1) aa)) → ((qIf (0 ≤ kk.toInt ∧ kk.toInt < (m 94 7).toInt ∧ zSl r1) (kMk aa kk ((m 97) kk.toNatClampNeg) LL r1) aa) 87 8 = (m₉ 94 58)) → (cV (qIf (0 ≤ kk.toInt ∧ kk.toInt < (m 94 7).toInt ∧ zSl r1) (kMk aa kk ((m 97) kk.toNatClampNeg) LL r1) aa) [] B) → (qCt (m₉ 105) (m₉ 99) (m₉ 100) (qIf (0 ≤ kk.toInt ∧ kk.toInt < (m 94 7).toInt ∧ zSl r1) (kMk aa kk ((m 97) kk.toNatClampNeg) LL r1) aa) [] (-1) (-1)) → ((m₉ 94 45).toInt = sm (zbU (m₉ 99)) (m₉ 102) 3100) → ((m₉ 94 58).toInt = 0) → P (some (.inl v)) (zov wr_181 m m₉)) : zm X 10 224 181 0 [(0, .inr (.inr (some 94))), (1, .inl kk), (2, .inl r1)] m P := by
  have K : ∀ v m₉, zF wr_181 m m₉ → zV m₉ → (zW (m₉ 94 7) (m₉ 98) (m₉ 101) (m₉ 102) (m₉ 108)) → (zGW (T + 1) (m₉ 94 55) (m₉ 109)) → (zGU (T + 1) (m₉ 94 46) (m₉ 99)) → (zOw (m₉ 99) (m₉ 103) (m₉ 111)) → (zGG (m₉ 94 58) (m₉ 94 56) (m₉ 94 57) (m₉ 106)) → (qRB (m₉ 99) (m₉ 100) (m₉ 98) (m₉ 101) (m₉ 102) (m₉ 103) (m₉ 107) (m₉ 108) (m₉ 109) (m₉ 111) (m₉ 112) (m₉ 113) (m₉ 114) (m₉ 94 55) (m₉ 94 46) (m₉ 94 11) (m₉ 94 12) (m₉ 94 62) (m₉ 94 17) (m₉ 94 9) (qIf (0 ≤ kk.toInt ∧ kk.toInt < (m 94 7).toInt ∧ zSl r1) (kMk aa kk ((m 97) kk.toNatClampNeg) LL r1) aa)) → (qI (qIf (0 ≤ kk.toInt ∧ kk.toInt < (m 94 7).toInt ∧ zSl r1) (kMk aa kk ((m 97) kk.toNatClampNeg) LL r1) aa)) → ((qIf (0 ≤ kk.toInt ∧ kk.toInt < (m 94 7).toInt ∧ zSl r1) (kMk aa kk ((m 97) kk.toNatClampNeg) LL r1) aa) 87 8 = (m₉ 94 58)) → (cV (qIf (0 ≤ kk.toInt ∧ kk.toInt < (m 94 7).toInt ∧ zSl r1) (kMk aa kk ((m 97) kk.toNatClampNeg) LL r1) aa) [] B) → (qCt (m₉ 105) (m₉ 99) (m₉ 100) (qIf (0 ≤ kk.toInt ∧ kk.toInt < (m 94 7).toInt ∧ zSl r1) (kMk aa kk ((m 97) kk.toNatClampNeg) LL r1) aa) [] (-1) (-1)) → ((m₉ 94 45).toInt = sm (zbU (m₉ 99)) (m₉ 102) 3100) → ((m₉ 94 58).toInt = 0) → P (some (.inl v)) m₉ := by
    intro v m₉ hf z q0 q1 q2 q3 q4 q5 q6 q7 q8 q9 q10 q11
    have e := zov_eq hf
    rw [e] at z ⊢
    try rw [e] at q0
    try rw [e] at q1
    try rw [e] at q2
    try rw [e] at q3
    try rw [e] at q4
    try rw [e] at q5
    try rw [e] at q6
    try rw [e] at q7
    try rw [e] at q8
    try rw [e] at q9
    try rw [e] at q10
    try rw [e] at q11
    exact KZ v m₉ z q0 q1 q2 q3 q4 q5 q6 q7 q8 q9 q10 q11
  refine g_181_0 kk r1 ?_
  have f1 : 0 ≤ (m 94 10).toInt ∧ (m 94 10).toInt ≤ 6 := rs_94_10 (m := m) hV
  have f2 : 0 ≤ (m 94 58).toInt ∧ (m 94 58).toInt ≤ 1 := rs_94_58 (m := m) hV
  have f3 : 0 ≤ (m 94 8).toInt ∧ (m 94 8).toInt ≤ 1 := rs_94_8 (m := m) hV
  have b4 := i_bd kk
  have li5 : (0 : Int32).toInt = 0 := rfl
  refine zd (fun (h6 : kk < (0 : Int32)) => ?_) (fun (h6 : ¬ kk < (0 : Int32)) => ?_)
  · skip
    have g7 := i_lt h6
    have hV8 : zV (ma_u m 94 0 (1 : Int32)) := uf_94_0 hV
    exact K ((0 : Int32)) _ (zF_u zF_rfl rfl) hV8 r_W (show zGW (T + 1) (m 94 55) (m 109) from by first | (exact GW_up r_GW (by omega)) | (exfalso; omega; done) | (exfalso; contradiction; done)) (show zGU (T + 1) (m 94 46) (m 99) from by first | (exact GU_up r_GU (by omega)) | (exact GU_0 r_GU) | (exfalso; omega; done) | (exfalso; contradiction; done)) r_OW r_GG (show qRB (m 99) (m 100) (m 98) (m 101) (m 102) (m 103) (m 107) (m 108) (m 109) (m 111) (m 112) (m 113) (m 114) (m 94 55) (m 94 46) (m 94 11) (m 94 12) (m 94 62) (m 94 17) (m 94 9) (qIf (0 ≤ kk.toInt ∧ kk.toInt < (m 94 7).toInt ∧ zSl r1) (kMk aa kk ((m 97) kk.toNatClampNeg) LL r1) aa) from by first | (rw [qIf_n (fun w => by have w1 := w.1; have w2 := w.2.1; have w3 := w.2.2.1; have w4 := w.2.2.2; omega)]; exact r_RB; done) | (exfalso; omega; done) | (exfalso; contradiction; done)) (show qI (qIf (0 ≤ kk.toInt ∧ kk.toInt < (m 94 7).toInt ∧ zSl r1) (kMk aa kk ((m 97) kk.toNatClampNeg) LL r1) aa) from by first | (rw [qIf_n (fun w => by have w1 := w.1; have w2 := w.2.1; have w3 := w.2.2.1; have w4 := w.2.2.2; omega)]; exact r_QI; done) | (exfalso; omega; done) | (exfalso; contradiction; done)) (show (qIf (0 ≤ kk.toInt ∧ kk.toInt < (m 94 7).toInt ∧ zSl r1) (kMk aa kk ((m 97) kk.toNatClampNeg) LL r1) aa) 87 8 = (m 94 58) from by first | (rw [qIf_n (fun w => by have w1 := w.1; have w2 := w.2.1; have w3 := w.2.2.1; have w4 := w.2.2.2; omega)]; exact r_MK; done) | (exfalso; omega; done) | (exfalso; contradiction; done)) (show cV (qIf (0 ≤ kk.toInt ∧ kk.toInt < (m 94 7).toInt ∧ zSl r1) (kMk aa kk ((m 97) kk.toNatClampNeg) LL r1) aa) [] B from by first | (rw [qIf_n (fun w => by have w1 := w.1; have w2 := w.2.1; have w3 := w.2.2.1; have w4 := w.2.2.2; omega)]; exact r_VV; done) | (exfalso; omega; done) | (exfalso; contradiction; done)) (show qCt (m 105) (m 99) (m 100) (qIf (0 ≤ kk.toInt ∧ kk.toInt < (m 94 7).toInt ∧ zSl r1) (kMk aa kk ((m 97) kk.toNatClampNeg) LL r1) aa) [] (-1) (-1) from by first | (rw [qIf_n (fun w => by have w1 := w.1; have w2 := w.2.1; have w3 := w.2.2.1; have w4 := w.2.2.2; omega)]; exact r_CT; done) | (exfalso; omega; done) | (exfalso; contradiction; done)) r_WTS (show (m 94 58).toInt = 0 from by omega)
  · skip
    have g9 := i_nlt h6
    have f10 : 0 ≤ (m 94 7).toInt ∧ (m 94 7).toInt ≤ 16 := rs_94_7 (m := m) hV
    refine zd (fun (h11 : (m 94 7) ≤ kk) => ?_) (fun (h11 : ¬ (m 94 7) ≤ kk) => ?_)
    · skip
      have g12 := i_le h11
      have hV13 : zV (ma_u m 94 0 (1 : Int32)) := uf_94_0 hV
      exact K ((0 : Int32)) _ (zF_u zF_rfl rfl) hV13 r_W (show zGW (T + 1) (m 94 55) (m 109) from by first | (exact GW_up r_GW (by omega)) | (exfalso; omega; done) | (exfalso; contradiction; done)) (show zGU (T + 1) (m 94 46) (m 99) from by first | (exact GU_up r_GU (by omega)) | (exact GU_0 r_GU) | (exfalso; omega; done) | (exfalso; contradiction; done)) r_OW r_GG (show qRB (m 99) (m 100) (m 98) (m 101) (m 102) (m 103) (m 107) (m 108) (m 109) (m 111) (m 112) (m 113) (m 114) (m 94 55) (m 94 46) (m 94 11) (m 94 12) (m 94 62) (m 94 17) (m 94 9) (qIf (0 ≤ kk.toInt ∧ kk.toInt < (m 94 7).toInt ∧ zSl r1) (kMk aa kk ((m 97) kk.toNatClampNeg) LL r1) aa) from by first | (rw [qIf_n (fun w => by have w1 := w.1; have w2 := w.2.1; have w3 := w.2.2.1; have w4 := w.2.2.2; omega)]; exact r_RB; done) | (exfalso; omega; done) | (exfalso; contradiction; done)) (show qI (qIf (0 ≤ kk.toInt ∧ kk.toInt < (m 94 7).toInt ∧ zSl r1) (kMk aa kk ((m 97) kk.toNatClampNeg) LL r1) aa) from by first | (rw [qIf_n (fun w => by have w1 := w.1; have w2 := w.2.1; have w3 := w.2.2.1; have w4 := w.2.2.2; omega)]; exact r_QI; done) | (exfalso; omega; done) | (exfalso; contradiction; done)) (show (qIf (0 ≤ kk.toInt ∧ kk.toInt < (m 94 7).toInt ∧ zSl r1) (kMk aa kk ((m 97) kk.toNatClampNeg) LL r1) aa) 87 8 = (m 94 58) from by first | (rw [qIf_n (fun w => by have w1 := w.1; have w2 := w.2.1; have w3 := w.2.2.1; have w4 := w.2.2.2; omega)]; exact r_MK; done) | (exfalso; omega; done) | (exfalso; contradiction; done)) (show cV (qIf (0 ≤ kk.toInt ∧ kk.toInt < (m 94 7).toInt ∧ zSl r1) (kMk aa kk ((m 97) kk.toNatClampNeg) LL r1) aa) [] B from by first | (rw [qIf_n (fun w => by have w1 := w.1; have w2 := w.2.1; have w3 := w.2.2.1; have w4 := w.2.2.2; omega)]; exact r_VV; done) | (exfalso; omega; done) | (exfalso; contradiction; done)) (show qCt (m 105) (m 99) (m 100) (qIf (0 ≤ kk.toInt ∧ kk.toInt < (m 94 7).toInt ∧ zSl r1) (kMk aa kk ((m 97) kk.toNatClampNeg) LL r1) aa) [] (-1) (-1) from by first | (rw [qIf_n (fun w => by have w1 := w.1; have w2 := w.2.1; have w3 := w.2.2.1; have w4 := w.2.2.2; omega)]; exact r_CT; done) | (exfalso; omega; done) | (exfalso; contradiction; done)) r_WTS (show (m 94 58).toInt = 0 from by omega)
    · skip
      have g14 := i_nle h11
      have b15 := i_bd r1
      refine zd (fun (h16 : r1 < (0 : Int32)) => ?_) (fun (h16 : ¬ r1 < (0 : Int32)) => ?_)
      · skip
        have g17 := i_lt h16
        have hV18 : zV (ma_u m 94 0 (1 : Int32)) := uf_94_0 hV
        exact K ((0 : Int32)) _ (zF_u zF_rfl rfl) hV18 r_W (show zGW (T + 1) (m 94 55) (m 109) from by first | (exact GW_up r_GW (by omega)) | (exfalso; omega; done) | (exfalso; contradiction; done)) (show zGU (T + 1) (m 94 46) (m 99) from by first | (exact GU_up r_GU (by omega)) | (exact GU_0 r_GU) | (exfalso; omega; done) | (exfalso; contradiction; done)) r_OW r_GG (show qRB (m 99) (m 100) (m 98) (m 101) (m 102) (m 103) (m 107) (m 108) (m 109) (m 111) (m 112) (m 113) (m 114) (m 94 55) (m 94 46) (m 94 11) (m 94 12) (m 94 62) (m 94 17) (m 94 9) (qIf (0 ≤ kk.toInt ∧ kk.toInt < (m 94 7).toInt ∧ zSl r1) (kMk aa kk ((m 97) kk.toNatClampNeg) LL r1) aa) from by first | (rw [qIf_n (fun w => by have w1 := w.1; have w2 := w.2.1; have w3 := w.2.2.1; have w4 := w.2.2.2; omega)]; exact r_RB; done) | (exfalso; omega; done) | (exfalso; contradiction; done)) (show qI (qIf (0 ≤ kk.toInt ∧ kk.toInt < (m 94 7).toInt ∧ zSl r1) (kMk aa kk ((m 97) kk.toNatClampNeg) LL r1) aa) from by first | (rw [qIf_n (fun w => by have w1 := w.1; have w2 := w.2.1; have w3 := w.2.2.1; have w4 := w.2.2.2; omega)]; exact r_QI; done) | (exfalso; omega; done) | (exfalso; contradiction; done)) (show (qIf (0 ≤ kk.toInt ∧ kk.toInt < (m 94 7).toInt ∧ zSl r1) (kMk aa kk ((m 97) kk.toNatClampNeg) LL r1) aa) 87 8 = (m 94 58) from by first | (rw [qIf_n (fun w => by have w1 := w.1; have w2 := w.2.1; have w3 := w.2.2.1; have w4 := w.2.2.2; omega)]; exact r_MK; done) | (exfalso; omega; done) | (exfalso; contradiction; done)) (show cV (qIf (0 ≤ kk.toInt ∧ kk.toInt < (m 94 7).toInt ∧ zSl r1) (kMk aa kk ((m 97) kk.toNatClampNeg) LL r1) aa) [] B from by first | (rw [qIf_n (fun w => by have w1 := w.1; have w2 := w.2.1; have w3 := w.2.2.1; have w4 := w.2.2.2; omega)]; exact r_VV; done) | (exfalso; omega; done) | (exfalso; contradiction; done)) (show qCt (m 105) (m 99) (m 100) (qIf (0 ≤ kk.toInt ∧ kk.toInt < (m 94 7).toInt ∧ zSl r1) (kMk aa kk ((m 97) kk.toNatClampNeg) LL r1) aa) [] (-1) (-1) from by first | (rw [qIf_n (fun w => by have w1 := w.1; have w2 := w.2.1; have w3 := w.2.2.1; have w4 := w.2.2.2; omega)]; exact r_CT; done) | (exfalso; omega; done) | (exfalso; contradiction; done)) r_WTS (show (m 94 58).toInt = 0 from by omega)
      · skip
        have g19 := i_nlt h16
        have li20 : (16 : Int32).toInt = 16 := rfl
        refine zd (fun (h21 : (16 : Int32) ≤ r1) => ?_) (fun (h21 : ¬ (16 : Int32) ≤ r1) => ?_)
        · skip
          have g22 := i_le h21
          have hV23 : zV (ma_u m 94 0 (1 : Int32)) := uf_94_0 hV
          exact K ((0 : Int32)) _ (zF_u zF_rfl rfl) hV23 r_W (show zGW (T + 1) (m 94 55) (m 109) from by first | (exact GW_up r_GW (by omega)) | (exfalso; omega; done) | (exfalso; contradiction; done)) (show zGU (T + 1) (m 94 46) (m 99) from by first | (exact GU_up r_GU (by omega)) | (exact GU_0 r_GU) | (exfalso; omega; done) | (exfalso; contradiction; done)) r_OW r_GG (show qRB (m 99) (m 100) (m 98) (m 101) (m 102) (m 103) (m 107) (m 108) (m 109) (m 111) (m 112) (m 113) (m 114) (m 94 55) (m 94 46) (m 94 11) (m 94 12) (m 94 62) (m 94 17) (m 94 9) (qIf (0 ≤ kk.toInt ∧ kk.toInt < (m 94 7).toInt ∧ zSl r1) (kMk aa kk ((m 97) kk.toNatClampNeg) LL r1) aa) from by first | (rw [qIf_n (fun w => by have w1 := w.1; have w2 := w.2.1; have w3 := w.2.2.1; have w4 := w.2.2.2; omega)]; exact r_RB; done) | (exfalso; omega; done) | (exfalso; contradiction; done)) (show qI (qIf (0 ≤ kk.toInt ∧ kk.toInt < (m 94 7).toInt ∧ zSl r1) (kMk aa kk ((m 97) kk.toNatClampNeg) LL r1) aa) from by first | (rw [qIf_n (fun w => by have w1 := w.1; have w2 := w.2.1; have w3 := w.2.2.1; have w4 := w.2.2.2; omega)]; exact r_QI; done) | (exfalso; omega; done) | (exfalso; contradiction; done)) (show (qIf (0 ≤ kk.toInt ∧ kk.toInt < (m 94 7).toInt ∧ zSl r1) (kMk aa kk ((m 97) kk.toNatClampNeg) LL r1) aa) 87 8 = (m 94 58) from by first | (rw [qIf_n (fun w => by have w1 := w.1; have w2 := w.2.1; have w3 := w.2.2.1; have w4 := w.2.2.2; omega)]; exact r_MK; done) | (exfalso; omega; done) | (exfalso; contradiction; done)) (show cV (qIf (0 ≤ kk.toInt ∧ kk.toInt < (m 94 7).toInt ∧ zSl r1) (kMk aa kk ((m 97) kk.toNatClampNeg) LL r1) aa) [] B from by first | (rw [qIf_n (fun w => by have w1 := w.1; have w2 := w.2.1; have w3 := w.2.2.1; have w4 := w.2.2.2; omega)]; exact r_VV; done) | (exfalso; omega; done) | (exfalso; contradiction; done)) (show qCt (m 105) (m 99) (m 100) (qIf (0 ≤ kk.toInt ∧ kk.toInt < (m 94 7).toInt ∧ zSl r1) (kMk aa kk ((m 97) kk.toNatClampNeg) LL r1) aa) [] (-1) (-1) from by first | (rw [qIf_n (fun w => by have w1 := w.1; have w2 := w.2.1; have w3 := w.2.2.1; have w4 := w.2.2.2; omega)]; exact r_CT; done) | (exfalso; omega; done) | (exfalso; contradiction; done)) r_WTS (show (m 94 58).toInt = 0 from by omega)
        · skip
          have g24 := i_nle h21
          refine zd (fun (h25 : (m 94 8) = (0 : Int32)) => ?_) (fun (h25 : ¬ (m 94 8) = (0 : Int32)) => ?_)
          · skip
            have g26 := i_eq h25
            exfalso; omega
          · skip
            have g27 := i_ne h25
            have hg28 : (0 ≤ kk ∧ kk.toNatClampNeg < 16) := i_ix (by omega) (by omega)
            refine ⟨hg28, ?_⟩
            first | have f29 : 0 ≤ (m 97 kk.toNatClampNeg).toInt ∧ (m 97 kk.toNatClampNeg).toInt ≤ 8 := ra_97 (m := m) hV (k := kk.toNatClampNeg) (i_ix (n := 16) (by omega) (by omega)).2 | have b30 := i_bd (m 97 kk.toNatClampNeg)
            have hV31 : zV (ma_u m 94 0 (0 : Int32)) := uf_94_0 hV
            refine sp_183r4 (LL := LL) (kk) ((m 97 kk.toNatClampNeg)) (r1) hV31 (by omega) (by omega) (by omega) (by omega) (by omega) (by omega) (by omega) (by omega) (by omega) (show 16 ≤ kk.toInt ∨ kk.toInt < (m 94 7).toInt from by omega) (by omega) r_W r_GW r_GU r_OW r_GG (show (m 94 10).toInt = 4 ∧ (m 94 58).toInt = 0 from by omega) (show (m 94 8).toInt = 1 from by omega) r_RB r_QI r_MK r_WTS r_VV r_CT (show ∀ j : Nat, (j : Int) < (m 97 kk.toNatClampNeg).toInt → (zbit LL (Int32.ofNat j) ≠ 0 ↔ (kk = 16 ∨ (kk < 16 ∧ (((m 98) kk.toNatClampNeg >>> (Int32.ofNat j &&& 31)) &&& 1) = 1))) from by first | (exact r_BT1 ⟨by omega, by omega⟩) | (exfalso; omega; done) | (exfalso; contradiction; done)) (fun v2 m1 hV_m1 p0_m1 p1_m1 p2_m1 p3_m1 p4_m1 p5_m1 p6_m1 p7_m1 p8_m1 p9_m1 p10_m1 p11_m1 p12_m1 => zmi_n ?_)
            have p0_m1 : zW (m 94 7) (m 98) (m1 101) (m1 102) (m1 108) := p0_m1
            have p1_m1 : zGW (T + 1) (m1 94 55) (m1 109) := p1_m1
            have p2_m1 : zGU (T + 1) (m1 94 46) (m1 99) := p2_m1
            have p3_m1 : zOw (m1 99) (m1 103) (m1 111) := p3_m1
            have p4_m1 : zGG (m1 94 58) (m1 94 56) (m1 94 57) (m1 106) := p4_m1
            have p5_m1 : qRB (m1 99) (m1 100) (m 98) (m1 101) (m1 102) (m1 103) (m1 107) (m1 108) (m1 109) (m1 111) (m1 112) (m1 113) (m1 114) (m1 94 55) (m1 94 46) (m 94 11) (m 94 12) (m1 94 62) (m 94 17) (m 94 9) (kMk aa kk (m 97 kk.toNatClampNeg) LL r1) := p5_m1
            have p6_m1 : qI (kMk aa kk (m 97 kk.toNatClampNeg) LL r1) := p6_m1
            have p7_m1 : (kMk aa kk (m 97 kk.toNatClampNeg) LL r1) 87 8 = (m1 94 58) := p7_m1
            have p8_m1 : cV (kMk aa kk (m 97 kk.toNatClampNeg) LL r1) [] B := p8_m1
            have p9_m1 : qCt (m1 105) (m1 99) (m1 100) (kMk aa kk (m 97 kk.toNatClampNeg) LL r1) [] (-1) (-1) := p9_m1
            have p10_m1 : (m1 94 45).toInt = sm (zbU (m1 99)) (m1 102) 3100 := p10_m1
            have p11_m1 : (m1 94 58).toInt = 0 := p11_m1
            have p12_m1 : v2 = sMn aa (m 97 kk.toNatClampNeg) := p12_m1
            have f32 : 0 ≤ (m1 94 58).toInt ∧ (m1 94 58).toInt ≤ 1 := rs_94_58 (m := (zov wr_183 (ma_u m 94 0 (0 : Int32)) m1)) hV_m1
            have b33 := i_bd v2
            exact K (v2) _ (zF_zov (zF_u zF_rfl rfl) ws_183_181) hV_m1 p0_m1 p1_m1 p2_m1 p3_m1 p4_m1 (show qRB (m1 99) (m1 100) (m 98) (m1 101) (m1 102) (m1 103) (m1 107) (m1 108) (m1 109) (m1 111) (m1 112) (m1 113) (m1 114) (m1 94 55) (m1 94 46) (m 94 11) (m 94 12) (m1 94 62) (m 94 17) (m 94 9) (qIf (0 ≤ kk.toInt ∧ kk.toInt < (m 94 7).toInt ∧ zSl r1) (kMk aa kk ((m 97) kk.toNatClampNeg) LL r1) aa) from by first | (rw [qIf_y ⟨by omega, by omega, by omega, by omega⟩]; exact p5_m1; done) | (exfalso; omega; done) | (exfalso; contradiction; done)) (show qI (qIf (0 ≤ kk.toInt ∧ kk.toInt < (m 94 7).toInt ∧ zSl r1) (kMk aa kk ((m 97) kk.toNatClampNeg) LL r1) aa) from by first | (rw [qIf_y ⟨by omega, by omega, by omega, by omega⟩]; exact p6_m1; done) | (exfalso; omega; done) | (exfalso; contradiction; done)) (show (qIf (0 ≤ kk.toInt ∧ kk.toInt < (m 94 7).toInt ∧ zSl r1) (kMk aa kk ((m 97) kk.toNatClampNeg) LL r1) aa) 87 8 = (m1 94 58) from by first | (rw [qIf_y ⟨by omega, by omega, by omega, by omega⟩]; exact p7_m1; done) | (exfalso; omega; done) | (exfalso; contradiction; done)) (show cV (qIf (0 ≤ kk.toInt ∧ kk.toInt < (m 94 7).toInt ∧ zSl r1) (kMk aa kk ((m 97) kk.toNatClampNeg) LL r1) aa) [] B from by first | (rw [qIf_y ⟨by omega, by omega, by omega, by omega⟩]; exact p8_m1; done) | (exfalso; omega; done) | (exfalso; contradiction; done)) (show qCt (m1 105) (m1 99) (m1 100) (qIf (0 ≤ kk.toInt ∧ kk.toInt < (m 94 7).toInt ∧ zSl r1) (kMk aa kk ((m 97) kk.toNatClampNeg) LL r1) aa) [] (-1) (-1) from by first | (rw [qIf_y ⟨by omega, by omega, by omega, by omega⟩]; exact p9_m1; done) | (exfalso; omega; done) | (exfalso; contradiction; done)) p10_m1 (show (m1 94 58).toInt = 0 from by omega)

/-! from 95.o18 -/
/-! the reference under COUNTS (written by wip/tools/gen20s.py) -/
set_option maxHeartbeats 8000000 in
theorem sp_243r4 {X : Nat × (Nat → Int32)} {P : Option ma_V → (Nat → Nat → Int32) → Prop} {T : Nat} {aa : Nat→Nat→Int32} {B : Int} {m : Nat → Nat → Int32} (rf : Int32) (nn : Int32) (r1 : Int32) (hV : zV m) (hpre0 : T + 1 ≤ 512) (hpre1 : 0 ≤ rf.toInt) (hpre2 : rf.toInt ≤ 1) (hpre3 : T ≤ 512) (hpre4 : 0 ≤ B) (hpre5 : B ≤ 1000000) (r_W : zW (m 94 7) (m 98) (m 101) (m 102) (m 108)) (r_GW : zGW T (m 94 55) (m 109)) (r_GU : zGU T (m 94 46) (m 99)) (r_OW : zOw (m 99) (m 103) (m 111)) (r_GG : zGG (m 94 58) (m 94 56) (m 94 57) (m 106)) (hpre11 : (m 94 10).toInt = 4 ∧ (m 94 58).toInt = 0) (hpre12 : (m 94 8).toInt = 1) (r_RB : qRB (m 99) (m 100) (m 98) (m 101) (m 102) (m 103) (m 107) (m 108) (m 109) (m 111) (m 112) (m 113) (m 114) (m 94 55) (m 94 46) (m 94 11) (m 94 12) (m 94 62) (m 94 17) (m 94 9) aa) (r_QI : qI aa) (r_MK : aa 87 8 = (m 94 58)) (r_WTS : (m 94 45).toInt = sm (zbU (m 99)) (m 102) 3100) (r_VV : cV aa [] B) (r_CT : qCt (m 105) (m 99) (m 100) aa [] (-1) (-1)) (KZ : ∀ v m₉, zV (zov wr_243 m m₉) → (zW (m 94 7) (m 98) (m₉ 101) (m₉ 102) (m₉ 108)) → (zGW (T + 1) (m₉ 94 55) (m₉ 109)) → (zGU (T + 1) (m₉ 94 46) (m₉ 99)) → (zOw (m₉ 99) (m₉ 103) (m₉ 111)) → (zGG (m₉ 94 58) (m₉ 94 56) (m₉ 94 57) (m₉ 106)) → (qRB (m₉ 99) (m₉ 100) (m 98) (m₉ 101) (m₉ 102) (m₉ 103) (m₉ 107) (m₉ 108) (m₉ 109) (m₉ 111) (m₉ 112) (m₉ 113) (m₉ 114) (m₉ 94 55) (m₉ 94 46) (m 94 11) (m 94 12) (m₉ 94 62) (m 94 17) (m 94 9) (qIf (0 ≤ nn.toInt ∧ nn.toInt ≤ 60 ∧ zSl r1) (if rf = 0 then kMk aa 17 nn 0 r1 else kMk aa 16 nn (-1) r1) aa)) → (qI (qIf (0 ≤ nn.toInt ∧ nn.toInt ≤ 60 ∧ zSl r1) (if rf = 0 then kMk aa 17 nn 0 r1 else kMk aa 16 nn (-1) r1) aa)) → ((qIf (0 ≤ nn.toInt ∧ nn.toInt ≤ 60 ∧ zSl r1) (if rf = 0 then kMk aa 17 nn 0 r1 else kMk aa 16 nn (-1) r1) aa) 87 8 = (m₉ 94 58)) → (cV (qIf (0 ≤ nn.toInt ∧ nn.toInt ≤ 60 ∧ zSl r1) (if rf = 0 then kMk aa 17 nn 0 r1 else kMk aa 16 nn (-1) r1) aa) [] B) → (qCt (m₉ 105) (m₉ 99) (m₉ 100) (qIf (0 ≤ nn.toInt ∧ nn.toInt ≤ 60 ∧ zSl r1) (if rf = 0 then kMk aa 17 nn 0 r1 else kMk aa 16 nn (-1) r1) aa) [] (-1) (-1)) → ((m₉ 94 45).toInt = sm (zbU (m₉ 99)) (m₉ 102) 3100) → ((m₉ 94 58).toInt = 0) → P (some (.inl v)) (zov wr_243 m m₉)) : zm X 10 224 243 0 [(0, .inr (.inr (some 94))), (1, .inl rf), (2, .inl nn), (3, .inl r1)] m P := by
  have K : ∀ v m₉, zF wr_243 m m₉ → zV m₉ → (zW (m₉ 94 7) (m₉ 98) (m₉ 101) (m₉ 102) (m₉ 108)) → (zGW (T + 1) (m₉ 94 55) (m₉ 109)) → (zGU (T + 1) (m₉ 94 46) (m₉ 99)) → (zOw (m₉ 99) (m₉ 103) (m₉ 111)) → (zGG (m₉ 94 58) (m₉ 94 56) (m₉ 94 57) (m₉ 106)) → (qRB (m₉ 99) (m₉ 100) (m₉ 98) (m₉ 101) (m₉ 102) (m₉ 103) (m₉ 107) (m₉ 108) (m₉ 109) (m₉ 111) (m₉ 112) (m₉ 113) (m₉ 114) (m₉ 94 55) (m₉ 94 46) (m₉ 94 11) (m₉ 94 12) (m₉ 94 62) (m₉ 94 17) (m₉ 94 9) (qIf (0 ≤ nn.toInt ∧ nn.toInt ≤ 60 ∧ zSl r1) (if rf = 0 then kMk aa 17 nn 0 r1 else kMk aa 16 nn (-1) r1) aa)) → (qI (qIf (0 ≤ nn.toInt ∧ nn.toInt ≤ 60 ∧ zSl r1) (if rf = 0 then kMk aa 17 nn 0 r1 else kMk aa 16 nn (-1) r1) aa)) → ((qIf (0 ≤ nn.toInt ∧ nn.toInt ≤ 60 ∧ zSl r1) (if rf = 0 then kMk aa 17 nn 0 r1 else kMk aa 16 nn (-1) r1) aa) 87 8 = (m₉ 94 58)) → (cV (qIf (0 ≤ nn.toInt ∧ nn.toInt ≤ 60 ∧ zSl r1) (if rf = 0 then kMk aa 17 nn 0 r1 else kMk aa 16 nn (-1) r1) aa) [] B) → (qCt (m₉ 105) (m₉ 99) (m₉ 100) (qIf (0 ≤ nn.toInt ∧ nn.toInt ≤ 60 ∧ zSl r1) (if rf = 0 then kMk aa 17 nn 0 r1 else kMk aa 16 nn (-1) r1) aa) [] (-1) (-1)) → ((m₉ 94 45).toInt = sm (zbU (m₉ 99)) (m₉ 102) 3100) → ((m₉ 94 58).toInt = 0) → P (some (.inl v)) m₉ := by
    intro v m₉ hf z q0 q1 q2 q3 q4 q5 q6 q7 q8 q9 q10 q11
    have e := zov_eq hf
    rw [e] at z ⊢
    try rw [e] at q0
    try rw [e] at q1
    try rw [e] at q2
    try rw [e] at q3
    try rw [e] at q4
    try rw [e] at q5
    try rw [e] at q6
    try rw [e] at q7
    try rw [e] at q8
    try rw [e] at q9
    try rw [e] at q10
    try rw [e] at q11
    exact KZ v m₉ z q0 q1 q2 q3 q4 q5 q6 q7 q8 q9 q10 q11
  refine g_243_0 rf nn r1 ?_
  have f1 : 0 ≤ (m 94 10).toInt ∧ (m 94 10).toInt ≤ 6 := rs_94_10 (m := m) hV
  have f2 : 0 ≤ (m 94 58).toInt ∧ (m 94 58).toInt ≤ 1 := rs_94_58 (m := m) hV
  have f3 : 0 ≤ (m 94 8).toInt ∧ (m 94 8).toInt ≤ 1 := rs_94_8 (m := m) hV
  have b4 := i_bd nn
  have li5 : (0 : Int32).toInt = 0 := rfl
  refine zd (fun (h6 : nn < (0 : Int32)) => ?_) (fun (h6 : ¬ nn < (0 : Int32)) => ?_)
  · skip
    have g7 := i_lt h6
    have hV8 : zV (ma_u m 94 0 (1 : Int32)) := uf_94_0 hV
    exact K ((0 : Int32)) _ (zF_u zF_rfl rfl) hV8 r_W (show zGW (T + 1) (m 94 55) (m 109) from by first | (exact GW_up r_GW (by omega)) | (exfalso; omega; done) | (exfalso; contradiction; done)) (show zGU (T + 1) (m 94 46) (m 99) from by first | (exact GU_up r_GU (by omega)) | (exact GU_0 r_GU) | (exfalso; omega; done) | (exfalso; contradiction; done)) r_OW r_GG (show qRB (m 99) (m 100) (m 98) (m 101) (m 102) (m 103) (m 107) (m 108) (m 109) (m 111) (m 112) (m 113) (m 114) (m 94 55) (m 94 46) (m 94 11) (m 94 12) (m 94 62) (m 94 17) (m 94 9) (qIf (0 ≤ nn.toInt ∧ nn.toInt ≤ 60 ∧ zSl r1) (if rf = 0 then kMk aa 17 nn 0 r1 else kMk aa 16 nn (-1) r1) aa) from by first | (rw [qIf_n (fun w => by have w1 := w.1; have w2 := w.2.1; have w3 := w.2.2.1; have w4 := w.2.2.2; omega)]; exact r_RB; done) | (exfalso; omega; done) | (exfalso; contradiction; done)) (show qI (qIf (0 ≤ nn.toInt ∧ nn.toInt ≤ 60 ∧ zSl r1) (if rf = 0 then kMk aa 17 nn 0 r1 else kMk aa 16 nn (-1) r1) aa) from by first | (rw [qIf_n (fun w => by have w1 := w.1; have w2 := w.2.1; have w3 := w.2.2.1; have w4 := w.2.2.2; omega)]; exact r_QI; done) | (exfalso; omega; done) | (exfalso; contradiction; done)) (show (qIf (0 ≤ nn.toInt ∧ nn.toInt ≤ 60 ∧ zSl r1) (if rf = 0 then kMk aa 17 nn 0 r1 else kMk aa 16 nn (-1) r1) aa) 87 8 = (m 94 58) from by first | (rw [qIf_n (fun w => by have w1 := w.1; have w2 := w.2.1; have w3 := w.2.2.1; have w4 := w.2.2.2; omega)]; exact r_MK; done) | (exfalso; omega; done) | (exfalso; contradiction; done)) (show cV (qIf (0 ≤ nn.toInt ∧ nn.toInt ≤ 60 ∧ zSl r1) (if rf = 0 then kMk aa 17 nn 0 r1 else kMk aa 16 nn (-1) r1) aa) [] B from by first | (rw [qIf_n (fun w => by have w1 := w.1; have w2 := w.2.1; have w3 := w.2.2.1; have w4 := w.2.2.2; omega)]; exact r_VV; done) | (exfalso; omega; done) | (exfalso; contradiction; done)) (show qCt (m 105) (m 99) (m 100) (qIf (0 ≤ nn.toInt ∧ nn.toInt ≤ 60 ∧ zSl r1) (if rf = 0 then kMk aa 17 nn 0 r1 else kMk aa 16 nn (-1) r1) aa) [] (-1) (-1) from by first | (rw [qIf_n (fun w => by have w1 := w.1; have w2 := w.2.1; have w3 := w.2.2.1; have w4 := w.2.2.2; omega)]; exact r_CT; done) | (exfalso; omega; done) | (exfalso; contradiction; done)) r_WTS (show (m 94 58).toInt = 0 from by omega)
  · skip
    have g9 := i_nlt h6
    have li10 : (60 : Int32).toInt = 60 := rfl
    refine zd (fun (h11 : (60 : Int32) < nn) => ?_) (fun (h11 : ¬ (60 : Int32) < nn) => ?_)
    · skip
      have g12 := i_lt h11
      have hV13 : zV (ma_u m 94 0 (1 : Int32)) := uf_94_0 hV
      exact K ((0 : Int32)) _ (zF_u zF_rfl rfl) hV13 r_W (show zGW (T + 1) (m 94 55) (m 109) from by first | (exact GW_up r_GW (by omega)) | (exfalso; omega; done) | (exfalso; contradiction; done)) (show zGU (T + 1) (m 94 46) (m 99) from by first | (exact GU_up r_GU (by omega)) | (exact GU_0 r_GU) | (exfalso; omega; done) | (exfalso; contradiction; done)) r_OW r_GG (show qRB (m 99) (m 100) (m 98) (m 101) (m 102) (m 103) (m 107) (m 108) (m 109) (m 111) (m 112) (m 113) (m 114) (m 94 55) (m 94 46) (m 94 11) (m 94 12) (m 94 62) (m 94 17) (m 94 9) (qIf (0 ≤ nn.toInt ∧ nn.toInt ≤ 60 ∧ zSl r1) (if rf = 0 then kMk aa 17 nn 0 r1 else kMk aa 16 nn (-1) r1) aa) from by first | (rw [qIf_n (fun w => by have w1 := w.1; have w2 := w.2.1; have w3 := w.2.2.1; have w4 := w.2.2.2; omega)]; exact r_RB; done) | (exfalso; omega; done) | (exfalso; contradiction; done)) (show qI (qIf (0 ≤ nn.toInt ∧ nn.toInt ≤ 60 ∧ zSl r1) (if rf = 0 then kMk aa 17 nn 0 r1 else kMk aa 16 nn (-1) r1) aa) from by first | (rw [qIf_n (fun w => by have w1 := w.1; have w2 := w.2.1; have w3 := w.2.2.1; have w4 := w.2.2.2; omega)]; exact r_QI; done) | (exfalso; omega; done) | (exfalso; contradiction; done)) (show (qIf (0 ≤ nn.toInt ∧ nn.toInt ≤ 60 ∧ zSl r1) (if rf = 0 then kMk aa 17 nn 0 r1 else kMk aa 16 nn (-1) r1) aa) 87 8 = (m 94 58) from by first | (rw [qIf_n (fun w => by have w1 := w.1; have w2 := w.2.1; have w3 := w.2.2.1; have w4 := w.2.2.2; omega)]; exact r_MK; done) | (exfalso; omega; done) | (exfalso; contradiction; done)) (show cV (qIf (0 ≤ nn.toInt ∧ nn.toInt ≤ 60 ∧ zSl r1) (if rf = 0 then kMk aa 17 nn 0 r1 else kMk aa 16 nn (-1) r1) aa) [] B from by first | (rw [qIf_n (fun w => by have w1 := w.1; have w2 := w.2.1; have w3 := w.2.2.1; have w4 := w.2.2.2; omega)]; exact r_VV; done) | (exfalso; omega; done) | (exfalso; contradiction; done)) (show qCt (m 105) (m 99) (m 100) (qIf (0 ≤ nn.toInt ∧ nn.toInt ≤ 60 ∧ zSl r1) (if rf = 0 then kMk aa 17 nn 0 r1 else kMk aa 16 nn (-1) r1) aa) [] (-1) (-1) from by first | (rw [qIf_n (fun w => by have w1 := w.1; have w2 := w.2.1; have w3 := w.2.2.1; have w4 := w.2.2.2; omega)]; exact r_CT; done) | (exfalso; omega; done) | (exfalso; contradiction; done)) r_WTS (show (m 94 58).toInt = 0 from by omega)
    · skip
      have g14 := i_nlt h11
      have b15 := i_bd r1
      refine zd (fun (h16 : r1 < (0 : Int32)) => ?_) (fun (h16 : ¬ r1 < (0 : Int32)) => ?_)
      · skip
        have g17 := i_lt h16
        have hV18 : zV (ma_u m 94 0 (1 : Int32)) := uf_94_0 hV
        exact K ((0 : Int32)) _ (zF_u zF_rfl rfl) hV18 r_W (show zGW (T + 1) (m 94 55) (m 109) from by first | (exact GW_up r_GW (by omega)) | (exfalso; omega; done) | (exfalso; contradiction; done)) (show zGU (T + 1) (m 94 46) (m 99) from by first | (exact GU_up r_GU (by omega)) | (exact GU_0 r_GU) | (exfalso; omega; done) | (exfalso; contradiction; done)) r_OW r_GG (show qRB (m 99) (m 100) (m 98) (m 101) (m 102) (m 103) (m 107) (m 108) (m 109) (m 111) (m 112) (m 113) (m 114) (m 94 55) (m 94 46) (m 94 11) (m 94 12) (m 94 62) (m 94 17) (m 94 9) (qIf (0 ≤ nn.toInt ∧ nn.toInt ≤ 60 ∧ zSl r1) (if rf = 0 then kMk aa 17 nn 0 r1 else kMk aa 16 nn (-1) r1) aa) from by first | (rw [qIf_n (fun w => by have w1 := w.1; have w2 := w.2.1; have w3 := w.2.2.1; have w4 := w.2.2.2; omega)]; exact r_RB; done) | (exfalso; omega; done) | (exfalso; contradiction; done)) (show qI (qIf (0 ≤ nn.toInt ∧ nn.toInt ≤ 60 ∧ zSl r1) (if rf = 0 then kMk aa 17 nn 0 r1 else kMk aa 16 nn (-1) r1) aa) from by first | (rw [qIf_n (fun w => by have w1 := w.1; have w2 := w.2.1; have w3 := w.2.2.1; have w4 := w.2.2.2; omega)]; exact r_QI; done) | (exfalso; omega; done) | (exfalso; contradiction; done)) (show (qIf (0 ≤ nn.toInt ∧ nn.toInt ≤ 60 ∧ zSl r1) (if rf = 0 then kMk aa 17 nn 0 r1 else kMk aa 16 nn (-1) r1) aa) 87 8 = (m 94 58) from by first | (rw [qIf_n (fun w => by have w1 := w.1; have w2 := w.2.1; have w3 := w.2.2.1; have w4 := w.2.2.2; omega)]; exact r_MK; done) | (exfalso; omega; done) | (exfalso; contradiction; done)) (show cV (qIf (0 ≤ nn.toInt ∧ nn.toInt ≤ 60 ∧ zSl r1) (if rf = 0 then kMk aa 17 nn 0 r1 else kMk aa 16 nn (-1) r1) aa) [] B from by first | (rw [qIf_n (fun w => by have w1 := w.1; have w2 := w.2.1; have w3 := w.2.2.1; have w4 := w.2.2.2; omega)]; exact r_VV; done) | (exfalso; omega; done) | (exfalso; contradiction; done)) (show qCt (m 105) (m 99) (m 100) (qIf (0 ≤ nn.toInt ∧ nn.toInt ≤ 60 ∧ zSl r1) (if rf = 0 then kMk aa 17 nn 0 r1 else kMk aa 16 nn (-1) r1) aa) [] (-1) (-1) from by first | (rw [qIf_n (fun w => by have w1 := w.1; have w2 := w.2.1; have w3 := w.2.2.1; have w4 := w.2.2.2; omega)]; exact r_CT; done) | (exfalso; omega; done) | (exfalso; contradiction; done)) r_WTS (show (m 94 58).toInt = 0 from by omega)
      · skip
        have g19 := i_nlt h16
        have li20 : (16 : Int32).toInt = 16 := rfl
        refine zd (fun (h21 : (16 : Int32) ≤ r1) => ?_) (fun (h21 : ¬ (16 : Int32) ≤ r1) => ?_)
        · skip
          have g22 := i_le h21
          have hV23 : zV (ma_u m 94 0 (1 : Int32)) := uf_94_0 hV
          exact K ((0 : Int32)) _ (zF_u zF_rfl rfl) hV23 r_W (show zGW (T + 1) (m 94 55) (m 109) from by first | (exact GW_up r_GW (by omega)) | (exfalso; omega; done) | (exfalso; contradiction; done)) (show zGU (T + 1) (m 94 46) (m 99) from by first | (exact GU_up r_GU (by omega)) | (exact GU_0 r_GU) | (exfalso; omega; done) | (exfalso; contradiction; done)) r_OW r_GG (show qRB (m 99) (m 100) (m 98) (m 101) (m 102) (m 103) (m 107) (m 108) (m 109) (m 111) (m 112) (m 113) (m 114) (m 94 55) (m 94 46) (m 94 11) (m 94 12) (m 94 62) (m 94 17) (m 94 9) (qIf (0 ≤ nn.toInt ∧ nn.toInt ≤ 60 ∧ zSl r1) (if rf = 0 then kMk aa 17 nn 0 r1 else kMk aa 16 nn (-1) r1) aa) from by first | (rw [qIf_n (fun w => by have w1 := w.1; have w2 := w.2.1; have w3 := w.2.2.1; have w4 := w.2.2.2; omega)]; exact r_RB; done) | (exfalso; omega; done) | (exfalso; contradiction; done)) (show qI (qIf (0 ≤ nn.toInt ∧ nn.toInt ≤ 60 ∧ zSl r1) (if rf = 0 then kMk aa 17 nn 0 r1 else kMk aa 16 nn (-1) r1) aa) from by first | (rw [qIf_n (fun w => by have w1 := w.1; have w2 := w.2.1; have w3 := w.2.2.1; have w4 := w.2.2.2; omega)]; exact r_QI; done) | (exfalso; omega; done) | (exfalso; contradiction; done)) (show (qIf (0 ≤ nn.toInt ∧ nn.toInt ≤ 60 ∧ zSl r1) (if rf = 0 then kMk aa 17 nn 0 r1 else kMk aa 16 nn (-1) r1) aa) 87 8 = (m 94 58) from by first | (rw [qIf_n (fun w => by have w1 := w.1; have w2 := w.2.1; have w3 := w.2.2.1; have w4 := w.2.2.2; omega)]; exact r_MK; done) | (exfalso; omega; done) | (exfalso; contradiction; done)) (show cV (qIf (0 ≤ nn.toInt ∧ nn.toInt ≤ 60 ∧ zSl r1) (if rf = 0 then kMk aa 17 nn 0 r1 else kMk aa 16 nn (-1) r1) aa) [] B from by first | (rw [qIf_n (fun w => by have w1 := w.1; have w2 := w.2.1; have w3 := w.2.2.1; have w4 := w.2.2.2; omega)]; exact r_VV; done) | (exfalso; omega; done) | (exfalso; contradiction; done)) (show qCt (m 105) (m 99) (m 100) (qIf (0 ≤ nn.toInt ∧ nn.toInt ≤ 60 ∧ zSl r1) (if rf = 0 then kMk aa 17 nn 0 r1 else kMk aa 16 nn (-1) r1) aa) [] (-1) (-1) from by first | (rw [qIf_n (fun w => by have w1 := w.1; have w2 := w.2.1; have w3 := w.2.2.1; have w4 := w.2.2.2; omega)]; exact r_CT; done) | (exfalso; omega; done) | (exfalso; contradiction; done)) r_WTS (show (m 94 58).toInt = 0 from by omega)
        · skip
          have g24 := i_nle h21
          refine zd (fun (h25 : (m 94 8) = (0 : Int32)) => ?_) (fun (h25 : ¬ (m 94 8) = (0 : Int32)) => ?_)
          · skip
            have g26 := i_eq h25
            exfalso; omega
          · skip
            have g27 := i_ne h25
            have b28 := i_bd rf
            refine zd (fun (h29 : rf = (0 : Int32)) => ?_) (fun (h29 : ¬ rf = (0 : Int32)) => ?_)
            · skip
              have g30 := i_eq h29
              have li31 : (17 : Int32).toInt = 17 := rfl
              have hV32 : zV (ma_u m 94 0 (0 : Int32)) := uf_94_0 hV
              have f33 : 0 ≤ (m 94 7).toInt ∧ (m 94 7).toInt ≤ 16 := rs_94_7 (m := m) hV
              refine sp_183r4 (LL := (0 : Int64)) ((17 : Int32)) (nn) (r1) hV32 (by omega) (by omega) (by omega) (by omega) (by omega) (by omega) (by omega) (by omega) (by omega) (show 16 ≤ (17 : Int32).toInt ∨ (17 : Int32).toInt < (m 94 7).toInt from by omega) (by omega) r_W r_GW r_GU r_OW r_GG (show (m 94 10).toInt = 4 ∧ (m 94 58).toInt = 0 from by omega) (show (m 94 8).toInt = 1 from by omega) r_RB r_QI r_MK r_WTS r_VV r_CT (show ∀ j : Nat, (j : Int) < nn.toInt → (zbit (0 : Int64) (Int32.ofNat j) ≠ 0 ↔ ((17 : Int32) = 16 ∨ ((17 : Int32) < 16 ∧ (((m 98) (17 : Int32).toNatClampNeg >>> (Int32.ofNat j &&& 31)) &&& 1) = 1))) from by first | (exact fun j hj => ⟨fun _ => Or.inl rfl, fun _ => zb_all j (by omega)⟩) | (exact fun j hj => ⟨fun w => absurd (zb_non j (by omega)) w, fun w => w.elim (fun z => absurd z (by decide)) (fun z => absurd z.1 (by decide))⟩) | (exfalso; omega; done) | (exfalso; contradiction; done)) (fun v2 m1 hV_m1 p0_m1 p1_m1 p2_m1 p3_m1 p4_m1 p5_m1 p6_m1 p7_m1 p8_m1 p9_m1 p10_m1 p11_m1 p12_m1 => zmi_n ?_)
              have p0_m1 : zW (m 94 7) (m 98) (m1 101) (m1 102) (m1 108) := p0_m1
              have p1_m1 : zGW (T + 1) (m1 94 55) (m1 109) := p1_m1
              have p2_m1 : zGU (T + 1) (m1 94 46) (m1 99) := p2_m1
              have p3_m1 : zOw (m1 99) (m1 103) (m1 111) := p3_m1
              have p4_m1 : zGG (m1 94 58) (m1 94 56) (m1 94 57) (m1 106) := p4_m1
              have p5_m1 : qRB (m1 99) (m1 100) (m 98) (m1 101) (m1 102) (m1 103) (m1 107) (m1 108) (m1 109) (m1 111) (m1 112) (m1 113) (m1 114) (m1 94 55) (m1 94 46) (m 94 11) (m 94 12) (m1 94 62) (m 94 17) (m 94 9) (kMk aa (17 : Int32) nn (0 : Int64) r1) := p5_m1
              have p6_m1 : qI (kMk aa (17 : Int32) nn (0 : Int64) r1) := p6_m1
              have p7_m1 : (kMk aa (17 : Int32) nn (0 : Int64) r1) 87 8 = (m1 94 58) := p7_m1
              have p8_m1 : cV (kMk aa (17 : Int32) nn (0 : Int64) r1) [] B := p8_m1
              have p9_m1 : qCt (m1 105) (m1 99) (m1 100) (kMk aa (17 : Int32) nn (0 : Int64) r1) [] (-1) (-1) := p9_m1
              have p10_m1 : (m1 94 45).toInt = sm (zbU (m1 99)) (m1 102) 3100 := p10_m1
              have p11_m1 : (m1 94 58).toInt = 0 := p11_m1
              have p12_m1 : v2 = sMn aa nn := p12_m1
              have f34 : 0 ≤ (m1 94 58).toInt ∧ (m1 94 58).toInt ≤ 1 := rs_94_58 (m := (zov wr_183 (ma_u m 94 0 (0 : Int32)) m1)) hV_m1
              have b35 := i_bd v2
              exact K (v2) _ (zF_zov (zF_u zF_rfl rfl) ws_183_243) hV_m1 p0_m1 p1_m1 p2_m1 p3_m1 p4_m1 (show qRB (m1 99) (m1 100) (m 98) (m1 101) (m1 102) (m1 103) (m1 107) (m1 108) (m1 109) (m1 111) (m1 112) (m1 113) (m1 114) (m1 94 55) (m1 94 46) (m 94 11) (m 94 12) (m1 94 62) (m 94 17) (m 94 9) (qIf (0 ≤ nn.toInt ∧ nn.toInt ≤ 60 ∧ zSl r1) (if rf = 0 then kMk aa 17 nn 0 r1 else kMk aa 16 nn (-1) r1) aa) from by first | (rw [qIf_y ⟨by omega, by omega, by omega, by omega⟩, if_pos (i_zer (by omega))]; exact p5_m1; done) | (exfalso; omega; done) | (exfalso; contradiction; done)) (show qI (qIf (0 ≤ nn.toInt ∧ nn.toInt ≤ 60 ∧ zSl r1) (if rf = 0 then kMk aa 17 nn 0 r1 else kMk aa 16 nn (-1) r1) aa) from by first | (rw [qIf_y ⟨by omega, by omega, by omega, by omega⟩, if_pos (i_zer (by omega))]; exact p6_m1; done) | (exfalso; omega; done) | (exfalso; contradiction; done)) (show (qIf (0 ≤ nn.toInt ∧ nn.toInt ≤ 60 ∧ zSl r1) (if rf = 0 then kMk aa 17 nn 0 r1 else kMk aa 16 nn (-1) r1) aa) 87 8 = (m1 94 58) from by first | (rw [qIf_y ⟨by omega, by omega, by omega, by omega⟩, if_pos (i_zer (by omega))]; exact p7_m1; done) | (exfalso; omega; done) | (exfalso; contradiction; done)) (show cV (qIf (0 ≤ nn.toInt ∧ nn.toInt ≤ 60 ∧ zSl r1) (if rf = 0 then kMk aa 17 nn 0 r1 else kMk aa 16 nn (-1) r1) aa) [] B from by first | (rw [qIf_y ⟨by omega, by omega, by omega, by omega⟩, if_pos (i_zer (by omega))]; exact p8_m1; done) | (exfalso; omega; done) | (exfalso; contradiction; done)) (show qCt (m1 105) (m1 99) (m1 100) (qIf (0 ≤ nn.toInt ∧ nn.toInt ≤ 60 ∧ zSl r1) (if rf = 0 then kMk aa 17 nn 0 r1 else kMk aa 16 nn (-1) r1) aa) [] (-1) (-1) from by first | (rw [qIf_y ⟨by omega, by omega, by omega, by omega⟩, if_pos (i_zer (by omega))]; exact p9_m1; done) | (exfalso; omega; done) | (exfalso; contradiction; done)) p10_m1 (show (m1 94 58).toInt = 0 from by omega)
            · skip
              have g36 := i_ne h29
              have hV37 : zV (ma_u m 94 0 (0 : Int32)) := uf_94_0 hV
              have f38 : 0 ≤ (m 94 7).toInt ∧ (m 94 7).toInt ≤ 16 := rs_94_7 (m := m) hV
              refine sp_183r4 (LL := (-1 : Int64)) ((16 : Int32)) (nn) (r1) hV37 (by omega) (by omega) (by omega) (by omega) (by omega) (by omega) (by omega) (by omega) (by omega) (show 16 ≤ (16 : Int32).toInt ∨ (16 : Int32).toInt < (m 94 7).toInt from by omega) (by omega) r_W r_GW r_GU r_OW r_GG (show (m 94 10).toInt = 4 ∧ (m 94 58).toInt = 0 from by omega) (show (m 94 8).toInt = 1 from by omega) r_RB r_QI r_MK r_WTS r_VV r_CT (show ∀ j : Nat, (j : Int) < nn.toInt → (zbit (-1 : Int64) (Int32.ofNat j) ≠ 0 ↔ ((16 : Int32) = 16 ∨ ((16 : Int32) < 16 ∧ (((m 98) (16 : Int32).toNatClampNeg >>> (Int32.ofNat j &&& 31)) &&& 1) = 1))) from by first | (exact fun j hj => ⟨fun _ => Or.inl rfl, fun _ => zb_all j (by omega)⟩) | (exact fun j hj => ⟨fun w => absurd (zb_non j (by omega)) w, fun w => w.elim (fun z => absurd z (by decide)) (fun z => absurd z.1 (by decide))⟩) | (exfalso; omega; done) | (exfalso; contradiction; done)) (fun v4 m3 hV_m3 p0_m3 p1_m3 p2_m3 p3_m3 p4_m3 p5_m3 p6_m3 p7_m3 p8_m3 p9_m3 p10_m3 p11_m3 p12_m3 => zmi_n ?_)
              have p0_m3 : zW (m 94 7) (m 98) (m3 101) (m3 102) (m3 108) := p0_m3
              have p1_m3 : zGW (T + 1) (m3 94 55) (m3 109) := p1_m3
              have p2_m3 : zGU (T + 1) (m3 94 46) (m3 99) := p2_m3
              have p3_m3 : zOw (m3 99) (m3 103) (m3 111) := p3_m3
              have p4_m3 : zGG (m3 94 58) (m3 94 56) (m3 94 57) (m3 106) := p4_m3
              have p5_m3 : qRB (m3 99) (m3 100) (m 98) (m3 101) (m3 102) (m3 103) (m3 107) (m3 108) (m3 109) (m3 111) (m3 112) (m3 113) (m3 114) (m3 94 55) (m3 94 46) (m 94 11) (m 94 12) (m3 94 62) (m 94 17) (m 94 9) (kMk aa (16 : Int32) nn (-1 : Int64) r1) := p5_m3
              have p6_m3 : qI (kMk aa (16 : Int32) nn (-1 : Int64) r1) := p6_m3
              have p7_m3 : (kMk aa (16 : Int32) nn (-1 : Int64) r1) 87 8 = (m3 94 58) := p7_m3
              have p8_m3 : cV (kMk aa (16 : Int32) nn (-1 : Int64) r1) [] B := p8_m3
              have p9_m3 : qCt (m3 105) (m3 99) (m3 100) (kMk aa (16 : Int32) nn (-1 : Int64) r1) [] (-1) (-1) := p9_m3
              have p10_m3 : (m3 94 45).toInt = sm (zbU (m3 99)) (m3 102) 3100 := p10_m3
              have p11_m3 : (m3 94 58).toInt = 0 := p11_m3
              have p12_m3 : v4 = sMn aa nn := p12_m3
              have f39 : 0 ≤ (m3 94 58).toInt ∧ (m3 94 58).toInt ≤ 1 := rs_94_58 (m := (zov wr_183 (ma_u m 94 0 (0 : Int32)) m3)) hV_m3
              have b40 := i_bd v4
              exact K (v4) _ (zF_zov (zF_u zF_rfl rfl) ws_183_243) hV_m3 p0_m3 p1_m3 p2_m3 p3_m3 p4_m3 (show qRB (m3 99) (m3 100) (m 98) (m3 101) (m3 102) (m3 103) (m3 107) (m3 108) (m3 109) (m3 111) (m3 112) (m3 113) (m3 114) (m3 94 55) (m3 94 46) (m 94 11) (m 94 12) (m3 94 62) (m 94 17) (m 94 9) (qIf (0 ≤ nn.toInt ∧ nn.toInt ≤ 60 ∧ zSl r1) (if rf = 0 then kMk aa 17 nn 0 r1 else kMk aa 16 nn (-1) r1) aa) from by first | (rw [qIf_y ⟨by omega, by omega, by omega, by omega⟩, if_neg (i_nz2 (by omega))]; exact p5_m3; done) | (exfalso; omega; done) | (exfalso; contradiction; done)) (show qI (qIf (0 ≤ nn.toInt ∧ nn.toInt ≤ 60 ∧ zSl r1) (if rf = 0 then kMk aa 17 nn 0 r1 else kMk aa 16 nn (-1) r1) aa) from by first | (rw [qIf_y ⟨by omega, by omega, by omega, by omega⟩, if_neg (i_nz2 (by omega))]; exact p6_m3; done) | (exfalso; omega; done) | (exfalso; contradiction; done)) (show (qIf (0 ≤ nn.toInt ∧ nn.toInt ≤ 60 ∧ zSl r1) (if rf = 0 then kMk aa 17 nn 0 r1 else kMk aa 16 nn (-1) r1) aa) 87 8 = (m3 94 58) from by first | (rw [qIf_y ⟨by omega, by omega, by omega, by omega⟩, if_neg (i_nz2 (by omega))]; exact p7_m3; done) | (exfalso; omega; done) | (exfalso; contradiction; done)) (show cV (qIf (0 ≤ nn.toInt ∧ nn.toInt ≤ 60 ∧ zSl r1) (if rf = 0 then kMk aa 17 nn 0 r1 else kMk aa 16 nn (-1) r1) aa) [] B from by first | (rw [qIf_y ⟨by omega, by omega, by omega, by omega⟩, if_neg (i_nz2 (by omega))]; exact p8_m3; done) | (exfalso; omega; done) | (exfalso; contradiction; done)) (show qCt (m3 105) (m3 99) (m3 100) (qIf (0 ≤ nn.toInt ∧ nn.toInt ≤ 60 ∧ zSl r1) (if rf = 0 then kMk aa 17 nn 0 r1 else kMk aa 16 nn (-1) r1) aa) [] (-1) (-1) from by first | (rw [qIf_y ⟨by omega, by omega, by omega, by omega⟩, if_neg (i_nz2 (by omega))]; exact p9_m3; done) | (exfalso; omega; done) | (exfalso; contradiction; done)) p10_m3 (show (m3 94 58).toInt = 0 from by omega)

/-! from 95.o19 -/
/-! the reference under COUNTS (written by wip/tools/gen20s.py) -/
theorem jq_cg4 {t t₉ : Nat → Int32} {n K ro fo ra : Int} {pi : Int32} (h : K = qPo t n ∧ (K = 5 → qV t n ro fo ra pi) ∧ ((K = 0 ∨ K = 4) → ro = zVal t n 0 1 ∧ fo = zVal t n 6 2)) (hs : ∀ k : Nat, (k : Int) < n → t k = t₉ k) (hn : 0 ≤ n) (h3 : n ≤ 100) : K = qPo t₉ n ∧ (K = 5 → qV t₉ n ro fo ra pi) ∧ ((K = 0 ∨ K = 4) → ro = zVal t₉ n 0 1 ∧ fo = zVal t₉ n 6 2) := ⟨by rw [← qPo_cg hs hn h3]; exact h.1, fun w => qV_cg hs hn h3 (h.2.1 w), fun w => by have q := h.2.2 w; rw [zVal_cg hs hn h3, zVal_cg (c := 6) hs hn h3] at q; exact q⟩

/-! from 95.o22 -/
/-! the reference under COUNTS (written by wip/tools/gen20s.py) -/
theorem lp_259w_85 {X : Nat × (Nat → Int32)} {P : Option ma_V → (Nat → Nat → Int32) → Prop} {T : Nat} {ix : Int32} {pa : Int32} {m0 : Nat → Nat → Int32} (h0 : zV m0) (K : ∀ v m₉, zF wr_259 m0 m₉ → zV m₉ → (zW (m₉ 94 7) (m₉ 98) (m₉ 101) (m₉ 102) (m₉ 108)) → (zGW T (m₉ 94 55) (m₉ 109)) → (zGU T (m₉ 94 46) (m₉ 99)) → (zOw (m₉ 99) (m₉ 103) (m₉ 111)) → (zDX (m₉ 94 10) (m₉ 99) (m₉ 112) (m₉ 113) (m₉ 114) (m₉ 94 55) (m₉ 98) (m₉ 101) (m₉ 102) (m₉ 108)) → (zGG (m₉ 94 58) (m₉ 94 56) (m₉ 94 57) (m₉ 106)) → (zHA (m₉ 94 10) (m₉ 94 11) (m₉ 94 13) (m₉ 94 14) (m₉ 94 16) (m₉ 94 61) (m₉ 94 59) (m₉ 94 60) (m₉ 99) (m₉ 102) (m₉ 103) (m₉ 111) (m₉ 117) (m₉ 98) (m₉ 101) (m₉ 108)) → (zRG (m₉ 94 10) (m₉ 94 18) (m₉ 94 64) (m₉ 94 63) (m₉ 99) (m₉ 103) (m₉ 102) (m₉ 116)) → ((m₉ 94 58).toInt = 0 ∨ (m₉ 94 10).toInt = 5) → (((pa.toInt < 0 ∨ 1 < pa.toInt) ∧ (m₉ 94 0).toInt = 1) ∨ ((0 ≤ pa.toInt ∧ pa.toInt ≤ 1) ∧ (m₉ 94 0).toInt = 3)) → P (some (.inl v)) m₉) : ∀ (n : Nat) (m : Nat → Nat → Int32) (l1 : Int32) (l2 : Int32) (l4 : Int32) (l5 : Int32), ((0 : Int)).toNat = n → zF wr_259 m0 m → zV m → ((0 : Int) = 1) → zm X 2 45 259 85 [(0, .inr (.inr (some 94))), (1, .inl l1), (2, .inl l2), (4, .inl l4), (5, .inl l5)] m P := by
  intro n
  induction n using Nat.strongRecOn with
  | _ n IH =>
    intro m l1 l2 l4 l5 hmu hF hV hi0
    refine g_259_85 l1 l2 l4 l5 ?_
    have b1 := i_bd l1
    have b2 := i_bd l5
    refine zd (fun (h3 : l1 ≤ l5) => ?_) (fun (h3 : ¬ l1 ≤ l5) => ?_)
    · skip
      have g4 := i_le h3
      have li5 : (0 : Int32).toInt = 0 := rfl
      refine zd (fun (h6 : l1 < (0 : Int32)) => ?_) (fun (h6 : ¬ l1 < (0 : Int32)) => ?_)
      · skip
        have g7 := i_lt h6
        have hV8 : zV (ma_u m 94 0 (4 : Int32)) := uf_94_0 hV
        have f9 : 0 ≤ (m 94 58).toInt ∧ (m 94 58).toInt ≤ 1 := rs_94_58 (m := m) hV
        have f10 : 0 ≤ (m 94 10).toInt ∧ (m 94 10).toInt ≤ 6 := rs_94_10 (m := m) hV
        have li11 : (4 : Int32).toInt = 4 := rfl
        exact K ((0 : Int32)) _ (zF_u hF rfl) hV8 (show zW (m 94 7) (m 98) (m 101) (m 102) (m 108) from by first | (exfalso; omega; done) | (exfalso; contradiction; done)) (show zGW T (m 94 55) (m 109) from by first | (exfalso; omega; done) | (exfalso; contradiction; done)) (show zGU T (m 94 46) (m 99) from by first | (exfalso; omega; done) | (exfalso; contradiction; done)) (show zOw (m 99) (m 103) (m 111) from by first | (exfalso; omega; done) | (exfalso; contradiction; done)) (show zDX (m 94 10) (m 99) (m 112) (m 113) (m 114) (m 94 55) (m 98) (m 101) (m 102) (m 108) from by first | (exfalso; omega; done) | (exfalso; contradiction; done)) (show zGG (m 94 58) (m 94 56) (m 94 57) (m 106) from by first | (exact fun z => absurd z (by decide)) | (exact fun z => absurd z (by omega)) | (exfalso; omega; done) | (exfalso; contradiction; done)) (show zHA (m 94 10) (m 94 11) (m 94 13) (m 94 14) (m 94 16) (m 94 61) (m 94 59) (m 94 60) (m 99) (m 102) (m 103) (m 111) (m 117) (m 98) (m 101) (m 108) from by first | (exfalso; omega; done) | (exfalso; contradiction; done)) (show zRG (m 94 10) (m 94 18) (m 94 64) (m 94 63) (m 99) (m 103) (m 102) (m 116) from by first | (exfalso; omega; done) | (exfalso; contradiction; done)) (show (m 94 58).toInt = 0 ∨ (m 94 10).toInt = 5 from by omega) (show ((pa.toInt < 0 ∨ 1 < pa.toInt) ∧ (4 : Int32).toInt = 1) ∨ ((0 ≤ pa.toInt ∧ pa.toInt ≤ 1) ∧ (4 : Int32).toInt = 3) from by omega)
      · skip
        have g12 := i_nlt h6
        have b13 := i_bd l4
        refine zd (fun (h14 : (0 : Int32) ≤ l4) => ?_) (fun (h14 : ¬ (0 : Int32) ≤ l4) => ?_)
        · skip
          have g15 := i_le h14
          have b16 := i_bd l2
          refine zd (fun (h17 : l2 = (0 : Int32)) => ?_) (fun (h17 : ¬ l2 = (0 : Int32)) => ?_)
          · skip
            have g18 := i_eq h17
            have hV19 : zV (ma_u m 94 0 (0 : Int32)) := uf_94_0 hV
            have f20 : 0 ≤ (m 94 58).toInt ∧ (m 94 58).toInt ≤ 1 := rs_94_58 (m := m) hV
            have f21 : 0 ≤ (m 94 10).toInt ∧ (m 94 10).toInt ≤ 6 := rs_94_10 (m := m) hV
            exact K (l4) _ (zF_u hF rfl) hV19 (show zW (m 94 7) (m 98) (m 101) (m 102) (m 108) from by first | (exfalso; omega; done) | (exfalso; contradiction; done)) (show zGW T (m 94 55) (m 109) from by first | (exfalso; omega; done) | (exfalso; contradiction; done)) (show zGU T (m 94 46) (m 99) from by first | (exfalso; omega; done) | (exfalso; contradiction; done)) (show zOw (m 99) (m 103) (m 111) from by first | (exfalso; omega; done) | (exfalso; contradiction; done)) (show zDX (m 94 10) (m 99) (m 112) (m 113) (m 114) (m 94 55) (m 98) (m 101) (m 102) (m 108) from by first | (exfalso; omega; done) | (exfalso; contradiction; done)) (show zGG (m 94 58) (m 94 56) (m 94 57) (m 106) from by first | (exact fun z => absurd z (by decide)) | (exact fun z => absurd z (by omega)) | (exfalso; omega; done) | (exfalso; contradiction; done)) (show zHA (m 94 10) (m 94 11) (m 94 13) (m 94 14) (m 94 16) (m 94 61) (m 94 59) (m 94 60) (m 99) (m 102) (m 103) (m 111) (m 117) (m 98) (m 101) (m 108) from by first | (exfalso; omega; done) | (exfalso; contradiction; done)) (show zRG (m 94 10) (m 94 18) (m 94 64) (m 94 63) (m 99) (m 103) (m 102) (m 116) from by first | (exfalso; omega; done) | (exfalso; contradiction; done)) (show (m 94 58).toInt = 0 ∨ (m 94 10).toInt = 5 from by omega) (show ((pa.toInt < 0 ∨ 1 < pa.toInt) ∧ (0 : Int32).toInt = 1) ∨ ((0 ≤ pa.toInt ∧ pa.toInt ≤ 1) ∧ (0 : Int32).toInt = 3) from by omega)
          · skip
            have g22 := i_ne h17
            have hV23 : zV (ma_u m 94 0 (0 : Int32)) := uf_94_0 hV
            have f24 : 0 ≤ (m 94 84).toInt ∧ (m 94 84).toInt ≤ 4600 := rs_94_84 (m := m) hV
            have f25 : 0 ≤ (m 94 58).toInt ∧ (m 94 58).toInt ≤ 1 := rs_94_58 (m := m) hV
            have f26 : 0 ≤ (m 94 10).toInt ∧ (m 94 10).toInt ≤ 6 := rs_94_10 (m := m) hV
            exact K ((m 94 84)) _ (zF_u hF rfl) hV23 (show zW (m 94 7) (m 98) (m 101) (m 102) (m 108) from by first | (exfalso; omega; done) | (exfalso; contradiction; done)) (show zGW T (m 94 55) (m 109) from by first | (exfalso; omega; done) | (exfalso; contradiction; done)) (show zGU T (m 94 46) (m 99) from by first | (exfalso; omega; done) | (exfalso; contradiction; done)) (show zOw (m 99) (m 103) (m 111) from by first | (exfalso; omega; done) | (exfalso; contradiction; done)) (show zDX (m 94 10) (m 99) (m 112) (m 113) (m 114) (m 94 55) (m 98) (m 101) (m 102) (m 108) from by first | (exfalso; omega; done) | (exfalso; contradiction; done)) (show zGG (m 94 58) (m 94 56) (m 94 57) (m 106) from by first | (exact fun z => absurd z (by decide)) | (exact fun z => absurd z (by omega)) | (exfalso; omega; done) | (exfalso; contradiction; done)) (show zHA (m 94 10) (m 94 11) (m 94 13) (m 94 14) (m 94 16) (m 94 61) (m 94 59) (m 94 60) (m 99) (m 102) (m 103) (m 111) (m 117) (m 98) (m 101) (m 108) from by first | (exfalso; omega; done) | (exfalso; contradiction; done)) (show zRG (m 94 10) (m 94 18) (m 94 64) (m 94 63) (m 99) (m 103) (m 102) (m 116) from by first | (exfalso; omega; done) | (exfalso; contradiction; done)) (show (m 94 58).toInt = 0 ∨ (m 94 10).toInt = 5 from by omega) (show ((pa.toInt < 0 ∨ 1 < pa.toInt) ∧ (0 : Int32).toInt = 1) ∨ ((0 ≤ pa.toInt ∧ pa.toInt ≤ 1) ∧ (0 : Int32).toInt = 3) from by omega)
        · skip
          have g27 := i_nle h14
          have hV28 : zV (ma_u m 94 0 (4 : Int32)) := uf_94_0 hV
          have f29 : 0 ≤ (m 94 58).toInt ∧ (m 94 58).toInt ≤ 1 := rs_94_58 (m := m) hV
          have f30 : 0 ≤ (m 94 10).toInt ∧ (m 94 10).toInt ≤ 6 := rs_94_10 (m := m) hV
          have li31 : (4 : Int32).toInt = 4 := rfl
          exact K ((0 : Int32)) _ (zF_u hF rfl) hV28 (show zW (m 94 7) (m 98) (m 101) (m 102) (m 108) from by first | (exfalso; omega; done) | (exfalso; contradiction; done)) (show zGW T (m 94 55) (m 109) from by first | (exfalso; omega; done) | (exfalso; contradiction; done)) (show zGU T (m 94 46) (m 99) from by first | (exfalso; omega; done) | (exfalso; contradiction; done)) (show zOw (m 99) (m 103) (m 111) from by first | (exfalso; omega; done) | (exfalso; contradiction; done)) (show zDX (m 94 10) (m 99) (m 112) (m 113) (m 114) (m 94 55) (m 98) (m 101) (m 102) (m 108) from by first | (exfalso; omega; done) | (exfalso; contradiction; done)) (show zGG (m 94 58) (m 94 56) (m 94 57) (m 106) from by first | (exact fun z => absurd z (by decide)) | (exact fun z => absurd z (by omega)) | (exfalso; omega; done) | (exfalso; contradiction; done)) (show zHA (m 94 10) (m 94 11) (m 94 13) (m 94 14) (m 94 16) (m 94 61) (m 94 59) (m 94 60) (m 99) (m 102) (m 103) (m 111) (m 117) (m 98) (m 101) (m 108) from by first | (exfalso; omega; done) | (exfalso; contradiction; done)) (show zRG (m 94 10) (m 94 18) (m 94 64) (m 94 63) (m 99) (m 103) (m 102) (m 116) from by first | (exfalso; omega; done) | (exfalso; contradiction; done)) (show (m 94 58).toInt = 0 ∨ (m 94 10).toInt = 5 from by omega) (show ((pa.toInt < 0 ∨ 1 < pa.toInt) ∧ (4 : Int32).toInt = 1) ∨ ((0 ≤ pa.toInt ∧ pa.toInt ≤ 1) ∧ (4 : Int32).toInt = 3) from by omega)
    · skip
      have g32 := i_nle h3
      have b33 := i_bd l4
      have li34 : (0 : Int32).toInt = 0 := rfl
      refine zd (fun (h35 : l4 < (0 : Int32)) => ?_) (fun (h35 : ¬ l4 < (0 : Int32)) => ?_)
      · skip
        have g36 := i_lt h35
        refine zd (fun (h37 : l1 < (0 : Int32)) => ?_) (fun (h37 : ¬ l1 < (0 : Int32)) => ?_)
        · skip
          have g38 := i_lt h37
          have hV39 : zV (ma_u m 94 0 (4 : Int32)) := uf_94_0 hV
          have f40 : 0 ≤ (m 94 58).toInt ∧ (m 94 58).toInt ≤ 1 := rs_94_58 (m := m) hV
          have f41 : 0 ≤ (m 94 10).toInt ∧ (m 94 10).toInt ≤ 6 := rs_94_10 (m := m) hV
          have li42 : (4 : Int32).toInt = 4 := rfl
          exact K ((0 : Int32)) _ (zF_u hF rfl) hV39 (show zW (m 94 7) (m 98) (m 101) (m 102) (m 108) from by first | (exfalso; omega; done) | (exfalso; contradiction; done)) (show zGW T (m 94 55) (m 109) from by first | (exfalso; omega; done) | (exfalso; contradiction; done)) (show zGU T (m 94 46) (m 99) from by first | (exfalso; omega; done) | (exfalso; contradiction; done)) (show zOw (m 99) (m 103) (m 111) from by first | (exfalso; omega; done) | (exfalso; contradiction; done)) (show zDX (m 94 10) (m 99) (m 112) (m 113) (m 114) (m 94 55) (m 98) (m 101) (m 102) (m 108) from by first | (exfalso; omega; done) | (exfalso; contradiction; done)) (show zGG (m 94 58) (m 94 56) (m 94 57) (m 106) from by first | (exact fun z => absurd z (by decide)) | (exact fun z => absurd z (by omega)) | (exfalso; omega; done) | (exfalso; contradiction; done)) (show zHA (m 94 10) (m 94 11) (m 94 13) (m 94 14) (m 94 16) (m 94 61) (m 94 59) (m 94 60) (m 99) (m 102) (m 103) (m 111) (m 117) (m 98) (m 101) (m 108) from by first | (exfalso; omega; done) | (exfalso; contradiction; done)) (show zRG (m 94 10) (m 94 18) (m 94 64) (m 94 63) (m 99) (m 103) (m 102) (m 116) from by first | (exfalso; omega; done) | (exfalso; contradiction; done)) (show (m 94 58).toInt = 0 ∨ (m 94 10).toInt = 5 from by omega) (show ((pa.toInt < 0 ∨ 1 < pa.toInt) ∧ (4 : Int32).toInt = 1) ∨ ((0 ≤ pa.toInt ∧ pa.toInt ≤ 1) ∧ (4 : Int32).toInt = 3) from by omega)
        · skip
          have g43 := i_nlt h37
          refine zd (fun (h44 : (0 : Int32) ≤ l4) => ?_) (fun (h44 : ¬ (0 : Int32) ≤ l4) => ?_)
          · skip
            have g45 := i_le h44
            have b46 := i_bd l2
            refine zd (fun (h47 : l2 = (0 : Int32)) => ?_) (fun (h47 : ¬ l2 = (0 : Int32)) => ?_)
            · skip
              have g48 := i_eq h47
              have hV49 : zV (ma_u m 94 0 (0 : Int32)) := uf_94_0 hV
              have f50 : 0 ≤ (m 94 58).toInt ∧ (m 94 58).toInt ≤ 1 := rs_94_58 (m := m) hV
              have f51 : 0 ≤ (m 94 10).toInt ∧ (m 94 10).toInt ≤ 6 := rs_94_10 (m := m) hV
              exact K (l4) _ (zF_u hF rfl) hV49 (show zW (m 94 7) (m 98) (m 101) (m 102) (m 108) from by first | (exfalso; omega; done) | (exfalso; contradiction; done)) (show zGW T (m 94 55) (m 109) from by first | (exfalso; omega; done) | (exfalso; contradiction; done)) (show zGU T (m 94 46) (m 99) from by first | (exfalso; omega; done) | (exfalso; contradiction; done)) (show zOw (m 99) (m 103) (m 111) from by first | (exfalso; omega; done) | (exfalso; contradiction; done)) (show zDX (m 94 10) (m 99) (m 112) (m 113) (m 114) (m 94 55) (m 98) (m 101) (m 102) (m 108) from by first | (exfalso; omega; done) | (exfalso; contradiction; done)) (show zGG (m 94 58) (m 94 56) (m 94 57) (m 106) from by first | (exact fun z => absurd z (by decide)) | (exact fun z => absurd z (by omega)) | (exfalso; omega; done) | (exfalso; contradiction; done)) (show zHA (m 94 10) (m 94 11) (m 94 13) (m 94 14) (m 94 16) (m 94 61) (m 94 59) (m 94 60) (m 99) (m 102) (m 103) (m 111) (m 117) (m 98) (m 101) (m 108) from by first | (exfalso; omega; done) | (exfalso; contradiction; done)) (show zRG (m 94 10) (m 94 18) (m 94 64) (m 94 63) (m 99) (m 103) (m 102) (m 116) from by first | (exfalso; omega; done) | (exfalso; contradiction; done)) (show (m 94 58).toInt = 0 ∨ (m 94 10).toInt = 5 from by omega) (show ((pa.toInt < 0 ∨ 1 < pa.toInt) ∧ (0 : Int32).toInt = 1) ∨ ((0 ≤ pa.toInt ∧ pa.toInt ≤ 1) ∧ (0 : Int32).toInt = 3) from by omega)
            · skip
              have g52 := i_ne h47
              have hV53 : zV (ma_u m 94 0 (0 : Int32)) := uf_94_0 hV
              have f54 : 0 ≤ (m 94 84).toInt ∧ (m 94 84).toInt ≤ 4600 := rs_94_84 (m := m) hV
              have f55 : 0 ≤ (m 94 58).toInt ∧ (m 94 58).toInt ≤ 1 := rs_94_58 (m := m) hV
              have f56 : 0 ≤ (m 94 10).toInt ∧ (m 94 10).toInt ≤ 6 := rs_94_10 (m := m) hV
              exact K ((m 94 84)) _ (zF_u hF rfl) hV53 (show zW (m 94 7) (m 98) (m 101) (m 102) (m 108) from by first | (exfalso; omega; done) | (exfalso; contradiction; done)) (show zGW T (m 94 55) (m 109) from by first | (exfalso; omega; done) | (exfalso; contradiction; done)) (show zGU T (m 94 46) (m 99) from by first | (exfalso; omega; done) | (exfalso; contradiction; done)) (show zOw (m 99) (m 103) (m 111) from by first | (exfalso; omega; done) | (exfalso; contradiction; done)) (show zDX (m 94 10) (m 99) (m 112) (m 113) (m 114) (m 94 55) (m 98) (m 101) (m 102) (m 108) from by first | (exfalso; omega; done) | (exfalso; contradiction; done)) (show zGG (m 94 58) (m 94 56) (m 94 57) (m 106) from by first | (exact fun z => absurd z (by decide)) | (exact fun z => absurd z (by omega)) | (exfalso; omega; done) | (exfalso; contradiction; done)) (show zHA (m 94 10) (m 94 11) (m 94 13) (m 94 14) (m 94 16) (m 94 61) (m 94 59) (m 94 60) (m 99) (m 102) (m 103) (m 111) (m 117) (m 98) (m 101) (m 108) from by first | (exfalso; omega; done) | (exfalso; contradiction; done)) (show zRG (m 94 10) (m 94 18) (m 94 64) (m 94 63) (m 99) (m 103) (m 102) (m 116) from by first | (exfalso; omega; done) | (exfalso; contradiction; done)) (show (m 94 58).toInt = 0 ∨ (m 94 10).toInt = 5 from by omega) (show ((pa.toInt < 0 ∨ 1 < pa.toInt) ∧ (0 : Int32).toInt = 1) ∨ ((0 ≤ pa.toInt ∧ pa.toInt ≤ 1) ∧ (0 : Int32).toInt = 3) from by omega)
          · skip
            have g57 := i_nle h44
            have hV58 : zV (ma_u m 94 0 (4 : Int32)) := uf_94_0 hV
            have f59 : 0 ≤ (m 94 58).toInt ∧ (m 94 58).toInt ≤ 1 := rs_94_58 (m := m) hV
            have f60 : 0 ≤ (m 94 10).toInt ∧ (m 94 10).toInt ≤ 6 := rs_94_10 (m := m) hV
            have li61 : (4 : Int32).toInt = 4 := rfl
            exact K ((0 : Int32)) _ (zF_u hF rfl) hV58 (show zW (m 94 7) (m 98) (m 101) (m 102) (m 108) from by first | (exfalso; omega; done) | (exfalso; contradiction; done)) (show zGW T (m 94 55) (m 109) from by first | (exfalso; omega; done) | (exfalso; contradiction; done)) (show zGU T (m 94 46) (m 99) from by first | (exfalso; omega; done) | (exfalso; contradiction; done)) (show zOw (m 99) (m 103) (m 111) from by first | (exfalso; omega; done) | (exfalso; contradiction; done)) (show zDX (m 94 10) (m 99) (m 112) (m 113) (m 114) (m 94 55) (m 98) (m 101) (m 102) (m 108) from by first | (exfalso; omega; done) | (exfalso; contradiction; done)) (show zGG (m 94 58) (m 94 56) (m 94 57) (m 106) from by first | (exact fun z => absurd z (by decide)) | (exact fun z => absurd z (by omega)) | (exfalso; omega; done) | (exfalso; contradiction; done)) (show zHA (m 94 10) (m 94 11) (m 94 13) (m 94 14) (m 94 16) (m 94 61) (m 94 59) (m 94 60) (m 99) (m 102) (m 103) (m 111) (m 117) (m 98) (m 101) (m 108) from by first | (exfalso; omega; done) | (exfalso; contradiction; done)) (show zRG (m 94 10) (m 94 18) (m 94 64) (m 94 63) (m 99) (m 103) (m 102) (m 116) from by first | (exfalso; omega; done) | (exfalso; contradiction; done)) (show (m 94 58).toInt = 0 ∨ (m 94 10).toInt = 5 from by omega) (show ((pa.toInt < 0 ∨ 1 < pa.toInt) ∧ (4 : Int32).toInt = 1) ∨ ((0 ≤ pa.toInt ∧ pa.toInt ≤ 1) ∧ (4 : Int32).toInt = 3) from by omega)
      · skip
        have g62 := i_nlt h35
        have f63 : 0 ≤ (m 94 84).toInt ∧ (m 94 84).toInt ≤ 4600 := rs_94_84 (m := m) hV
        first | have e64 : (l4 + (m 94 84)).toInt = l4.toInt + (m 94 84).toInt := i_add (by omega) (by omega) | have b65 := i_bd (l4 + (m 94 84))
        have f66 : 0 ≤ (m 94 11).toInt ∧ (m 94 11).toInt ≤ 1500 := rs_94_11 (m := m) hV
        refine sp_226 ((l4 + (m 94 84))) ((m 94 11)) hV (by omega) (by omega) (by omega) (fun v2 m1 hV_m1 p0_m1 => zmi_n ?_)
        have p0_m1 : v2.toInt = -1 ∨ ((l4 + (m 94 84)).toInt ≤ v2.toInt ∧ v2.toInt < (m 94 11).toInt ∧ 1 ≤ (m1 94 84).toInt ∧ v2.toInt + (m1 94 84).toInt ≤ (m 94 11).toInt) := p0_m1
        have f67 : 0 ≤ (m1 94 84).toInt ∧ (m1 94 84).toInt ≤ 4600 := rs_94_84 (m := (zov wr_226 m m1)) hV_m1
        have b68 := i_bd l2
        have b69 := i_bd v2
        first | have e70 : (l5 + (1 : Int32)).toInt = l5.toInt + (1) := i_addk rfl (by omega) (by omega) | have b71 := i_bd (l5 + (1 : Int32))
        exact IH ((0 : Int)).toNat (by omega) _ (l1) (l2) (v2) ((l5 + (1 : Int32))) rfl (zF_zov hF ws_226_259) hV_m1 (show (0 : Int) = 1 from by omega)
theorem sp_259w {X : Nat × (Nat → Int32)} {P : Option ma_V → (Nat → Nat → Int32) → Prop} {T : Nat} {m : Nat → Nat → Int32} (ix : Int32) (pa : Int32) (hV : zV m) (hpre0 : (m 94 8).toInt = 1) (hpre1 : (m 94 10).toInt ≠ 0 ∧ (m 94 10).toInt ≠ 4 ∧ (m 94 10).toInt ≠ 5) (r_W : zW (m 94 7) (m 98) (m 101) (m 102) (m 108)) (r_GW : zGW T (m 94 55) (m 109)) (r_GU : zGU T (m 94 46) (m 99)) (r_OW : zOw (m 99) (m 103) (m 111)) (r_DX : zDX (m 94 10) (m 99) (m 112) (m 113) (m 114) (m 94 55) (m 98) (m 101) (m 102) (m 108)) (r_GG : zGG (m 94 58) (m 94 56) (m 94 57) (m 106)) (r_HA : zHA (m 94 10) (m 94 11) (m 94 13) (m 94 14) (m 94 16) (m 94 61) (m 94 59) (m 94 60) (m 99) (m 102) (m 103) (m 111) (m 117) (m 98) (m 101) (m 108)) (r_RGc : zRG (m 94 10) (m 94 18) (m 94 64) (m 94 63) (m 99) (m 103) (m 102) (m 116)) (hpre10 : (m 94 58).toInt = 0 ∨ (m 94 10).toInt = 5) (KZ : ∀ v m₉, zV (zov wr_259 m m₉) → (zW (m 94 7) (m 98) (m 101) (m 102) (m 108)) → (zGW T (m 94 55) (m 109)) → (zGU T (m 94 46) (m 99)) → (zOw (m 99) (m 103) (m 111)) → (zDX (m 94 10) (m 99) (m 112) (m 113) (m 114) (m 94 55) (m 98) (m 101) (m 102) (m 108)) → (zGG (m 94 58) (m 94 56) (m 94 57) (m 106)) → (zHA (m 94 10) (m 94 11) (m 94 13) (m 94 14) (m 94 16) (m 94 61) (m 94 59) (m 94 60) (m 99) (m 102) (m 103) (m 111) (m 117) (m 98) (m 101) (m 108)) → (zRG (m 94 10) (m 94 18) (m 94 64) (m 94 63) (m 99) (m 103) (m 102) (m 116)) → ((m 94 58).toInt = 0 ∨ (m 94 10).toInt = 5) → (((pa.toInt < 0 ∨ 1 < pa.toInt) ∧ (m₉ 94 0).toInt = 1) ∨ ((0 ≤ pa.toInt ∧ pa.toInt ≤ 1) ∧ (m₉ 94 0).toInt = 3)) → P (some (.inl v)) (zov wr_259 m m₉)) : zm X 2 45 259 0 [(0, .inr (.inr (some 94))), (1, .inl ix), (2, .inl pa)] m P := by
  have K : ∀ v m₉, zF wr_259 m m₉ → zV m₉ → (zW (m₉ 94 7) (m₉ 98) (m₉ 101) (m₉ 102) (m₉ 108)) → (zGW T (m₉ 94 55) (m₉ 109)) → (zGU T (m₉ 94 46) (m₉ 99)) → (zOw (m₉ 99) (m₉ 103) (m₉ 111)) → (zDX (m₉ 94 10) (m₉ 99) (m₉ 112) (m₉ 113) (m₉ 114) (m₉ 94 55) (m₉ 98) (m₉ 101) (m₉ 102) (m₉ 108)) → (zGG (m₉ 94 58) (m₉ 94 56) (m₉ 94 57) (m₉ 106)) → (zHA (m₉ 94 10) (m₉ 94 11) (m₉ 94 13) (m₉ 94 14) (m₉ 94 16) (m₉ 94 61) (m₉ 94 59) (m₉ 94 60) (m₉ 99) (m₉ 102) (m₉ 103) (m₉ 111) (m₉ 117) (m₉ 98) (m₉ 101) (m₉ 108)) → (zRG (m₉ 94 10) (m₉ 94 18) (m₉ 94 64) (m₉ 94 63) (m₉ 99) (m₉ 103) (m₉ 102) (m₉ 116)) → ((m₉ 94 58).toInt = 0 ∨ (m₉ 94 10).toInt = 5) → (((pa.toInt < 0 ∨ 1 < pa.toInt) ∧ (m₉ 94 0).toInt = 1) ∨ ((0 ≤ pa.toInt ∧ pa.toInt ≤ 1) ∧ (m₉ 94 0).toInt = 3)) → P (some (.inl v)) m₉ := by
    intro v m₉ hf z q0 q1 q2 q3 q4 q5 q6 q7 q8 q9
    have e := zov_eq hf
    rw [e] at z ⊢
    try rw [e] at q0
    try rw [e] at q1
    try rw [e] at q2
    try rw [e] at q3
    try rw [e] at q4
    try rw [e] at q5
    try rw [e] at q6
    try rw [e] at q7
    try rw [e] at q8
    try rw [e] at q9
    exact KZ v m₉ z q0 q1 q2 q3 q4 q5 q6 q7 q8 q9
  refine g_259_0 ix pa ?_
  have f1 : 0 ≤ (m 94 8).toInt ∧ (m 94 8).toInt ≤ 1 := rs_94_8 (m := m) hV
  have f2 : 0 ≤ (m 94 10).toInt ∧ (m 94 10).toInt ≤ 6 := rs_94_10 (m := m) hV
  have f3 : 0 ≤ (m 94 58).toInt ∧ (m 94 58).toInt ≤ 1 := rs_94_58 (m := m) hV
  have li4 : (0 : Int32).toInt = 0 := rfl
  refine zd (fun (h5 : (m 94 10) = (0 : Int32)) => ?_) (fun (h5 : ¬ (m 94 10) = (0 : Int32)) => ?_)
  · skip
    have g6 := i_eq h5
    have b7 := i_bd pa
    refine zd (fun (h8 : pa < (0 : Int32)) => ?_) (fun (h8 : ¬ pa < (0 : Int32)) => ?_)
    · skip
      have g9 := i_lt h8
      have hV10 : zV (ma_u m 94 0 (1 : Int32)) := uf_94_0 hV
      have li11 : (1 : Int32).toInt = 1 := rfl
      exact K ((0 : Int32)) _ (zF_u zF_rfl rfl) hV10 r_W r_GW r_GU r_OW r_DX r_GG r_HA r_RGc (show (m 94 58).toInt = 0 ∨ (m 94 10).toInt = 5 from by omega) (show ((pa.toInt < 0 ∨ 1 < pa.toInt) ∧ (1 : Int32).toInt = 1) ∨ ((0 ≤ pa.toInt ∧ pa.toInt ≤ 1) ∧ (1 : Int32).toInt = 3) from by omega)
    · skip
      have g12 := i_nlt h8
      have li13 : (1 : Int32).toInt = 1 := rfl
      refine zd (fun (h14 : pa ≤ (1 : Int32)) => ?_) (fun (h14 : ¬ pa ≤ (1 : Int32)) => ?_)
      · skip
        have g15 := i_le h14
        refine zd (fun (h16 : (m 94 8) = (0 : Int32)) => ?_) (fun (h16 : ¬ (m 94 8) = (0 : Int32)) => ?_)
        · skip
          have g17 := i_eq h16
          have hV18 : zV (ma_u m 94 0 (2 : Int32)) := uf_94_0 hV
          have li19 : (2 : Int32).toInt = 2 := rfl
          exact K ((0 : Int32)) _ (zF_u zF_rfl rfl) hV18 r_W r_GW r_GU r_OW r_DX r_GG r_HA r_RGc (show (m 94 58).toInt = 0 ∨ (m 94 10).toInt = 5 from by omega) (show ((pa.toInt < 0 ∨ 1 < pa.toInt) ∧ (2 : Int32).toInt = 1) ∨ ((0 ≤ pa.toInt ∧ pa.toInt ≤ 1) ∧ (2 : Int32).toInt = 3) from by omega)
        · skip
          have g20 := i_ne h16
          have f21 : 0 ≤ (m 94 11).toInt ∧ (m 94 11).toInt ≤ 1500 := rs_94_11 (m := m) hV
          have hV22 : zV (ma_u m 94 0 (0 : Int32)) := uf_94_0 hV
          refine sp_226 ((0 : Int32)) ((m 94 11)) hV22 (by omega) (by omega) (by omega) (fun v2 m1 hV_m1 p0_m1 => zmi_n ?_)
          have p0_m1 : v2.toInt = -1 ∨ ((0 : Int32).toInt ≤ v2.toInt ∧ v2.toInt < (m 94 11).toInt ∧ 1 ≤ (m1 94 84).toInt ∧ v2.toInt + (m1 94 84).toInt ≤ (m 94 11).toInt) := p0_m1
          have f23 : 0 ≤ (m1 94 84).toInt ∧ (m1 94 84).toInt ≤ 4600 := rs_94_84 (m := (zov wr_226 (ma_u m 94 0 (0 : Int32)) m1)) hV_m1
          have b24 := i_bd ix
          have b25 := i_bd v2
          exact lp_259w_85 (ix := ix) (pa := pa) hV K _ _ (ix) (pa) (v2) ((0 : Int32)) rfl (zF_zov (zF_u zF_rfl rfl) ws_226_259) hV_m1 (show (0 : Int) = 1 from by omega)
      · skip
        have g26 := i_nle h14
        have hV27 : zV (ma_u m 94 0 (1 : Int32)) := uf_94_0 hV
        exact K ((0 : Int32)) _ (zF_u zF_rfl rfl) hV27 r_W r_GW r_GU r_OW r_DX r_GG r_HA r_RGc (show (m 94 58).toInt = 0 ∨ (m 94 10).toInt = 5 from by omega) (show ((pa.toInt < 0 ∨ 1 < pa.toInt) ∧ (1 : Int32).toInt = 1) ∨ ((0 ≤ pa.toInt ∧ pa.toInt ≤ 1) ∧ (1 : Int32).toInt = 3) from by omega)
  · skip
    have g28 := i_ne h5
    have li29 : (4 : Int32).toInt = 4 := rfl
    refine zd (fun (h30 : (m 94 10) = (4 : Int32)) => ?_) (fun (h30 : ¬ (m 94 10) = (4 : Int32)) => ?_)
    · skip
      have g31 := i_eq h30
      have b32 := i_bd pa
      refine zd (fun (h33 : pa < (0 : Int32)) => ?_) (fun (h33 : ¬ pa < (0 : Int32)) => ?_)
      · skip
        have g34 := i_lt h33
        have hV35 : zV (ma_u m 94 0 (1 : Int32)) := uf_94_0 hV
        have li36 : (1 : Int32).toInt = 1 := rfl
        exact K ((0 : Int32)) _ (zF_u zF_rfl rfl) hV35 r_W r_GW r_GU r_OW r_DX r_GG r_HA r_RGc (show (m 94 58).toInt = 0 ∨ (m 94 10).toInt = 5 from by omega) (show ((pa.toInt < 0 ∨ 1 < pa.toInt) ∧ (1 : Int32).toInt = 1) ∨ ((0 ≤ pa.toInt ∧ pa.toInt ≤ 1) ∧ (1 : Int32).toInt = 3) from by omega)
      · skip
        have g37 := i_nlt h33
        have li38 : (1 : Int32).toInt = 1 := rfl
        refine zd (fun (h39 : pa ≤ (1 : Int32)) => ?_) (fun (h39 : ¬ pa ≤ (1 : Int32)) => ?_)
        · skip
          have g40 := i_le h39
          refine zd (fun (h41 : (m 94 8) = (0 : Int32)) => ?_) (fun (h41 : ¬ (m 94 8) = (0 : Int32)) => ?_)
          · skip
            have g42 := i_eq h41
            have hV43 : zV (ma_u m 94 0 (2 : Int32)) := uf_94_0 hV
            have li44 : (2 : Int32).toInt = 2 := rfl
            exact K ((0 : Int32)) _ (zF_u zF_rfl rfl) hV43 r_W r_GW r_GU r_OW r_DX r_GG r_HA r_RGc (show (m 94 58).toInt = 0 ∨ (m 94 10).toInt = 5 from by omega) (show ((pa.toInt < 0 ∨ 1 < pa.toInt) ∧ (2 : Int32).toInt = 1) ∨ ((0 ≤ pa.toInt ∧ pa.toInt ≤ 1) ∧ (2 : Int32).toInt = 3) from by omega)
          · skip
            have g45 := i_ne h41
            have f46 : 0 ≤ (m 94 11).toInt ∧ (m 94 11).toInt ≤ 1500 := rs_94_11 (m := m) hV
            have hV47 : zV (ma_u m 94 0 (0 : Int32)) := uf_94_0 hV
            refine sp_226 ((0 : Int32)) ((m 94 11)) hV47 (by omega) (by omega) (by omega) (fun v4 m3 hV_m3 p0_m3 => zmi_n ?_)
            have p0_m3 : v4.toInt = -1 ∨ ((0 : Int32).toInt ≤ v4.toInt ∧ v4.toInt < (m 94 11).toInt ∧ 1 ≤ (m3 94 84).toInt ∧ v4.toInt + (m3 94 84).toInt ≤ (m 94 11).toInt) := p0_m3
            have f48 : 0 ≤ (m3 94 84).toInt ∧ (m3 94 84).toInt ≤ 4600 := rs_94_84 (m := (zov wr_226 (ma_u m 94 0 (0 : Int32)) m3)) hV_m3
            have b49 := i_bd ix
            have b50 := i_bd v4
            exact lp_259w_85 (ix := ix) (pa := pa) hV K _ _ (ix) (pa) (v4) ((0 : Int32)) rfl (zF_zov (zF_u zF_rfl rfl) ws_226_259) hV_m3 (show (0 : Int) = 1 from by omega)
        · skip
          have g51 := i_nle h39
          have hV52 : zV (ma_u m 94 0 (1 : Int32)) := uf_94_0 hV
          exact K ((0 : Int32)) _ (zF_u zF_rfl rfl) hV52 r_W r_GW r_GU r_OW r_DX r_GG r_HA r_RGc (show (m 94 58).toInt = 0 ∨ (m 94 10).toInt = 5 from by omega) (show ((pa.toInt < 0 ∨ 1 < pa.toInt) ∧ (1 : Int32).toInt = 1) ∨ ((0 ≤ pa.toInt ∧ pa.toInt ≤ 1) ∧ (1 : Int32).toInt = 3) from by omega)
    · skip
      have g53 := i_ne h30
      have li54 : (5 : Int32).toInt = 5 := rfl
      refine zd (fun (h55 : (m 94 10) = (5 : Int32)) => ?_) (fun (h55 : ¬ (m 94 10) = (5 : Int32)) => ?_)
      · skip
        have g56 := i_eq h55
        have b57 := i_bd pa
        refine zd (fun (h58 : pa < (0 : Int32)) => ?_) (fun (h58 : ¬ pa < (0 : Int32)) => ?_)
        · skip
          have g59 := i_lt h58
          have hV60 : zV (ma_u m 94 0 (1 : Int32)) := uf_94_0 hV
          have li61 : (1 : Int32).toInt = 1 := rfl
          exact K ((0 : Int32)) _ (zF_u zF_rfl rfl) hV60 r_W r_GW r_GU r_OW r_DX r_GG r_HA r_RGc (show (m 94 58).toInt = 0 ∨ (m 94 10).toInt = 5 from by omega) (show ((pa.toInt < 0 ∨ 1 < pa.toInt) ∧ (1 : Int32).toInt = 1) ∨ ((0 ≤ pa.toInt ∧ pa.toInt ≤ 1) ∧ (1 : Int32).toInt = 3) from by omega)
        · skip
          have g62 := i_nlt h58
          have li63 : (1 : Int32).toInt = 1 := rfl
          refine zd (fun (h64 : pa ≤ (1 : Int32)) => ?_) (fun (h64 : ¬ pa ≤ (1 : Int32)) => ?_)
          · skip
            have g65 := i_le h64
            refine zd (fun (h66 : (m 94 8) = (0 : Int32)) => ?_) (fun (h66 : ¬ (m 94 8) = (0 : Int32)) => ?_)
            · skip
              have g67 := i_eq h66
              have hV68 : zV (ma_u m 94 0 (2 : Int32)) := uf_94_0 hV
              have li69 : (2 : Int32).toInt = 2 := rfl
              exact K ((0 : Int32)) _ (zF_u zF_rfl rfl) hV68 r_W r_GW r_GU r_OW r_DX r_GG r_HA r_RGc (show (m 94 58).toInt = 0 ∨ (m 94 10).toInt = 5 from by omega) (show ((pa.toInt < 0 ∨ 1 < pa.toInt) ∧ (2 : Int32).toInt = 1) ∨ ((0 ≤ pa.toInt ∧ pa.toInt ≤ 1) ∧ (2 : Int32).toInt = 3) from by omega)
            · skip
              have g70 := i_ne h66
              have f71 : 0 ≤ (m 94 11).toInt ∧ (m 94 11).toInt ≤ 1500 := rs_94_11 (m := m) hV
              have hV72 : zV (ma_u m 94 0 (0 : Int32)) := uf_94_0 hV
              refine sp_226 ((0 : Int32)) ((m 94 11)) hV72 (by omega) (by omega) (by omega) (fun v6 m5 hV_m5 p0_m5 => zmi_n ?_)
              have p0_m5 : v6.toInt = -1 ∨ ((0 : Int32).toInt ≤ v6.toInt ∧ v6.toInt < (m 94 11).toInt ∧ 1 ≤ (m5 94 84).toInt ∧ v6.toInt + (m5 94 84).toInt ≤ (m 94 11).toInt) := p0_m5
              have f73 : 0 ≤ (m5 94 84).toInt ∧ (m5 94 84).toInt ≤ 4600 := rs_94_84 (m := (zov wr_226 (ma_u m 94 0 (0 : Int32)) m5)) hV_m5
              have b74 := i_bd ix
              have b75 := i_bd v6
              exact lp_259w_85 (ix := ix) (pa := pa) hV K _ _ (ix) (pa) (v6) ((0 : Int32)) rfl (zF_zov (zF_u zF_rfl rfl) ws_226_259) hV_m5 (show (0 : Int) = 1 from by omega)
          · skip
            have g76 := i_nle h64
            have hV77 : zV (ma_u m 94 0 (1 : Int32)) := uf_94_0 hV
            exact K ((0 : Int32)) _ (zF_u zF_rfl rfl) hV77 r_W r_GW r_GU r_OW r_DX r_GG r_HA r_RGc (show (m 94 58).toInt = 0 ∨ (m 94 10).toInt = 5 from by omega) (show ((pa.toInt < 0 ∨ 1 < pa.toInt) ∧ (1 : Int32).toInt = 1) ∨ ((0 ≤ pa.toInt ∧ pa.toInt ≤ 1) ∧ (1 : Int32).toInt = 3) from by omega)
      · skip
        have g78 := i_ne h55
        have b79 := i_bd pa
        refine zd (fun (h80 : pa < (0 : Int32)) => ?_) (fun (h80 : ¬ pa < (0 : Int32)) => ?_)
        · skip
          have g81 := i_lt h80
          have hV82 : zV (ma_u m 94 0 (1 : Int32)) := uf_94_0 hV
          have li83 : (1 : Int32).toInt = 1 := rfl
          exact K ((0 : Int32)) _ (zF_u zF_rfl rfl) hV82 r_W r_GW r_GU r_OW r_DX r_GG r_HA r_RGc (show (m 94 58).toInt = 0 ∨ (m 94 10).toInt = 5 from by omega) (show ((pa.toInt < 0 ∨ 1 < pa.toInt) ∧ (1 : Int32).toInt = 1) ∨ ((0 ≤ pa.toInt ∧ pa.toInt ≤ 1) ∧ (1 : Int32).toInt = 3) from by omega)
        · skip
          have g84 := i_nlt h80
          have li85 : (1 : Int32).toInt = 1 := rfl
          refine zd (fun (h86 : pa ≤ (1 : Int32)) => ?_) (fun (h86 : ¬ pa ≤ (1 : Int32)) => ?_)
          · skip
            have g87 := i_le h86
            refine zd (fun (h88 : (m 94 8) = (0 : Int32)) => ?_) (fun (h88 : ¬ (m 94 8) = (0 : Int32)) => ?_)
            · skip
              have g89 := i_eq h88
              have hV90 : zV (ma_u m 94 0 (2 : Int32)) := uf_94_0 hV
              have li91 : (2 : Int32).toInt = 2 := rfl
              exact K ((0 : Int32)) _ (zF_u zF_rfl rfl) hV90 r_W r_GW r_GU r_OW r_DX r_GG r_HA r_RGc (show (m 94 58).toInt = 0 ∨ (m 94 10).toInt = 5 from by omega) (show ((pa.toInt < 0 ∨ 1 < pa.toInt) ∧ (2 : Int32).toInt = 1) ∨ ((0 ≤ pa.toInt ∧ pa.toInt ≤ 1) ∧ (2 : Int32).toInt = 3) from by omega)
            · skip
              have g92 := i_ne h88
              have hV93 : zV (ma_u m 94 0 (3 : Int32)) := uf_94_0 hV
              have li94 : (3 : Int32).toInt = 3 := rfl
              exact K ((0 : Int32)) _ (zF_u zF_rfl rfl) hV93 r_W r_GW r_GU r_OW r_DX r_GG r_HA r_RGc (show (m 94 58).toInt = 0 ∨ (m 94 10).toInt = 5 from by omega) (show ((pa.toInt < 0 ∨ 1 < pa.toInt) ∧ (3 : Int32).toInt = 1) ∨ ((0 ≤ pa.toInt ∧ pa.toInt ≤ 1) ∧ (3 : Int32).toInt = 3) from by omega)
          · skip
            have g95 := i_nle h86
            have hV96 : zV (ma_u m 94 0 (1 : Int32)) := uf_94_0 hV
            exact K ((0 : Int32)) _ (zF_u zF_rfl rfl) hV96 r_W r_GW r_GU r_OW r_DX r_GG r_HA r_RGc (show (m 94 58).toInt = 0 ∨ (m 94 10).toInt = 5 from by omega) (show ((pa.toInt < 0 ∨ 1 < pa.toInt) ∧ (1 : Int32).toInt = 1) ∨ ((0 ≤ pa.toInt ∧ pa.toInt ≤ 1) ∧ (1 : Int32).toInt = 3) from by omega)

/-! from 95.o23 -/
/-! the reference under COUNTS (written by wip/tools/gen20s.py) -/
theorem lp_259v_85 {X : Nat × (Nat → Int32)} {P : Option ma_V → (Nat → Nat → Int32) → Prop} {T : Nat} {ix : Int32} {pa : Int32} {m0 : Nat → Nat → Int32} (h0 : zV m0) (K : ∀ v m₉, zF wr_259 m0 m₉ → zV m₉ → ((m₉ 94 8).toInt = 0) → (zW (m₉ 94 7) (m₉ 98) (m₉ 101) (m₉ 102) (m₉ 108)) → (zGW T (m₉ 94 55) (m₉ 109)) → (((pa.toInt < 0 ∨ 1 < pa.toInt) ∧ (m₉ 94 0).toInt = 1) ∨ ((0 ≤ pa.toInt ∧ pa.toInt ≤ 1) ∧ (m₉ 94 0).toInt = 2)) → P (some (.inl v)) m₉) : ∀ (n : Nat) (m : Nat → Nat → Int32) (l1 : Int32) (l2 : Int32) (l4 : Int32) (l5 : Int32), ((0 : Int)).toNat = n → zF wr_259 m0 m → zV m → ((0 : Int) = 1) → zm X 2 45 259 85 [(0, .inr (.inr (some 94))), (1, .inl l1), (2, .inl l2), (4, .inl l4), (5, .inl l5)] m P := by
  intro n
  induction n using Nat.strongRecOn with
  | _ n IH =>
    intro m l1 l2 l4 l5 hmu hF hV hi0
    refine g_259_85 l1 l2 l4 l5 ?_
    have b1 := i_bd l1
    have b2 := i_bd l5
    refine zd (fun (h3 : l1 ≤ l5) => ?_) (fun (h3 : ¬ l1 ≤ l5) => ?_)
    · skip
      have g4 := i_le h3
      have li5 : (0 : Int32).toInt = 0 := rfl
      refine zd (fun (h6 : l1 < (0 : Int32)) => ?_) (fun (h6 : ¬ l1 < (0 : Int32)) => ?_)
      · skip
        have g7 := i_lt h6
        have hV8 : zV (ma_u m 94 0 (4 : Int32)) := uf_94_0 hV
        have f9 : 0 ≤ (m 94 8).toInt ∧ (m 94 8).toInt ≤ 1 := rs_94_8 (m := m) hV
        have li10 : (4 : Int32).toInt = 4 := rfl
        exact K ((0 : Int32)) _ (zF_u hF rfl) hV8 (show (m 94 8).toInt = 0 from by omega) (show zW (m 94 7) (m 98) (m 101) (m 102) (m 108) from by first | (exfalso; omega; done) | (exfalso; contradiction; done)) (show zGW T (m 94 55) (m 109) from by first | (exfalso; omega; done) | (exfalso; contradiction; done)) (show ((pa.toInt < 0 ∨ 1 < pa.toInt) ∧ (4 : Int32).toInt = 1) ∨ ((0 ≤ pa.toInt ∧ pa.toInt ≤ 1) ∧ (4 : Int32).toInt = 2) from by omega)
      · skip
        have g11 := i_nlt h6
        have b12 := i_bd l4
        refine zd (fun (h13 : (0 : Int32) ≤ l4) => ?_) (fun (h13 : ¬ (0 : Int32) ≤ l4) => ?_)
        · skip
          have g14 := i_le h13
          have b15 := i_bd l2
          refine zd (fun (h16 : l2 = (0 : Int32)) => ?_) (fun (h16 : ¬ l2 = (0 : Int32)) => ?_)
          · skip
            have g17 := i_eq h16
            have hV18 : zV (ma_u m 94 0 (0 : Int32)) := uf_94_0 hV
            have f19 : 0 ≤ (m 94 8).toInt ∧ (m 94 8).toInt ≤ 1 := rs_94_8 (m := m) hV
            exact K (l4) _ (zF_u hF rfl) hV18 (show (m 94 8).toInt = 0 from by omega) (show zW (m 94 7) (m 98) (m 101) (m 102) (m 108) from by first | (exfalso; omega; done) | (exfalso; contradiction; done)) (show zGW T (m 94 55) (m 109) from by first | (exfalso; omega; done) | (exfalso; contradiction; done)) (show ((pa.toInt < 0 ∨ 1 < pa.toInt) ∧ (0 : Int32).toInt = 1) ∨ ((0 ≤ pa.toInt ∧ pa.toInt ≤ 1) ∧ (0 : Int32).toInt = 2) from by omega)
          · skip
            have g20 := i_ne h16
            have hV21 : zV (ma_u m 94 0 (0 : Int32)) := uf_94_0 hV
            have f22 : 0 ≤ (m 94 84).toInt ∧ (m 94 84).toInt ≤ 4600 := rs_94_84 (m := m) hV
            have f23 : 0 ≤ (m 94 8).toInt ∧ (m 94 8).toInt ≤ 1 := rs_94_8 (m := m) hV
            exact K ((m 94 84)) _ (zF_u hF rfl) hV21 (show (m 94 8).toInt = 0 from by omega) (show zW (m 94 7) (m 98) (m 101) (m 102) (m 108) from by first | (exfalso; omega; done) | (exfalso; contradiction; done)) (show zGW T (m 94 55) (m 109) from by first | (exfalso; omega; done) | (exfalso; contradiction; done)) (show ((pa.toInt < 0 ∨ 1 < pa.toInt) ∧ (0 : Int32).toInt = 1) ∨ ((0 ≤ pa.toInt ∧ pa.toInt ≤ 1) ∧ (0 : Int32).toInt = 2) from by omega)
        · skip
          have g24 := i_nle h13
          have hV25 : zV (ma_u m 94 0 (4 : Int32)) := uf_94_0 hV
          have f26 : 0 ≤ (m 94 8).toInt ∧ (m 94 8).toInt ≤ 1 := rs_94_8 (m := m) hV
          have li27 : (4 : Int32).toInt = 4 := rfl
          exact K ((0 : Int32)) _ (zF_u hF rfl) hV25 (show (m 94 8).toInt = 0 from by omega) (show zW (m 94 7) (m 98) (m 101) (m 102) (m 108) from by first | (exfalso; omega; done) | (exfalso; contradiction; done)) (show zGW T (m 94 55) (m 109) from by first | (exfalso; omega; done) | (exfalso; contradiction; done)) (show ((pa.toInt < 0 ∨ 1 < pa.toInt) ∧ (4 : Int32).toInt = 1) ∨ ((0 ≤ pa.toInt ∧ pa.toInt ≤ 1) ∧ (4 : Int32).toInt = 2) from by omega)
    · skip
      have g28 := i_nle h3
      have b29 := i_bd l4
      have li30 : (0 : Int32).toInt = 0 := rfl
      refine zd (fun (h31 : l4 < (0 : Int32)) => ?_) (fun (h31 : ¬ l4 < (0 : Int32)) => ?_)
      · skip
        have g32 := i_lt h31
        refine zd (fun (h33 : l1 < (0 : Int32)) => ?_) (fun (h33 : ¬ l1 < (0 : Int32)) => ?_)
        · skip
          have g34 := i_lt h33
          have hV35 : zV (ma_u m 94 0 (4 : Int32)) := uf_94_0 hV
          have f36 : 0 ≤ (m 94 8).toInt ∧ (m 94 8).toInt ≤ 1 := rs_94_8 (m := m) hV
          have li37 : (4 : Int32).toInt = 4 := rfl
          exact K ((0 : Int32)) _ (zF_u hF rfl) hV35 (show (m 94 8).toInt = 0 from by omega) (show zW (m 94 7) (m 98) (m 101) (m 102) (m 108) from by first | (exfalso; omega; done) | (exfalso; contradiction; done)) (show zGW T (m 94 55) (m 109) from by first | (exfalso; omega; done) | (exfalso; contradiction; done)) (show ((pa.toInt < 0 ∨ 1 < pa.toInt) ∧ (4 : Int32).toInt = 1) ∨ ((0 ≤ pa.toInt ∧ pa.toInt ≤ 1) ∧ (4 : Int32).toInt = 2) from by omega)
        · skip
          have g38 := i_nlt h33
          refine zd (fun (h39 : (0 : Int32) ≤ l4) => ?_) (fun (h39 : ¬ (0 : Int32) ≤ l4) => ?_)
          · skip
            have g40 := i_le h39
            have b41 := i_bd l2
            refine zd (fun (h42 : l2 = (0 : Int32)) => ?_) (fun (h42 : ¬ l2 = (0 : Int32)) => ?_)
            · skip
              have g43 := i_eq h42
              have hV44 : zV (ma_u m 94 0 (0 : Int32)) := uf_94_0 hV
              have f45 : 0 ≤ (m 94 8).toInt ∧ (m 94 8).toInt ≤ 1 := rs_94_8 (m := m) hV
              exact K (l4) _ (zF_u hF rfl) hV44 (show (m 94 8).toInt = 0 from by omega) (show zW (m 94 7) (m 98) (m 101) (m 102) (m 108) from by first | (exfalso; omega; done) | (exfalso; contradiction; done)) (show zGW T (m 94 55) (m 109) from by first | (exfalso; omega; done) | (exfalso; contradiction; done)) (show ((pa.toInt < 0 ∨ 1 < pa.toInt) ∧ (0 : Int32).toInt = 1) ∨ ((0 ≤ pa.toInt ∧ pa.toInt ≤ 1) ∧ (0 : Int32).toInt = 2) from by omega)
            · skip
              have g46 := i_ne h42
              have hV47 : zV (ma_u m 94 0 (0 : Int32)) := uf_94_0 hV
              have f48 : 0 ≤ (m 94 84).toInt ∧ (m 94 84).toInt ≤ 4600 := rs_94_84 (m := m) hV
              have f49 : 0 ≤ (m 94 8).toInt ∧ (m 94 8).toInt ≤ 1 := rs_94_8 (m := m) hV
              exact K ((m 94 84)) _ (zF_u hF rfl) hV47 (show (m 94 8).toInt = 0 from by omega) (show zW (m 94 7) (m 98) (m 101) (m 102) (m 108) from by first | (exfalso; omega; done) | (exfalso; contradiction; done)) (show zGW T (m 94 55) (m 109) from by first | (exfalso; omega; done) | (exfalso; contradiction; done)) (show ((pa.toInt < 0 ∨ 1 < pa.toInt) ∧ (0 : Int32).toInt = 1) ∨ ((0 ≤ pa.toInt ∧ pa.toInt ≤ 1) ∧ (0 : Int32).toInt = 2) from by omega)
          · skip
            have g50 := i_nle h39
            have hV51 : zV (ma_u m 94 0 (4 : Int32)) := uf_94_0 hV
            have f52 : 0 ≤ (m 94 8).toInt ∧ (m 94 8).toInt ≤ 1 := rs_94_8 (m := m) hV
            have li53 : (4 : Int32).toInt = 4 := rfl
            exact K ((0 : Int32)) _ (zF_u hF rfl) hV51 (show (m 94 8).toInt = 0 from by omega) (show zW (m 94 7) (m 98) (m 101) (m 102) (m 108) from by first | (exfalso; omega; done) | (exfalso; contradiction; done)) (show zGW T (m 94 55) (m 109) from by first | (exfalso; omega; done) | (exfalso; contradiction; done)) (show ((pa.toInt < 0 ∨ 1 < pa.toInt) ∧ (4 : Int32).toInt = 1) ∨ ((0 ≤ pa.toInt ∧ pa.toInt ≤ 1) ∧ (4 : Int32).toInt = 2) from by omega)
      · skip
        have g54 := i_nlt h31
        have f55 : 0 ≤ (m 94 84).toInt ∧ (m 94 84).toInt ≤ 4600 := rs_94_84 (m := m) hV
        first | have e56 : (l4 + (m 94 84)).toInt = l4.toInt + (m 94 84).toInt := i_add (by omega) (by omega) | have b57 := i_bd (l4 + (m 94 84))
        have f58 : 0 ≤ (m 94 11).toInt ∧ (m 94 11).toInt ≤ 1500 := rs_94_11 (m := m) hV
        refine sp_226 ((l4 + (m 94 84))) ((m 94 11)) hV (by omega) (by omega) (by omega) (fun v2 m1 hV_m1 p0_m1 => zmi_n ?_)
        have p0_m1 : v2.toInt = -1 ∨ ((l4 + (m 94 84)).toInt ≤ v2.toInt ∧ v2.toInt < (m 94 11).toInt ∧ 1 ≤ (m1 94 84).toInt ∧ v2.toInt + (m1 94 84).toInt ≤ (m 94 11).toInt) := p0_m1
        have f59 : 0 ≤ (m1 94 84).toInt ∧ (m1 94 84).toInt ≤ 4600 := rs_94_84 (m := (zov wr_226 m m1)) hV_m1
        have b60 := i_bd l2
        have b61 := i_bd v2
        first | have e62 : (l5 + (1 : Int32)).toInt = l5.toInt + (1) := i_addk rfl (by omega) (by omega) | have b63 := i_bd (l5 + (1 : Int32))
        exact IH ((0 : Int)).toNat (by omega) _ (l1) (l2) (v2) ((l5 + (1 : Int32))) rfl (zF_zov hF ws_226_259) hV_m1 (show (0 : Int) = 1 from by omega)
theorem sp_259v {X : Nat × (Nat → Int32)} {P : Option ma_V → (Nat → Nat → Int32) → Prop} {T : Nat} {m : Nat → Nat → Int32} (ix : Int32) (pa : Int32) (hV : zV m) (hpre0 : (m 94 8).toInt = 0) (r_W : zW (m 94 7) (m 98) (m 101) (m 102) (m 108)) (r_GW : zGW T (m 94 55) (m 109)) (KZ : ∀ v m₉, zV (zov wr_259 m m₉) → ((m 94 8).toInt = 0) → (zW (m 94 7) (m 98) (m 101) (m 102) (m 108)) → (zGW T (m 94 55) (m 109)) → (((pa.toInt < 0 ∨ 1 < pa.toInt) ∧ (m₉ 94 0).toInt = 1) ∨ ((0 ≤ pa.toInt ∧ pa.toInt ≤ 1) ∧ (m₉ 94 0).toInt = 2)) → P (some (.inl v)) (zov wr_259 m m₉)) : zm X 2 45 259 0 [(0, .inr (.inr (some 94))), (1, .inl ix), (2, .inl pa)] m P := by
  have K : ∀ v m₉, zF wr_259 m m₉ → zV m₉ → ((m₉ 94 8).toInt = 0) → (zW (m₉ 94 7) (m₉ 98) (m₉ 101) (m₉ 102) (m₉ 108)) → (zGW T (m₉ 94 55) (m₉ 109)) → (((pa.toInt < 0 ∨ 1 < pa.toInt) ∧ (m₉ 94 0).toInt = 1) ∨ ((0 ≤ pa.toInt ∧ pa.toInt ≤ 1) ∧ (m₉ 94 0).toInt = 2)) → P (some (.inl v)) m₉ := by
    intro v m₉ hf z q0 q1 q2 q3
    have e := zov_eq hf
    rw [e] at z ⊢
    try rw [e] at q0
    try rw [e] at q1
    try rw [e] at q2
    try rw [e] at q3
    exact KZ v m₉ z q0 q1 q2 q3
  refine g_259_0 ix pa ?_
  have f1 : 0 ≤ (m 94 8).toInt ∧ (m 94 8).toInt ≤ 1 := rs_94_8 (m := m) hV
  have f2 : 0 ≤ (m 94 10).toInt ∧ (m 94 10).toInt ≤ 6 := rs_94_10 (m := m) hV
  have li3 : (0 : Int32).toInt = 0 := rfl
  refine zd (fun (h4 : (m 94 10) = (0 : Int32)) => ?_) (fun (h4 : ¬ (m 94 10) = (0 : Int32)) => ?_)
  · skip
    have g5 := i_eq h4
    have b6 := i_bd pa
    refine zd (fun (h7 : pa < (0 : Int32)) => ?_) (fun (h7 : ¬ pa < (0 : Int32)) => ?_)
    · skip
      have g8 := i_lt h7
      have hV9 : zV (ma_u m 94 0 (1 : Int32)) := uf_94_0 hV
      have li10 : (1 : Int32).toInt = 1 := rfl
      exact K ((0 : Int32)) _ (zF_u zF_rfl rfl) hV9 (show (m 94 8).toInt = 0 from by omega) r_W r_GW (show ((pa.toInt < 0 ∨ 1 < pa.toInt) ∧ (1 : Int32).toInt = 1) ∨ ((0 ≤ pa.toInt ∧ pa.toInt ≤ 1) ∧ (1 : Int32).toInt = 2) from by omega)
    · skip
      have g11 := i_nlt h7
      have li12 : (1 : Int32).toInt = 1 := rfl
      refine zd (fun (h13 : pa ≤ (1 : Int32)) => ?_) (fun (h13 : ¬ pa ≤ (1 : Int32)) => ?_)
      · skip
        have g14 := i_le h13
        refine zd (fun (h15 : (m 94 8) = (0 : Int32)) => ?_) (fun (h15 : ¬ (m 94 8) = (0 : Int32)) => ?_)
        · skip
          have g16 := i_eq h15
          have hV17 : zV (ma_u m 94 0 (2 : Int32)) := uf_94_0 hV
          have li18 : (2 : Int32).toInt = 2 := rfl
          exact K ((0 : Int32)) _ (zF_u zF_rfl rfl) hV17 (show (m 94 8).toInt = 0 from by omega) r_W r_GW (show ((pa.toInt < 0 ∨ 1 < pa.toInt) ∧ (2 : Int32).toInt = 1) ∨ ((0 ≤ pa.toInt ∧ pa.toInt ≤ 1) ∧ (2 : Int32).toInt = 2) from by omega)
        · skip
          have g19 := i_ne h15
          have f20 : 0 ≤ (m 94 11).toInt ∧ (m 94 11).toInt ≤ 1500 := rs_94_11 (m := m) hV
          have hV21 : zV (ma_u m 94 0 (0 : Int32)) := uf_94_0 hV
          refine sp_226 ((0 : Int32)) ((m 94 11)) hV21 (by omega) (by omega) (by omega) (fun v2 m1 hV_m1 p0_m1 => zmi_n ?_)
          have p0_m1 : v2.toInt = -1 ∨ ((0 : Int32).toInt ≤ v2.toInt ∧ v2.toInt < (m 94 11).toInt ∧ 1 ≤ (m1 94 84).toInt ∧ v2.toInt + (m1 94 84).toInt ≤ (m 94 11).toInt) := p0_m1
          have f22 : 0 ≤ (m1 94 84).toInt ∧ (m1 94 84).toInt ≤ 4600 := rs_94_84 (m := (zov wr_226 (ma_u m 94 0 (0 : Int32)) m1)) hV_m1
          have b23 := i_bd ix
          have b24 := i_bd v2
          exact lp_259v_85 (ix := ix) (pa := pa) hV K _ _ (ix) (pa) (v2) ((0 : Int32)) rfl (zF_zov (zF_u zF_rfl rfl) ws_226_259) hV_m1 (show (0 : Int) = 1 from by omega)
      · skip
        have g25 := i_nle h13
        have hV26 : zV (ma_u m 94 0 (1 : Int32)) := uf_94_0 hV
        exact K ((0 : Int32)) _ (zF_u zF_rfl rfl) hV26 (show (m 94 8).toInt = 0 from by omega) r_W r_GW (show ((pa.toInt < 0 ∨ 1 < pa.toInt) ∧ (1 : Int32).toInt = 1) ∨ ((0 ≤ pa.toInt ∧ pa.toInt ≤ 1) ∧ (1 : Int32).toInt = 2) from by omega)
  · skip
    have g27 := i_ne h4
    have li28 : (4 : Int32).toInt = 4 := rfl
    refine zd (fun (h29 : (m 94 10) = (4 : Int32)) => ?_) (fun (h29 : ¬ (m 94 10) = (4 : Int32)) => ?_)
    · skip
      have g30 := i_eq h29
      have b31 := i_bd pa
      refine zd (fun (h32 : pa < (0 : Int32)) => ?_) (fun (h32 : ¬ pa < (0 : Int32)) => ?_)
      · skip
        have g33 := i_lt h32
        have hV34 : zV (ma_u m 94 0 (1 : Int32)) := uf_94_0 hV
        have li35 : (1 : Int32).toInt = 1 := rfl
        exact K ((0 : Int32)) _ (zF_u zF_rfl rfl) hV34 (show (m 94 8).toInt = 0 from by omega) r_W r_GW (show ((pa.toInt < 0 ∨ 1 < pa.toInt) ∧ (1 : Int32).toInt = 1) ∨ ((0 ≤ pa.toInt ∧ pa.toInt ≤ 1) ∧ (1 : Int32).toInt = 2) from by omega)
      · skip
        have g36 := i_nlt h32
        have li37 : (1 : Int32).toInt = 1 := rfl
        refine zd (fun (h38 : pa ≤ (1 : Int32)) => ?_) (fun (h38 : ¬ pa ≤ (1 : Int32)) => ?_)
        · skip
          have g39 := i_le h38
          refine zd (fun (h40 : (m 94 8) = (0 : Int32)) => ?_) (fun (h40 : ¬ (m 94 8) = (0 : Int32)) => ?_)
          · skip
            have g41 := i_eq h40
            have hV42 : zV (ma_u m 94 0 (2 : Int32)) := uf_94_0 hV
            have li43 : (2 : Int32).toInt = 2 := rfl
            exact K ((0 : Int32)) _ (zF_u zF_rfl rfl) hV42 (show (m 94 8).toInt = 0 from by omega) r_W r_GW (show ((pa.toInt < 0 ∨ 1 < pa.toInt) ∧ (2 : Int32).toInt = 1) ∨ ((0 ≤ pa.toInt ∧ pa.toInt ≤ 1) ∧ (2 : Int32).toInt = 2) from by omega)
          · skip
            have g44 := i_ne h40
            have f45 : 0 ≤ (m 94 11).toInt ∧ (m 94 11).toInt ≤ 1500 := rs_94_11 (m := m) hV
            have hV46 : zV (ma_u m 94 0 (0 : Int32)) := uf_94_0 hV
            refine sp_226 ((0 : Int32)) ((m 94 11)) hV46 (by omega) (by omega) (by omega) (fun v4 m3 hV_m3 p0_m3 => zmi_n ?_)
            have p0_m3 : v4.toInt = -1 ∨ ((0 : Int32).toInt ≤ v4.toInt ∧ v4.toInt < (m 94 11).toInt ∧ 1 ≤ (m3 94 84).toInt ∧ v4.toInt + (m3 94 84).toInt ≤ (m 94 11).toInt) := p0_m3
            have f47 : 0 ≤ (m3 94 84).toInt ∧ (m3 94 84).toInt ≤ 4600 := rs_94_84 (m := (zov wr_226 (ma_u m 94 0 (0 : Int32)) m3)) hV_m3
            have b48 := i_bd ix
            have b49 := i_bd v4
            exact lp_259v_85 (ix := ix) (pa := pa) hV K _ _ (ix) (pa) (v4) ((0 : Int32)) rfl (zF_zov (zF_u zF_rfl rfl) ws_226_259) hV_m3 (show (0 : Int) = 1 from by omega)
        · skip
          have g50 := i_nle h38
          have hV51 : zV (ma_u m 94 0 (1 : Int32)) := uf_94_0 hV
          exact K ((0 : Int32)) _ (zF_u zF_rfl rfl) hV51 (show (m 94 8).toInt = 0 from by omega) r_W r_GW (show ((pa.toInt < 0 ∨ 1 < pa.toInt) ∧ (1 : Int32).toInt = 1) ∨ ((0 ≤ pa.toInt ∧ pa.toInt ≤ 1) ∧ (1 : Int32).toInt = 2) from by omega)
    · skip
      have g52 := i_ne h29
      have li53 : (5 : Int32).toInt = 5 := rfl
      refine zd (fun (h54 : (m 94 10) = (5 : Int32)) => ?_) (fun (h54 : ¬ (m 94 10) = (5 : Int32)) => ?_)
      · skip
        have g55 := i_eq h54
        have b56 := i_bd pa
        refine zd (fun (h57 : pa < (0 : Int32)) => ?_) (fun (h57 : ¬ pa < (0 : Int32)) => ?_)
        · skip
          have g58 := i_lt h57
          have hV59 : zV (ma_u m 94 0 (1 : Int32)) := uf_94_0 hV
          have li60 : (1 : Int32).toInt = 1 := rfl
          exact K ((0 : Int32)) _ (zF_u zF_rfl rfl) hV59 (show (m 94 8).toInt = 0 from by omega) r_W r_GW (show ((pa.toInt < 0 ∨ 1 < pa.toInt) ∧ (1 : Int32).toInt = 1) ∨ ((0 ≤ pa.toInt ∧ pa.toInt ≤ 1) ∧ (1 : Int32).toInt = 2) from by omega)
        · skip
          have g61 := i_nlt h57
          have li62 : (1 : Int32).toInt = 1 := rfl
          refine zd (fun (h63 : pa ≤ (1 : Int32)) => ?_) (fun (h63 : ¬ pa ≤ (1 : Int32)) => ?_)
          · skip
            have g64 := i_le h63
            refine zd (fun (h65 : (m 94 8) = (0 : Int32)) => ?_) (fun (h65 : ¬ (m 94 8) = (0 : Int32)) => ?_)
            · skip
              have g66 := i_eq h65
              have hV67 : zV (ma_u m 94 0 (2 : Int32)) := uf_94_0 hV
              have li68 : (2 : Int32).toInt = 2 := rfl
              exact K ((0 : Int32)) _ (zF_u zF_rfl rfl) hV67 (show (m 94 8).toInt = 0 from by omega) r_W r_GW (show ((pa.toInt < 0 ∨ 1 < pa.toInt) ∧ (2 : Int32).toInt = 1) ∨ ((0 ≤ pa.toInt ∧ pa.toInt ≤ 1) ∧ (2 : Int32).toInt = 2) from by omega)
            · skip
              have g69 := i_ne h65
              have f70 : 0 ≤ (m 94 11).toInt ∧ (m 94 11).toInt ≤ 1500 := rs_94_11 (m := m) hV
              have hV71 : zV (ma_u m 94 0 (0 : Int32)) := uf_94_0 hV
              refine sp_226 ((0 : Int32)) ((m 94 11)) hV71 (by omega) (by omega) (by omega) (fun v6 m5 hV_m5 p0_m5 => zmi_n ?_)
              have p0_m5 : v6.toInt = -1 ∨ ((0 : Int32).toInt ≤ v6.toInt ∧ v6.toInt < (m 94 11).toInt ∧ 1 ≤ (m5 94 84).toInt ∧ v6.toInt + (m5 94 84).toInt ≤ (m 94 11).toInt) := p0_m5
              have f72 : 0 ≤ (m5 94 84).toInt ∧ (m5 94 84).toInt ≤ 4600 := rs_94_84 (m := (zov wr_226 (ma_u m 94 0 (0 : Int32)) m5)) hV_m5
              have b73 := i_bd ix
              have b74 := i_bd v6
              exact lp_259v_85 (ix := ix) (pa := pa) hV K _ _ (ix) (pa) (v6) ((0 : Int32)) rfl (zF_zov (zF_u zF_rfl rfl) ws_226_259) hV_m5 (show (0 : Int) = 1 from by omega)
          · skip
            have g75 := i_nle h63
            have hV76 : zV (ma_u m 94 0 (1 : Int32)) := uf_94_0 hV
            exact K ((0 : Int32)) _ (zF_u zF_rfl rfl) hV76 (show (m 94 8).toInt = 0 from by omega) r_W r_GW (show ((pa.toInt < 0 ∨ 1 < pa.toInt) ∧ (1 : Int32).toInt = 1) ∨ ((0 ≤ pa.toInt ∧ pa.toInt ≤ 1) ∧ (1 : Int32).toInt = 2) from by omega)
      · skip
        have g77 := i_ne h54
        have b78 := i_bd pa
        refine zd (fun (h79 : pa < (0 : Int32)) => ?_) (fun (h79 : ¬ pa < (0 : Int32)) => ?_)
        · skip
          have g80 := i_lt h79
          have hV81 : zV (ma_u m 94 0 (1 : Int32)) := uf_94_0 hV
          have li82 : (1 : Int32).toInt = 1 := rfl
          exact K ((0 : Int32)) _ (zF_u zF_rfl rfl) hV81 (show (m 94 8).toInt = 0 from by omega) r_W r_GW (show ((pa.toInt < 0 ∨ 1 < pa.toInt) ∧ (1 : Int32).toInt = 1) ∨ ((0 ≤ pa.toInt ∧ pa.toInt ≤ 1) ∧ (1 : Int32).toInt = 2) from by omega)
        · skip
          have g83 := i_nlt h79
          have li84 : (1 : Int32).toInt = 1 := rfl
          refine zd (fun (h85 : pa ≤ (1 : Int32)) => ?_) (fun (h85 : ¬ pa ≤ (1 : Int32)) => ?_)
          · skip
            have g86 := i_le h85
            refine zd (fun (h87 : (m 94 8) = (0 : Int32)) => ?_) (fun (h87 : ¬ (m 94 8) = (0 : Int32)) => ?_)
            · skip
              have g88 := i_eq h87
              have hV89 : zV (ma_u m 94 0 (2 : Int32)) := uf_94_0 hV
              have li90 : (2 : Int32).toInt = 2 := rfl
              exact K ((0 : Int32)) _ (zF_u zF_rfl rfl) hV89 (show (m 94 8).toInt = 0 from by omega) r_W r_GW (show ((pa.toInt < 0 ∨ 1 < pa.toInt) ∧ (2 : Int32).toInt = 1) ∨ ((0 ≤ pa.toInt ∧ pa.toInt ≤ 1) ∧ (2 : Int32).toInt = 2) from by omega)
            · skip
              have g91 := i_ne h87
              have hV92 : zV (ma_u m 94 0 (3 : Int32)) := uf_94_0 hV
              have li93 : (3 : Int32).toInt = 3 := rfl
              exact K ((0 : Int32)) _ (zF_u zF_rfl rfl) hV92 (show (m 94 8).toInt = 0 from by omega) r_W r_GW (show ((pa.toInt < 0 ∨ 1 < pa.toInt) ∧ (3 : Int32).toInt = 1) ∨ ((0 ≤ pa.toInt ∧ pa.toInt ≤ 1) ∧ (3 : Int32).toInt = 2) from by omega)
          · skip
            have g94 := i_nle h85
            have hV95 : zV (ma_u m 94 0 (1 : Int32)) := uf_94_0 hV
            exact K ((0 : Int32)) _ (zF_u zF_rfl rfl) hV95 (show (m 94 8).toInt = 0 from by omega) r_W r_GW (show ((pa.toInt < 0 ∨ 1 < pa.toInt) ∧ (1 : Int32).toInt = 1) ∨ ((0 ≤ pa.toInt ∧ pa.toInt ≤ 1) ∧ (1 : Int32).toInt = 2) from by omega)
theorem sp_257w0 {X : Nat × (Nat → Int32)} {P : Option ma_V → (Nat → Nat → Int32) → Prop} {T : Nat} {m : Nat → Nat → Int32} (nn : Int32) (hV : zV m) (hpre0 : (m 94 8).toInt = 1) (hpre1 : (m 94 10).toInt = 0 ∨ (m 94 10).toInt = 4) (r_W : zW (m 94 7) (m 98) (m 101) (m 102) (m 108)) (r_GW : zGW T (m 94 55) (m 109)) (r_GU : zGU T (m 94 46) (m 99)) (r_OW : zOw (m 99) (m 103) (m 111)) (r_DX : zDX (m 94 10) (m 99) (m 112) (m 113) (m 114) (m 94 55) (m 98) (m 101) (m 102) (m 108)) (r_GG : zGG (m 94 58) (m 94 56) (m 94 57) (m 106)) (r_HA : zHA (m 94 10) (m 94 11) (m 94 13) (m 94 14) (m 94 16) (m 94 61) (m 94 59) (m 94 60) (m 99) (m 102) (m 103) (m 111) (m 117) (m 98) (m 101) (m 108)) (r_RGc : zRG (m 94 10) (m 94 18) (m 94 64) (m 94 63) (m 99) (m 103) (m 102) (m 116)) (hpre10 : (m 94 58).toInt = 0 ∨ (m 94 10).toInt = 5) (KZ : ∀ v m₉, zV (zov wr_257 m m₉) → (zW (m 94 7) (m 98) (m 101) (m 102) (m 108)) → (zGW T (m₉ 94 55) (m₉ 109)) → (zGU T (m 94 46) (m₉ 99)) → (zOw (m₉ 99) (m 103) (m₉ 111)) → (zDX (m 94 10) (m₉ 99) (m 112) (m₉ 113) (m₉ 114) (m₉ 94 55) (m 98) (m 101) (m 102) (m 108)) → (zGG (m₉ 94 58) (m₉ 94 56) (m₉ 94 57) (m₉ 106)) → (zHA (m 94 10) (m 94 11) (m 94 13) (m 94 14) (m 94 16) (m 94 61) (m 94 59) (m 94 60) (m₉ 99) (m 102) (m 103) (m₉ 111) (m 117) (m 98) (m 101) (m 108)) → (zRG (m 94 10) (m 94 18) (m 94 64) (m 94 63) (m₉ 99) (m 103) (m 102) (m 116)) → ((m₉ 94 58).toInt = 0 ∨ (m 94 10).toInt = 5) → (((nn.toInt < 0 ∨ 1000 < nn.toInt) ∧ (m₉ 94 0).toInt = 1) ∨ ((0 ≤ nn.toInt ∧ nn.toInt ≤ 1000) ∧ (m₉ 94 0).toInt = 3)) → ((m 98) = (m 98) ∧ (m₉ 99) = (m 99) ∧ (m 100) = (m 100) ∧ (m 101) = (m 101) ∧ (m 102) = (m 102) ∧ (m 103) = (m 103) ∧ (m₉ 105) = (m 105) ∧ (m 107) = (m 107) ∧ (m 108) = (m 108) ∧ (m₉ 109) = (m 109) ∧ (m₉ 111) = (m 111) ∧ (m 112) = (m 112) ∧ (m₉ 113) = (m 113) ∧ (m₉ 114) = (m 114) ∧ (m₉ 94 55) = (m 94 55) ∧ (m 94 46) = (m 94 46) ∧ (m 94 11) = (m 94 11) ∧ (m 94 12) = (m 94 12) ∧ (m 94 62) = (m 94 62) ∧ (m 94 17) = (m 94 17) ∧ (m 94 9) = (m 94 9) ∧ (m₉ 94 58) = (m 94 58) ∧ (m₉ 94 45) = (m 94 45)) → P (some (.inl v)) (zov wr_257 m m₉)) : zm X 5 109 257 0 [(0, .inr (.inr (some 94))), (1, .inl nn)] m P := by
  have K : ∀ v m₉, zF wr_257 m m₉ → zV m₉ → (zW (m₉ 94 7) (m₉ 98) (m₉ 101) (m₉ 102) (m₉ 108)) → (zGW T (m₉ 94 55) (m₉ 109)) → (zGU T (m₉ 94 46) (m₉ 99)) → (zOw (m₉ 99) (m₉ 103) (m₉ 111)) → (zDX (m₉ 94 10) (m₉ 99) (m₉ 112) (m₉ 113) (m₉ 114) (m₉ 94 55) (m₉ 98) (m₉ 101) (m₉ 102) (m₉ 108)) → (zGG (m₉ 94 58) (m₉ 94 56) (m₉ 94 57) (m₉ 106)) → (zHA (m₉ 94 10) (m₉ 94 11) (m₉ 94 13) (m₉ 94 14) (m₉ 94 16) (m₉ 94 61) (m₉ 94 59) (m₉ 94 60) (m₉ 99) (m₉ 102) (m₉ 103) (m₉ 111) (m₉ 117) (m₉ 98) (m₉ 101) (m₉ 108)) → (zRG (m₉ 94 10) (m₉ 94 18) (m₉ 94 64) (m₉ 94 63) (m₉ 99) (m₉ 103) (m₉ 102) (m₉ 116)) → ((m₉ 94 58).toInt = 0 ∨ (m₉ 94 10).toInt = 5) → (((nn.toInt < 0 ∨ 1000 < nn.toInt) ∧ (m₉ 94 0).toInt = 1) ∨ ((0 ≤ nn.toInt ∧ nn.toInt ≤ 1000) ∧ (m₉ 94 0).toInt = 3)) → ((m₉ 98) = (m 98) ∧ (m₉ 99) = (m 99) ∧ (m₉ 100) = (m 100) ∧ (m₉ 101) = (m 101) ∧ (m₉ 102) = (m 102) ∧ (m₉ 103) = (m 103) ∧ (m₉ 105) = (m 105) ∧ (m₉ 107) = (m 107) ∧ (m₉ 108) = (m 108) ∧ (m₉ 109) = (m 109) ∧ (m₉ 111) = (m 111) ∧ (m₉ 112) = (m 112) ∧ (m₉ 113) = (m 113) ∧ (m₉ 114) = (m 114) ∧ (m₉ 94 55) = (m 94 55) ∧ (m₉ 94 46) = (m 94 46) ∧ (m₉ 94 11) = (m 94 11) ∧ (m₉ 94 12) = (m 94 12) ∧ (m₉ 94 62) = (m 94 62) ∧ (m₉ 94 17) = (m 94 17) ∧ (m₉ 94 9) = (m 94 9) ∧ (m₉ 94 58) = (m 94 58) ∧ (m₉ 94 45) = (m 94 45)) → P (some (.inl v)) m₉ := by
    intro v m₉ hf z q0 q1 q2 q3 q4 q5 q6 q7 q8 q9 q10
    have e := zov_eq hf
    rw [e] at z ⊢
    try rw [e] at q0
    try rw [e] at q1
    try rw [e] at q2
    try rw [e] at q3
    try rw [e] at q4
    try rw [e] at q5
    try rw [e] at q6
    try rw [e] at q7
    try rw [e] at q8
    try rw [e] at q9
    try rw [e] at q10
    exact KZ v m₉ z q0 q1 q2 q3 q4 q5 q6 q7 q8 q9 q10
  refine g_257_0 nn ?_
  have f1 : 0 ≤ (m 94 8).toInt ∧ (m 94 8).toInt ≤ 1 := rs_94_8 (m := m) hV
  have f2 : 0 ≤ (m 94 10).toInt ∧ (m 94 10).toInt ≤ 6 := rs_94_10 (m := m) hV
  have f3 : 0 ≤ (m 94 58).toInt ∧ (m 94 58).toInt ≤ 1 := rs_94_58 (m := m) hV
  have b4 := i_bd nn
  have li5 : (0 : Int32).toInt = 0 := rfl
  refine zd (fun (h6 : nn < (0 : Int32)) => ?_) (fun (h6 : ¬ nn < (0 : Int32)) => ?_)
  · skip
    have g7 := i_lt h6
    have hV8 : zV (ma_u m 94 0 (1 : Int32)) := uf_94_0 hV
    have li9 : (1 : Int32).toInt = 1 := rfl
    exact K ((0 : Int32)) _ (zF_u zF_rfl rfl) hV8 r_W r_GW r_GU r_OW r_DX r_GG r_HA r_RGc (show (m 94 58).toInt = 0 ∨ (m 94 10).toInt = 5 from by omega) (show ((nn.toInt < 0 ∨ 1000 < nn.toInt) ∧ (1 : Int32).toInt = 1) ∨ ((0 ≤ nn.toInt ∧ nn.toInt ≤ 1000) ∧ (1 : Int32).toInt = 3) from by omega) (show (m 98) = (m 98) ∧ (m 99) = (m 99) ∧ (m 100) = (m 100) ∧ (m 101) = (m 101) ∧ (m 102) = (m 102) ∧ (m 103) = (m 103) ∧ (m 105) = (m 105) ∧ (m 107) = (m 107) ∧ (m 108) = (m 108) ∧ (m 109) = (m 109) ∧ (m 111) = (m 111) ∧ (m 112) = (m 112) ∧ (m 113) = (m 113) ∧ (m 114) = (m 114) ∧ (m 94 55) = (m 94 55) ∧ (m 94 46) = (m 94 46) ∧ (m 94 11) = (m 94 11) ∧ (m 94 12) = (m 94 12) ∧ (m 94 62) = (m 94 62) ∧ (m 94 17) = (m 94 17) ∧ (m 94 9) = (m 94 9) ∧ (m 94 58) = (m 94 58) ∧ (m 94 45) = (m 94 45) from by first | (exact ⟨rfl, rfl, rfl, rfl, rfl, rfl, rfl, rfl, rfl, rfl, rfl, rfl, rfl, rfl, rfl, rfl, rfl, rfl, rfl, rfl, rfl, rfl, rfl⟩) | (exfalso; omega; done) | (exfalso; contradiction; done))
  · skip
    have g10 := i_nlt h6
    have li11 : (1000 : Int32).toInt = 1000 := rfl
    refine zd (fun (h12 : nn ≤ (1000 : Int32)) => ?_) (fun (h12 : ¬ nn ≤ (1000 : Int32)) => ?_)
    · skip
      have g13 := i_le h12
      refine zd (fun (h14 : (m 94 8) = (0 : Int32)) => ?_) (fun (h14 : ¬ (m 94 8) = (0 : Int32)) => ?_)
      · skip
        have g15 := i_eq h14
        have hV16 : zV (ma_u m 94 0 (2 : Int32)) := uf_94_0 hV
        have li17 : (2 : Int32).toInt = 2 := rfl
        exact K ((0 : Int32)) _ (zF_u zF_rfl rfl) hV16 r_W r_GW r_GU r_OW r_DX r_GG r_HA r_RGc (show (m 94 58).toInt = 0 ∨ (m 94 10).toInt = 5 from by omega) (show ((nn.toInt < 0 ∨ 1000 < nn.toInt) ∧ (2 : Int32).toInt = 1) ∨ ((0 ≤ nn.toInt ∧ nn.toInt ≤ 1000) ∧ (2 : Int32).toInt = 3) from by omega) (show (m 98) = (m 98) ∧ (m 99) = (m 99) ∧ (m 100) = (m 100) ∧ (m 101) = (m 101) ∧ (m 102) = (m 102) ∧ (m 103) = (m 103) ∧ (m 105) = (m 105) ∧ (m 107) = (m 107) ∧ (m 108) = (m 108) ∧ (m 109) = (m 109) ∧ (m 111) = (m 111) ∧ (m 112) = (m 112) ∧ (m 113) = (m 113) ∧ (m 114) = (m 114) ∧ (m 94 55) = (m 94 55) ∧ (m 94 46) = (m 94 46) ∧ (m 94 11) = (m 94 11) ∧ (m 94 12) = (m 94 12) ∧ (m 94 62) = (m 94 62) ∧ (m 94 17) = (m 94 17) ∧ (m 94 9) = (m 94 9) ∧ (m 94 58) = (m 94 58) ∧ (m 94 45) = (m 94 45) from by first | (exact ⟨rfl, rfl, rfl, rfl, rfl, rfl, rfl, rfl, rfl, rfl, rfl, rfl, rfl, rfl, rfl, rfl, rfl, rfl, rfl, rfl, rfl, rfl, rfl⟩) | (exfalso; omega; done) | (exfalso; contradiction; done))
      · skip
        have g18 := i_ne h14
        have li19 : (5 : Int32).toInt = 5 := rfl
        refine zd (fun (h20 : (m 94 10) = (5 : Int32)) => ?_) (fun (h20 : ¬ (m 94 10) = (5 : Int32)) => ?_)
        · skip
          have g21 := i_eq h20
          refine zd (fun (h22 : (m 94 58) = (0 : Int32)) => ?_) (fun (h22 : ¬ (m 94 58) = (0 : Int32)) => ?_)
          · skip
            have g23 := i_eq h22
            have hV24 : zV (ma_u m 94 0 (0 : Int32)) := uf_94_0 hV
            exact K ((0 : Int32)) _ (zF_u zF_rfl rfl) hV24 r_W r_GW r_GU r_OW r_DX r_GG r_HA r_RGc (show (m 94 58).toInt = 0 ∨ (m 94 10).toInt = 5 from by omega) (show ((nn.toInt < 0 ∨ 1000 < nn.toInt) ∧ (0 : Int32).toInt = 1) ∨ ((0 ≤ nn.toInt ∧ nn.toInt ≤ 1000) ∧ (0 : Int32).toInt = 3) from by omega) (show (m 98) = (m 98) ∧ (m 99) = (m 99) ∧ (m 100) = (m 100) ∧ (m 101) = (m 101) ∧ (m 102) = (m 102) ∧ (m 103) = (m 103) ∧ (m 105) = (m 105) ∧ (m 107) = (m 107) ∧ (m 108) = (m 108) ∧ (m 109) = (m 109) ∧ (m 111) = (m 111) ∧ (m 112) = (m 112) ∧ (m 113) = (m 113) ∧ (m 114) = (m 114) ∧ (m 94 55) = (m 94 55) ∧ (m 94 46) = (m 94 46) ∧ (m 94 11) = (m 94 11) ∧ (m 94 12) = (m 94 12) ∧ (m 94 62) = (m 94 62) ∧ (m 94 17) = (m 94 17) ∧ (m 94 9) = (m 94 9) ∧ (m 94 58) = (m 94 58) ∧ (m 94 45) = (m 94 45) from by first | (exact ⟨rfl, rfl, rfl, rfl, rfl, rfl, rfl, rfl, rfl, rfl, rfl, rfl, rfl, rfl, rfl, rfl, rfl, rfl, rfl, rfl, rfl, rfl, rfl⟩) | (exfalso; omega; done) | (exfalso; contradiction; done))
          · skip
            have g25 := i_ne h22
            have hV26 : zV (ma_u m 94 0 (0 : Int32)) := uf_94_0 hV
            refine sp_222 (nn) hV26 r_W (show zG1 (m 94 56) (m 94 57) (m 106) from by first | (exact G1_0 (by omega) (by omega)) | (exact r_GG (by omega)) | (exfalso; omega; done) | (exfalso; contradiction; done)) (fun v2 m1 hV_m1 p0_m1 p1_m1 p2_m1 => zmi_n ?_)
            have p0_m1 : zG1 (m1 94 56) (m1 94 57) (m1 106) := p0_m1
            have p1_m1 : (m 94 56).toInt ≤ (m1 94 56).toInt := p1_m1
            have p2_m1 : (m 94 57).toInt ≤ (m1 94 57).toInt ∧ ((m1 94 56).toInt ≤ (m1 94 57).toInt ∨ (m 94 57).toInt + nn.toInt ≤ (m1 94 57).toInt) := p2_m1
            have f27 : 0 ≤ (m 94 56).toInt ∧ (m 94 56).toInt ≤ 3100 := rs_94_56 (m := m) hV
            have f28 : 0 ≤ (m1 94 56).toInt ∧ (m1 94 56).toInt ≤ 3100 := rs_94_56 (m := (zov wr_222 (ma_u m 94 0 (0 : Int32)) m1)) hV_m1
            have f29 : 0 ≤ (m 94 57).toInt ∧ (m 94 57).toInt ≤ 3100 := rs_94_57 (m := m) hV
            have f30 : 0 ≤ (m1 94 57).toInt ∧ (m1 94 57).toInt ≤ 3100 := rs_94_57 (m := (zov wr_222 (ma_u m 94 0 (0 : Int32)) m1)) hV_m1
            refine sp_223  hV_m1 r_W r_GW r_GU r_OW r_DX p0_m1 (show (m 94 10).toInt = 5 from by omega) (show (m 94 58).toInt = 1 from by omega) (fun v4 m3 hV_m3 p0_m3 p1_m3 p2_m3 p3_m3 p4_m3 p5_m3 => zmi_n ?_)
            have p0_m3 : zGW T (m3 94 55) (m3 109) := p0_m3
            have p1_m3 : zGU T (m 94 46) (m3 99) := p1_m3
            have p2_m3 : zOw (m3 99) (m 103) (m3 111) := p2_m3
            have p3_m3 : zDX (m 94 10) (m3 99) (m 112) (m3 113) (m3 114) (m3 94 55) (m 98) (m 101) (m 102) (m 108) := p3_m3
            have p4_m3 : zGG (m3 94 58) (m3 94 56) (m1 94 57) (m3 106) := p4_m3
            have p5_m3 : (m3 94 58).toInt = 0 ∨ ((m3 94 58).toInt = 1 ∧ (m1 94 57).toInt < (m3 94 56).toInt ∧ (m1 94 57).toInt = (m1 94 57).toInt) := p5_m3
            have f31 : 0 ≤ (m3 94 58).toInt ∧ (m3 94 58).toInt ≤ 1 := rs_94_58 (m := (zov wr_223 (zov wr_222 (ma_u m 94 0 (0 : Int32)) m1) m3)) hV_m3
            have f32 : 0 ≤ (m3 94 56).toInt ∧ (m3 94 56).toInt ≤ 3100 := rs_94_56 (m := (zov wr_223 (zov wr_222 (ma_u m 94 0 (0 : Int32)) m1) m3)) hV_m3
            have b33 := i_bd v2
            exact K (v2) _ (zF_zov (zF_zov (zF_u zF_rfl rfl) ws_222_257) ws_223_257) hV_m3 r_W p0_m3 p1_m3 p2_m3 p3_m3 p4_m3 (show zHA (m 94 10) (m 94 11) (m 94 13) (m 94 14) (m 94 16) (m 94 61) (m 94 59) (m 94 60) (m3 99) (m 102) (m 103) (m3 111) (m 117) (m 98) (m 101) (m 108) from by first | (exfalso; omega; done) | (exfalso; contradiction; done)) (show zRG (m 94 10) (m 94 18) (m 94 64) (m 94 63) (m3 99) (m 103) (m 102) (m 116) from by first | (exfalso; omega; done) | (exfalso; contradiction; done)) (show (m3 94 58).toInt = 0 ∨ (m 94 10).toInt = 5 from by omega) (show ((nn.toInt < 0 ∨ 1000 < nn.toInt) ∧ (0 : Int32).toInt = 1) ∨ ((0 ≤ nn.toInt ∧ nn.toInt ≤ 1000) ∧ (0 : Int32).toInt = 3) from by omega) (show (m 98) = (m 98) ∧ (m3 99) = (m 99) ∧ (m 100) = (m 100) ∧ (m 101) = (m 101) ∧ (m 102) = (m 102) ∧ (m 103) = (m 103) ∧ (m3 105) = (m 105) ∧ (m 107) = (m 107) ∧ (m 108) = (m 108) ∧ (m3 109) = (m 109) ∧ (m3 111) = (m 111) ∧ (m 112) = (m 112) ∧ (m3 113) = (m 113) ∧ (m3 114) = (m 114) ∧ (m3 94 55) = (m 94 55) ∧ (m 94 46) = (m 94 46) ∧ (m 94 11) = (m 94 11) ∧ (m 94 12) = (m 94 12) ∧ (m 94 62) = (m 94 62) ∧ (m 94 17) = (m 94 17) ∧ (m 94 9) = (m 94 9) ∧ (m3 94 58) = (m 94 58) ∧ (m3 94 45) = (m 94 45) from by first | (exact ⟨rfl, rfl, rfl, rfl, rfl, rfl, rfl, rfl, rfl, rfl, rfl, rfl, rfl, rfl, rfl, rfl, rfl, rfl, rfl, rfl, rfl, rfl, rfl⟩) | (exfalso; omega; done) | (exfalso; contradiction; done))
        · skip
          have g34 := i_ne h20
          have hV35 : zV (ma_u m 94 0 (3 : Int32)) := uf_94_0 hV
          have li36 : (3 : Int32).toInt = 3 := rfl
          exact K ((0 : Int32)) _ (zF_u zF_rfl rfl) hV35 r_W r_GW r_GU r_OW r_DX r_GG r_HA r_RGc (show (m 94 58).toInt = 0 ∨ (m 94 10).toInt = 5 from by omega) (show ((nn.toInt < 0 ∨ 1000 < nn.toInt) ∧ (3 : Int32).toInt = 1) ∨ ((0 ≤ nn.toInt ∧ nn.toInt ≤ 1000) ∧ (3 : Int32).toInt = 3) from by omega) (show (m 98) = (m 98) ∧ (m 99) = (m 99) ∧ (m 100) = (m 100) ∧ (m 101) = (m 101) ∧ (m 102) = (m 102) ∧ (m 103) = (m 103) ∧ (m 105) = (m 105) ∧ (m 107) = (m 107) ∧ (m 108) = (m 108) ∧ (m 109) = (m 109) ∧ (m 111) = (m 111) ∧ (m 112) = (m 112) ∧ (m 113) = (m 113) ∧ (m 114) = (m 114) ∧ (m 94 55) = (m 94 55) ∧ (m 94 46) = (m 94 46) ∧ (m 94 11) = (m 94 11) ∧ (m 94 12) = (m 94 12) ∧ (m 94 62) = (m 94 62) ∧ (m 94 17) = (m 94 17) ∧ (m 94 9) = (m 94 9) ∧ (m 94 58) = (m 94 58) ∧ (m 94 45) = (m 94 45) from by first | (exact ⟨rfl, rfl, rfl, rfl, rfl, rfl, rfl, rfl, rfl, rfl, rfl, rfl, rfl, rfl, rfl, rfl, rfl, rfl, rfl, rfl, rfl, rfl, rfl⟩) | (exfalso; omega; done) | (exfalso; contradiction; done))
    · skip
      have g37 := i_nle h12
      have hV38 : zV (ma_u m 94 0 (1 : Int32)) := uf_94_0 hV
      have li39 : (1 : Int32).toInt = 1 := rfl
      exact K ((0 : Int32)) _ (zF_u zF_rfl rfl) hV38 r_W r_GW r_GU r_OW r_DX r_GG r_HA r_RGc (show (m 94 58).toInt = 0 ∨ (m 94 10).toInt = 5 from by omega) (show ((nn.toInt < 0 ∨ 1000 < nn.toInt) ∧ (1 : Int32).toInt = 1) ∨ ((0 ≤ nn.toInt ∧ nn.toInt ≤ 1000) ∧ (1 : Int32).toInt = 3) from by omega) (show (m 98) = (m 98) ∧ (m 99) = (m 99) ∧ (m 100) = (m 100) ∧ (m 101) = (m 101) ∧ (m 102) = (m 102) ∧ (m 103) = (m 103) ∧ (m 105) = (m 105) ∧ (m 107) = (m 107) ∧ (m 108) = (m 108) ∧ (m 109) = (m 109) ∧ (m 111) = (m 111) ∧ (m 112) = (m 112) ∧ (m 113) = (m 113) ∧ (m 114) = (m 114) ∧ (m 94 55) = (m 94 55) ∧ (m 94 46) = (m 94 46) ∧ (m 94 11) = (m 94 11) ∧ (m 94 12) = (m 94 12) ∧ (m 94 62) = (m 94 62) ∧ (m 94 17) = (m 94 17) ∧ (m 94 9) = (m 94 9) ∧ (m 94 58) = (m 94 58) ∧ (m 94 45) = (m 94 45) from by first | (exact ⟨rfl, rfl, rfl, rfl, rfl, rfl, rfl, rfl, rfl, rfl, rfl, rfl, rfl, rfl, rfl, rfl, rfl, rfl, rfl, rfl, rfl, rfl, rfl⟩) | (exfalso; omega; done) | (exfalso; contradiction; done))

/-! from 95.o24 -/
/-! the reference under COUNTS (written by wip/tools/gen20s.py) -/
theorem sp_170uz {X : Nat × (Nat → Int32)} {P : Option ma_V → (Nat → Nat → Int32) → Prop} {T : Nat} {aa : Nat→Nat→Int32} {m : Nat → Nat → Int32} (nw : Int32) (rf : Int32) (hV : zV m) (hpre0 : T ≤ 512) (r_W : zW (m 94 7) (m 98) (m 101) (m 102) (m 108)) (r_GW : zGW T (m 94 55) (m 109)) (r_GU : zGU T (m 94 46) (m 99)) (r_OW : zOw (m 99) (m 103) (m 111)) (r_GG : zGG (m 94 58) (m 94 56) (m 94 57) (m 106)) (r_RB : qRB (m 99) (m 100) (m 98) (m 101) (m 102) (m 103) (m 107) (m 108) (m 109) (m 111) (m 112) (m 113) (m 114) (m 94 55) (m 94 46) (m 94 11) (m 94 12) (m 94 62) (m 94 17) (m 94 9) aa) (r_QI : qI aa) (r_MK : aa 87 8 = (m 94 58)) (r_WTS : (m 94 45).toInt = sm (zbU (m 99)) (m 102) 3100) (KZ : ∀ v m₉, zV (zov wr_170 m m₉) → (zW (m₉ 94 7) (m₉ 98) (m 101) (m 102) (m 108)) → (zGW T (m 94 55) (m 109)) → (zGU T (m 94 46) (m 99)) → (zOw (m 99) (m 103) (m 111)) → (zGG (m 94 58) (m 94 56) (m 94 57) (m 106)) → (qRB (m 99) (m 100) (m₉ 98) (m 101) (m 102) (m 103) (m 107) (m 108) (m 109) (m 111) (m 112) (m 113) (m 114) (m 94 55) (m 94 46) (m 94 11) (m 94 12) (m 94 62) (m 94 17) (m 94 9) aa) → (qI aa) → (aa 87 8 = (m 94 58)) → ((m 94 45).toInt = sm (zbU (m 99)) (m 102) 3100) → (((nw.toInt < 0 ∨ 8 < nw.toInt ∨ rf.toInt < 0 ∨ ((1 : Int32) <<< (nw &&& 31)).toInt ≤ rf.toInt) ∧ (m₉ 94 0).toInt = 1 ∧ (m₉ 94 7).toInt = (m 94 7).toInt) ∨ (¬ (nw.toInt < 0 ∨ 8 < nw.toInt ∨ rf.toInt < 0 ∨ ((1 : Int32) <<< (nw &&& 31)).toInt ≤ rf.toInt) ∧ (m 94 7).toInt = 16 ∧ (m₉ 94 0).toInt = 2 ∧ (m₉ 94 7).toInt = (m 94 7).toInt) ∨ (¬ (nw.toInt < 0 ∨ 8 < nw.toInt ∨ rf.toInt < 0 ∨ ((1 : Int32) <<< (nw &&& 31)).toInt ≤ rf.toInt) ∧ (m 94 7).toInt < 16 ∧ (m₉ 94 0).toInt = 0 ∧ (m₉ 94 7).toInt = (m 94 7).toInt + 1 ∧ v.toInt = (m 94 7).toInt)) → (((m₉ 94 7).toInt = (m 94 7).toInt ∧ (m₉ 97) = (m 97) ∧ (m₉ 98) = (m 98)) ∨ ((m₉ 94 7).toInt = (m 94 7).toInt + 1 ∧ (m₉ 97) = zUp (m 97) (m 94 7).toNatClampNeg nw ∧ (m₉ 98) = zUp (m 98) (m 94 7).toNatClampNeg rf)) → P (some (.inl v)) (zov wr_170 m m₉)) : zm X 1 21 170 0 [(0, .inr (.inr (some 94))), (1, .inl nw), (2, .inl rf)] m P := by
  have K : ∀ v m₉, zF wr_170 m m₉ → zV m₉ → (zW (m₉ 94 7) (m₉ 98) (m₉ 101) (m₉ 102) (m₉ 108)) → (zGW T (m₉ 94 55) (m₉ 109)) → (zGU T (m₉ 94 46) (m₉ 99)) → (zOw (m₉ 99) (m₉ 103) (m₉ 111)) → (zGG (m₉ 94 58) (m₉ 94 56) (m₉ 94 57) (m₉ 106)) → (qRB (m₉ 99) (m₉ 100) (m₉ 98) (m₉ 101) (m₉ 102) (m₉ 103) (m₉ 107) (m₉ 108) (m₉ 109) (m₉ 111) (m₉ 112) (m₉ 113) (m₉ 114) (m₉ 94 55) (m₉ 94 46) (m₉ 94 11) (m₉ 94 12) (m₉ 94 62) (m₉ 94 17) (m₉ 94 9) aa) → (qI aa) → (aa 87 8 = (m₉ 94 58)) → ((m₉ 94 45).toInt = sm (zbU (m₉ 99)) (m₉ 102) 3100) → (((nw.toInt < 0 ∨ 8 < nw.toInt ∨ rf.toInt < 0 ∨ ((1 : Int32) <<< (nw &&& 31)).toInt ≤ rf.toInt) ∧ (m₉ 94 0).toInt = 1 ∧ (m₉ 94 7).toInt = (m 94 7).toInt) ∨ (¬ (nw.toInt < 0 ∨ 8 < nw.toInt ∨ rf.toInt < 0 ∨ ((1 : Int32) <<< (nw &&& 31)).toInt ≤ rf.toInt) ∧ (m 94 7).toInt = 16 ∧ (m₉ 94 0).toInt = 2 ∧ (m₉ 94 7).toInt = (m 94 7).toInt) ∨ (¬ (nw.toInt < 0 ∨ 8 < nw.toInt ∨ rf.toInt < 0 ∨ ((1 : Int32) <<< (nw &&& 31)).toInt ≤ rf.toInt) ∧ (m 94 7).toInt < 16 ∧ (m₉ 94 0).toInt = 0 ∧ (m₉ 94 7).toInt = (m 94 7).toInt + 1 ∧ v.toInt = (m 94 7).toInt)) → (((m₉ 94 7).toInt = (m 94 7).toInt ∧ (m₉ 97) = (m 97) ∧ (m₉ 98) = (m 98)) ∨ ((m₉ 94 7).toInt = (m 94 7).toInt + 1 ∧ (m₉ 97) = zUp (m 97) (m 94 7).toNatClampNeg nw ∧ (m₉ 98) = zUp (m 98) (m 94 7).toNatClampNeg rf)) → P (some (.inl v)) m₉ := by
    intro v m₉ hf z q0 q1 q2 q3 q4 q5 q6 q7 q8 q9 q10
    have e := zov_eq hf
    rw [e] at z ⊢
    try rw [e] at q0
    try rw [e] at q1
    try rw [e] at q2
    try rw [e] at q3
    try rw [e] at q4
    try rw [e] at q5
    try rw [e] at q6
    try rw [e] at q7
    try rw [e] at q8
    try rw [e] at q9
    try rw [e] at q10
    exact KZ v m₉ z q0 q1 q2 q3 q4 q5 q6 q7 q8 q9 q10
  refine g_170_0 nw rf ?_
  have b1 := i_bd nw
  have li2 : (0 : Int32).toInt = 0 := rfl
  refine zd (fun (h3 : nw < (0 : Int32)) => ?_) (fun (h3 : ¬ nw < (0 : Int32)) => ?_)
  · skip
    have g4 := i_lt h3
    have hV5 : zV (ma_u m 94 0 (1 : Int32)) := uf_94_0 hV
    have li6 : (1 : Int32).toInt = 1 := rfl
    have f7 : 0 ≤ (m 94 7).toInt ∧ (m 94 7).toInt ≤ 16 := rs_94_7 (m := m) hV
    exact K ((0 : Int32)) _ (zF_u zF_rfl rfl) hV5 r_W r_GW r_GU r_OW r_GG r_RB r_QI r_MK r_WTS (show ((nw.toInt < 0 ∨ 8 < nw.toInt ∨ rf.toInt < 0 ∨ ((1 : Int32) <<< (nw &&& 31)).toInt ≤ rf.toInt) ∧ (1 : Int32).toInt = 1 ∧ (m 94 7).toInt = (m 94 7).toInt) ∨ (¬ (nw.toInt < 0 ∨ 8 < nw.toInt ∨ rf.toInt < 0 ∨ ((1 : Int32) <<< (nw &&& 31)).toInt ≤ rf.toInt) ∧ (m 94 7).toInt = 16 ∧ (1 : Int32).toInt = 2 ∧ (m 94 7).toInt = (m 94 7).toInt) ∨ (¬ (nw.toInt < 0 ∨ 8 < nw.toInt ∨ rf.toInt < 0 ∨ ((1 : Int32) <<< (nw &&& 31)).toInt ≤ rf.toInt) ∧ (m 94 7).toInt < 16 ∧ (1 : Int32).toInt = 0 ∧ (m 94 7).toInt = (m 94 7).toInt + 1 ∧ (0 : Int32).toInt = (m 94 7).toInt) from by omega) (show ((m 94 7).toInt = (m 94 7).toInt ∧ (m 97) = (m 97) ∧ (m 98) = (m 98)) ∨ ((m 94 7).toInt = (m 94 7).toInt + 1 ∧ (m 97) = zUp (m 97) (m 94 7).toNatClampNeg nw ∧ (m 98) = zUp (m 98) (m 94 7).toNatClampNeg rf) from by first | (exact Or.inl ⟨rfl, rfl, rfl⟩) | (exfalso; omega; done) | (exfalso; contradiction; done))
  · skip
    have g8 := i_nlt h3
    have li9 : (8 : Int32).toInt = 8 := rfl
    refine zd (fun (h10 : nw ≤ (8 : Int32)) => ?_) (fun (h10 : ¬ nw ≤ (8 : Int32)) => ?_)
    · skip
      have g11 := i_le h10
      have b12 := i_bd rf
      refine zd (fun (h13 : rf < (0 : Int32)) => ?_) (fun (h13 : ¬ rf < (0 : Int32)) => ?_)
      · skip
        have g14 := i_lt h13
        have hV15 : zV (ma_u m 94 0 (1 : Int32)) := uf_94_0 hV
        have li16 : (1 : Int32).toInt = 1 := rfl
        have f17 : 0 ≤ (m 94 7).toInt ∧ (m 94 7).toInt ≤ 16 := rs_94_7 (m := m) hV
        exact K ((0 : Int32)) _ (zF_u zF_rfl rfl) hV15 r_W r_GW r_GU r_OW r_GG r_RB r_QI r_MK r_WTS (show ((nw.toInt < 0 ∨ 8 < nw.toInt ∨ rf.toInt < 0 ∨ ((1 : Int32) <<< (nw &&& 31)).toInt ≤ rf.toInt) ∧ (1 : Int32).toInt = 1 ∧ (m 94 7).toInt = (m 94 7).toInt) ∨ (¬ (nw.toInt < 0 ∨ 8 < nw.toInt ∨ rf.toInt < 0 ∨ ((1 : Int32) <<< (nw &&& 31)).toInt ≤ rf.toInt) ∧ (m 94 7).toInt = 16 ∧ (1 : Int32).toInt = 2 ∧ (m 94 7).toInt = (m 94 7).toInt) ∨ (¬ (nw.toInt < 0 ∨ 8 < nw.toInt ∨ rf.toInt < 0 ∨ ((1 : Int32) <<< (nw &&& 31)).toInt ≤ rf.toInt) ∧ (m 94 7).toInt < 16 ∧ (1 : Int32).toInt = 0 ∧ (m 94 7).toInt = (m 94 7).toInt + 1 ∧ (0 : Int32).toInt = (m 94 7).toInt) from by omega) (show ((m 94 7).toInt = (m 94 7).toInt ∧ (m 97) = (m 97) ∧ (m 98) = (m 98)) ∨ ((m 94 7).toInt = (m 94 7).toInt + 1 ∧ (m 97) = zUp (m 97) (m 94 7).toNatClampNeg nw ∧ (m 98) = zUp (m 98) (m 94 7).toNatClampNeg rf) from by first | (exact Or.inl ⟨rfl, rfl, rfl⟩) | (exfalso; omega; done) | (exfalso; contradiction; done))
      · skip
        have g18 := i_nlt h13
        have b19 := i_bd ((1 : Int32) <<< (nw &&& 31))
        refine zd (fun (h20 : rf < ((1 : Int32) <<< (nw &&& 31))) => ?_) (fun (h20 : ¬ rf < ((1 : Int32) <<< (nw &&& 31))) => ?_)
        · skip
          have g21 := i_lt h20
          have f22 : 0 ≤ (m 94 7).toInt ∧ (m 94 7).toInt ≤ 16 := rs_94_7 (m := m) hV
          have li23 : (16 : Int32).toInt = 16 := rfl
          refine zd (fun (h24 : (m 94 7) = (16 : Int32)) => ?_) (fun (h24 : ¬ (m 94 7) = (16 : Int32)) => ?_)
          · skip
            have g25 := i_eq h24
            have hV26 : zV (ma_u m 94 0 (2 : Int32)) := uf_94_0 hV
            have li27 : (2 : Int32).toInt = 2 := rfl
            exact K ((0 : Int32)) _ (zF_u zF_rfl rfl) hV26 r_W r_GW r_GU r_OW r_GG r_RB r_QI r_MK r_WTS (show ((nw.toInt < 0 ∨ 8 < nw.toInt ∨ rf.toInt < 0 ∨ ((1 : Int32) <<< (nw &&& 31)).toInt ≤ rf.toInt) ∧ (2 : Int32).toInt = 1 ∧ (m 94 7).toInt = (m 94 7).toInt) ∨ (¬ (nw.toInt < 0 ∨ 8 < nw.toInt ∨ rf.toInt < 0 ∨ ((1 : Int32) <<< (nw &&& 31)).toInt ≤ rf.toInt) ∧ (m 94 7).toInt = 16 ∧ (2 : Int32).toInt = 2 ∧ (m 94 7).toInt = (m 94 7).toInt) ∨ (¬ (nw.toInt < 0 ∨ 8 < nw.toInt ∨ rf.toInt < 0 ∨ ((1 : Int32) <<< (nw &&& 31)).toInt ≤ rf.toInt) ∧ (m 94 7).toInt < 16 ∧ (2 : Int32).toInt = 0 ∧ (m 94 7).toInt = (m 94 7).toInt + 1 ∧ (0 : Int32).toInt = (m 94 7).toInt) from by omega) (show ((m 94 7).toInt = (m 94 7).toInt ∧ (m 97) = (m 97) ∧ (m 98) = (m 98)) ∨ ((m 94 7).toInt = (m 94 7).toInt + 1 ∧ (m 97) = zUp (m 97) (m 94 7).toNatClampNeg nw ∧ (m 98) = zUp (m 98) (m 94 7).toNatClampNeg rf) from by first | (exact Or.inl ⟨rfl, rfl, rfl⟩) | (exfalso; omega; done) | (exfalso; contradiction; done))
          · skip
            have g28 := i_ne h24
            have hg29 : (0 ≤ (m 94 7) ∧ (m 94 7).toNatClampNeg < 16) := i_ix (by omega) (by omega)
            refine ⟨hg29, ?_⟩
            try have sh := i_shl8 (n := nw) (by omega) (by omega)
            have hg30 : (0 ≤ (m 94 7) ∧ (m 94 7).toNatClampNeg < 16) := i_ix (by omega) (by omega)
            refine ⟨hg30, ?_⟩
            have hV31 : zV (ma_u m 94 0 (0 : Int32)) := uf_94_0 hV
            have hV32 : zV (ma_u (ma_u m 94 0 (0 : Int32)) 97 (m 94 7).toNatClampNeg nw) := ua_97 hV31 (by omega) (by omega)
            have hV33 : zV (ma_u (ma_u (ma_u m 94 0 (0 : Int32)) 97 (m 94 7).toNatClampNeg nw) 98 (m 94 7).toNatClampNeg rf) := ua_98 hV32 (by omega) (by omega)
            first | have e35 : ((m 94 7) + (1 : Int32)).toInt = (m 94 7).toInt + (1) := i_addk rfl (by omega) (by omega) | have b36 := i_bd ((m 94 7) + (1 : Int32))
            have hV34 : zV (ma_u (ma_u (ma_u (ma_u m 94 0 (0 : Int32)) 97 (m 94 7).toNatClampNeg nw) 98 (m 94 7).toNatClampNeg rf) 94 7 ((m 94 7) + (1 : Int32))) := us_94_7 hV33 (by omega) (by omega)
            first | have e37 : (((m 94 7) + (1 : Int32)) - (1 : Int32)).toInt = ((m 94 7) + (1 : Int32)).toInt - (1) := i_subk rfl (by omega) (by omega) | have b38 := i_bd (((m 94 7) + (1 : Int32)) - (1 : Int32))
            exact K ((((m 94 7) + (1 : Int32)) - (1 : Int32))) _ (zF_u (zF_u (zF_u (zF_u zF_rfl rfl) rfl) rfl) rfl) hV34 (show zW ((m 94 7) + (1 : Int32)) ((ma_u m 98 (m 94 7).toNatClampNeg rf) 98) (m 101) (m 102) (m 108) from by first | (exact W_same r_W (by omega) (zrf_kind r_W (tn_cast (by omega)) (fun t ht => (ra_101 hV ht).1))) | (exfalso; omega; done) | (exfalso; contradiction; done)) r_GW r_GU r_OW r_GG (show qRB (m 99) (m 100) ((ma_u m 98 (m 94 7).toNatClampNeg rf) 98) (m 101) (m 102) (m 103) (m 107) (m 108) (m 109) (m 111) (m 112) (m 113) (m 114) (m 94 55) (m 94 46) (m 94 11) (m 94 12) (m 94 62) (m 94 17) (m 94 9) aa from by first | (exact RB_kd r_RB r_W (tn_cast (by omega)) (fun t ht => (ra_101 hV ht).1)) | (exfalso; omega; done) | (exfalso; contradiction; done)) r_QI r_MK r_WTS (show ((nw.toInt < 0 ∨ 8 < nw.toInt ∨ rf.toInt < 0 ∨ ((1 : Int32) <<< (nw &&& 31)).toInt ≤ rf.toInt) ∧ (0 : Int32).toInt = 1 ∧ ((m 94 7) + (1 : Int32)).toInt = (m 94 7).toInt) ∨ (¬ (nw.toInt < 0 ∨ 8 < nw.toInt ∨ rf.toInt < 0 ∨ ((1 : Int32) <<< (nw &&& 31)).toInt ≤ rf.toInt) ∧ (m 94 7).toInt = 16 ∧ (0 : Int32).toInt = 2 ∧ ((m 94 7) + (1 : Int32)).toInt = (m 94 7).toInt) ∨ (¬ (nw.toInt < 0 ∨ 8 < nw.toInt ∨ rf.toInt < 0 ∨ ((1 : Int32) <<< (nw &&& 31)).toInt ≤ rf.toInt) ∧ (m 94 7).toInt < 16 ∧ (0 : Int32).toInt = 0 ∧ ((m 94 7) + (1 : Int32)).toInt = (m 94 7).toInt + 1 ∧ (((m 94 7) + (1 : Int32)) - (1 : Int32)).toInt = (m 94 7).toInt) from by omega) (show (((m 94 7) + (1 : Int32)).toInt = (m 94 7).toInt ∧ ((ma_u m 97 (m 94 7).toNatClampNeg nw) 97) = (m 97) ∧ ((ma_u m 98 (m 94 7).toNatClampNeg rf) 98) = (m 98)) ∨ (((m 94 7) + (1 : Int32)).toInt = (m 94 7).toInt + 1 ∧ ((ma_u m 97 (m 94 7).toNatClampNeg nw) 97) = zUp (m 97) (m 94 7).toNatClampNeg nw ∧ ((ma_u m 98 (m 94 7).toNatClampNeg rf) 98) = zUp (m 98) (m 94 7).toNatClampNeg rf) from by first | (exact Or.inr ⟨by omega, mu_up, mu_up⟩) | (exfalso; omega; done) | (exfalso; contradiction; done))
        · skip
          have g39 := i_nlt h20
          have hV40 : zV (ma_u m 94 0 (1 : Int32)) := uf_94_0 hV
          have li41 : (1 : Int32).toInt = 1 := rfl
          have f42 : 0 ≤ (m 94 7).toInt ∧ (m 94 7).toInt ≤ 16 := rs_94_7 (m := m) hV
          exact K ((0 : Int32)) _ (zF_u zF_rfl rfl) hV40 r_W r_GW r_GU r_OW r_GG r_RB r_QI r_MK r_WTS (show ((nw.toInt < 0 ∨ 8 < nw.toInt ∨ rf.toInt < 0 ∨ ((1 : Int32) <<< (nw &&& 31)).toInt ≤ rf.toInt) ∧ (1 : Int32).toInt = 1 ∧ (m 94 7).toInt = (m 94 7).toInt) ∨ (¬ (nw.toInt < 0 ∨ 8 < nw.toInt ∨ rf.toInt < 0 ∨ ((1 : Int32) <<< (nw &&& 31)).toInt ≤ rf.toInt) ∧ (m 94 7).toInt = 16 ∧ (1 : Int32).toInt = 2 ∧ (m 94 7).toInt = (m 94 7).toInt) ∨ (¬ (nw.toInt < 0 ∨ 8 < nw.toInt ∨ rf.toInt < 0 ∨ ((1 : Int32) <<< (nw &&& 31)).toInt ≤ rf.toInt) ∧ (m 94 7).toInt < 16 ∧ (1 : Int32).toInt = 0 ∧ (m 94 7).toInt = (m 94 7).toInt + 1 ∧ (0 : Int32).toInt = (m 94 7).toInt) from by omega) (show ((m 94 7).toInt = (m 94 7).toInt ∧ (m 97) = (m 97) ∧ (m 98) = (m 98)) ∨ ((m 94 7).toInt = (m 94 7).toInt + 1 ∧ (m 97) = zUp (m 97) (m 94 7).toNatClampNeg nw ∧ (m 98) = zUp (m 98) (m 94 7).toNatClampNeg rf) from by first | (exact Or.inl ⟨rfl, rfl, rfl⟩) | (exfalso; omega; done) | (exfalso; contradiction; done))
    · skip
      have g43 := i_nle h10
      have hV44 : zV (ma_u m 94 0 (1 : Int32)) := uf_94_0 hV
      have li45 : (1 : Int32).toInt = 1 := rfl
      have f46 : 0 ≤ (m 94 7).toInt ∧ (m 94 7).toInt ≤ 16 := rs_94_7 (m := m) hV
      exact K ((0 : Int32)) _ (zF_u zF_rfl rfl) hV44 r_W r_GW r_GU r_OW r_GG r_RB r_QI r_MK r_WTS (show ((nw.toInt < 0 ∨ 8 < nw.toInt ∨ rf.toInt < 0 ∨ ((1 : Int32) <<< (nw &&& 31)).toInt ≤ rf.toInt) ∧ (1 : Int32).toInt = 1 ∧ (m 94 7).toInt = (m 94 7).toInt) ∨ (¬ (nw.toInt < 0 ∨ 8 < nw.toInt ∨ rf.toInt < 0 ∨ ((1 : Int32) <<< (nw &&& 31)).toInt ≤ rf.toInt) ∧ (m 94 7).toInt = 16 ∧ (1 : Int32).toInt = 2 ∧ (m 94 7).toInt = (m 94 7).toInt) ∨ (¬ (nw.toInt < 0 ∨ 8 < nw.toInt ∨ rf.toInt < 0 ∨ ((1 : Int32) <<< (nw &&& 31)).toInt ≤ rf.toInt) ∧ (m 94 7).toInt < 16 ∧ (1 : Int32).toInt = 0 ∧ (m 94 7).toInt = (m 94 7).toInt + 1 ∧ (0 : Int32).toInt = (m 94 7).toInt) from by omega) (show ((m 94 7).toInt = (m 94 7).toInt ∧ (m 97) = (m 97) ∧ (m 98) = (m 98)) ∨ ((m 94 7).toInt = (m 94 7).toInt + 1 ∧ (m 97) = zUp (m 97) (m 94 7).toNatClampNeg nw ∧ (m 98) = zUp (m 98) (m 94 7).toNatClampNeg rf) from by first | (exact Or.inl ⟨rfl, rfl, rfl⟩) | (exfalso; omega; done) | (exfalso; contradiction; done))

/-! from 95.p00 -/
/-! LIKENESS, SWEEP and COUNTS: alike but for walks and what is no matter of the collector -/
def zQ (a b : Nat → Nat → Int32) : Prop := ∀ c k, c ≠ 75 → c ≠ 76 → c ≠ 77 → ¬ (c = 87 ∧ 3 ≤ k ∧ k ≠ 8) → a c k = b c k
def zBr (a b : Nat → Nat → Int32) : Nat → Nat → Int32 := fun c k => if c = 75 ∨ c = 76 ∨ c = 77 then b c k else a c k
section E0
variable {a b d e aa : Nat → Nat → Int32} {x y z i o r t kk w rt : Int32} {n k c m : Nat} {p : Int} {F : Nat → Int32} {L : Int64} {B : Int} {S S₉ : ma_S} {P : Nat}
theorem Q_c (h : zQ a b) (h1 : c ≠ 75) (h2 : c ≠ 76) (h3 : c ≠ 77) (h4 : c ≠ 87) : a c k = b c k := h c k h1 h2 h3 (fun w => h4 w.1)
theorem Q_8 (h : zQ a b) : zO8 a b := fun _ _ h1 h2 h3 h4 => Q_c h h1 h2 h3 h4
theorem Q_k (h : zQ a b) (hk : k < 3) : a 87 k = b 87 k := h 87 k (by decide) (by decide) (by decide) (by omega)
theorem Q_8e (h : zQ a b) : a 87 8 = b 87 8 := h 87 8 (by decide) (by decide) (by decide) (by decide)
theorem Q_of (o : zO8 a b) (h : ∀ k, k < 3 ∨ k = 8 → a 87 k = b 87 k) : zQ a b := fun c k h1 h2 h3 h4 => by
  by_cases w : c = 87
  · rw [w]
    exact h k (by omega)
  · exact o c k h1 h2 h3 w
theorem Br_of : zOf a (zBr a b) := fun c k h1 h2 h3 => (if_neg (by omega)).symm
theorem Br_7 (h : zO8 a b) : zO7 (zBr a b) b := fun c k hc => by
  unfold zBr
  by_cases w : c = 75 ∨ c = 76 ∨ c = 77
  · rw [if_pos w]
  · rw [if_neg w]
    exact h c k (by omega) (by omega) (by omega) hc
theorem O8_Rq (h : zO8 a b) : zRq a x ↔ zRq b x := by
  refine (Of_Rq (Br_of (a := a) (b := b))).trans ?_
  have o := Br_7 h
  unfold zRq
  rw [o 126 _ (by decide), o7_ra o 77 _ (by decide)]
theorem O8_u (h : zO8 a b) : zO8 (ma_u a n k x) (ma_u b n k x) := fun c₉ k₉ h1 h2 h3 h4 => by
  show (if c₉ = n ∧ k₉ = k then x else a c₉ k₉) = (if c₉ = n ∧ k₉ = k then x else b c₉ k₉)
  rw [h c₉ k₉ h1 h2 h3 h4]
theorem q_u (h : zQ a b) : zQ (ma_u a n k x) (ma_u b n k x) := fun c₉ k₉ h1 h2 h3 h4 => by
  show (if c₉ = n ∧ k₉ = k then x else a c₉ k₉) = (if c₉ = n ∧ k₉ = k then x else b c₉ k₉)
  rw [h c₉ k₉ h1 h2 h3 h4]
theorem O8_if {P Q : Prop} {a₉ b₉ : Nat → Nat → Int32} (e : P ↔ Q) (h1 : Q → zO8 a₉ b₉) (h2 : zO8 a b) : zO8 (qIf P a₉ a) (qIf Q b₉ b) := by
  by_cases w : Q
  · rw [qIf_y (e.mpr w), qIf_y w]
    exact h1 w
  · rw [qIf_n (fun q => w (e.mp q)), qIf_n w]
    exact h2
theorem If_87 {P : Prop} {a₉ : Nat → Nat → Int32} (h : a₉ 87 k = a 87 k) : qIf P a₉ a 87 k = a 87 k := by
  by_cases w : P
  · rw [qIf_y w]
    exact h
  · rw [qIf_n w]
theorem O8_c (h : zO8 a b) (h1 : c ≠ 75) (h2 : c ≠ 76) (h3 : c ≠ 77) (h4 : c ≠ 87) : a c k = b c k := h c k h1 h2 h3 h4
theorem O8_Nm (h : zO8 a b) : aNm a y = aNm b y := by
  unfold aNm
  rw [O8_c (c := 126) h (by decide) (by decide) (by decide) (by decide)]
theorem O8_Hw (h : zO8 a b) : zHw a o i ↔ zHw b o i := by
  unfold zHw
  rw [O8_c (c := 128) h (by decide) (by decide) (by decide) (by decide)]
theorem O8_Ir (h : zO8 a b) : zIr a o i ↔ zIr b o i := by
  unfold zIr
  rw [h (1000 + o.toNatClampNeg) _ (by omega) (by omega) (by omega) (by omega)]
theorem O8_rf (h : zO8 a b) : aRef a n i = aRef b n i := rf_cg (o8_r h (by omega) (by omega) (by omega) (by omega)) (o8_r h (by decide) (by decide) (by decide) (by decide)) (o8_r h (by decide) (by decide) (by decide) (by decide))
theorem O8_ci (h : zO8 a b) : zO8 (aCi a n i x) (aCi b n i x) := by
  unfold aCi
  rw [O8_c (c := 130) h (by decide) (by decide) (by decide) (by decide)]
  split
  · exact O8_u h
  · exact h
theorem ci_87 : aCi a n i x 87 k = a 87 k := by
  unfold aCi
  split
  · exact xu_o (by omega)
  · rfl
theorem O8_r0 (h : zO8 a b) : zO8 (aR0 a i y) (aR0 b i y) := by
  unfold aR0
  rw [O8_Nm h]
  exact O8_u h
theorem q_r0 (h : zQ a b) : zQ (aR0 a i y) (aR0 b i y) := by
  unfold aR0
  rw [O8_Nm (Q_8 h)]
  exact q_u h
theorem r0_87 : aR0 a i y 87 k = a 87 k := xu_o (by omega)
theorem O8_tw (h : zO8 a b) : zO8 (aTw a) (aTw b) ∧ aTy a = aTy b := by
  have e5 := O8_c (c := 69) (k := 5) h (by decide) (by decide) (by decide) (by decide)
  have e74 := O8_c (c := 74) (k := 0) h (by decide) (by decide) (by decide) (by decide)
  unfold aTw aTy
  rw [e5, e74]
  refine ⟨?_, rfl⟩
  split
  · intro c₉ k₉ h1 h2 h3 h4
    show (if c₉ = 74 ∧ (k₉ : Int) < _ then ma_u a 69 5 (b 69 5 - 1) 74 (k₉ + 1) else ma_u a 69 5 (b 69 5 - 1) c₉ k₉) = (if c₉ = 74 ∧ (k₉ : Int) < _ then ma_u b 69 5 (b 69 5 - 1) 74 (k₉ + 1) else ma_u b 69 5 (b 69 5 - 1) c₉ k₉)
    rw [O8_u (n := 69) (k := 5) (x := b 69 5 - 1) h c₉ k₉ h1 h2 h3 h4, O8_u (n := 69) (k := 5) (x := b 69 5 - 1) h 74 (k₉ + 1) (by decide) (by decide) (by decide) (by decide)]
  · exact h
theorem tw_87 : aTw a 87 k = a 87 k := congrFun (Tw_e (by decide) (by decide)) k
/-! cleaning -/
theorem Of_sw (h : zOf a b) (hI : qI b) : zOf (aSw a) (aSw b) ∧ aSv a = aSv b := by
  have hIa : qI a := qI_of hI (Of_sy h)
  have q : zPQ (aRA a) (aRA b) := ⟨Of_tr (Of_sy RA_zo) (Of_tr h RA_zo), E0_ra hIa, E0_ra hI, fun x => ⟨fun w => ⟨w.1, by rw [← (Of_RA h).2.2.1 x w.1]; exact w.2⟩, fun w => ⟨w.1, by rw [(Of_RA h).2.2.1 x w.1]; exact w.2⟩⟩⟩
  have g : zPQ (aGw (aRA a) 0) (aGw (aRA b) 0) := by
    unfold aGw
    rw [q.1 69 6 (by decide) (by decide) (by decide)]
    exact Gf_of _ _ _ _ q
  have s : zOf (aMv (aGw (aRA a) 0) 0) (aMv (aGw (aRA b) 0) 0) := by
    generalize aGw (aRA a) 0 = A at *
    generalize aGw (aRA b) 0 = B at *
    unfold aMv
    rw [g.1 69 6 (by decide) (by decide) (by decide)]
    exact Mf_of _ _ _ _ ⟨g.1, g.2.2.2, g.2.1.1.2.2.2.2.2, g.2.2.1.1.2.2.2.2.2⟩
  refine ⟨s, ?_⟩
  unfold aSv aSw
  rw [s 69 11 (by decide) (by decide) (by decide), g.1 69 11 (by decide) (by decide) (by decide)]
theorem Q_sw (h : zQ a b) (hI : qI a) : zQ (aSw a) (aSw b) ∧ aSv a = aSv b := by
  have hc : qI (zBr a b) := qI_of hI Br_of
  have s := Of_sw (Br_of (a := a) (b := b)) hc
  have o := Br_7 (Q_8 h)
  refine ⟨fun c k h1 h2 h3 h4 => ?_, s.2.trans (sv_eq o)⟩
  by_cases w : c = 87
  · rw [w, sw_87, sw_87]
    rw [w] at h4
    exact h 87 k (by decide) (by decide) (by decide) h4
  · exact (s.1 c k h1 h2 h3).trans (o7_sw o c k w)
theorem Ob_q (h : zQ a b) : zOb a = zOb b := by
  funext p
  unfold zOb
  rw [Q_c (c := 71) h (by decide) (by decide) (by decide) (by decide), Q_c (c := 126) h (by decide) (by decide) (by decide) (by decide)]
theorem N_q (h : zQ a b) : aN a = aN b := by
  have e0 := Q_k h (k := 0) (by decide)
  have f : ∀ (f : Nat) (p : Int), aNf a f p = aNf b f p := by
    intro f
    induction f with
    | zero =>
      intro p
      unfold aNf
      rw [e0]
    | succ f ih =>
      intro p
      unfold aNf
      rw [e0, Ob_q h, Q_c (c := 128) h (by decide) (by decide) (by decide) (by decide), ih]
  funext p
  unfold aN
  rw [e0, f]
theorem E_q (h : zQ a b) : aE a = aE b := by
  have e0 := Q_k h (k := 0) (by decide)
  have f : ∀ (f : Nat) (p : Int), aEf a f p = aEf b f p := by
    intro f
    induction f with
    | zero =>
      intro p
      rfl
    | succ f ih =>
      intro p
      unfold aEf
      rw [e0, Ob_q h, ih]
  funext p
  unfold aE
  rw [e0, f]
theorem Ff_q (h : zQ a b) : ∀ (f : Nat) (q p z : Int), aFf a z q f p = aFf b z q f p := by
  intro f
  induction f with
  | zero =>
    intro q p z
    rfl
  | succ f ih =>
    intro q p z
    unfold aFf
    rw [E_q h, N_q h, ih]
theorem Fl_q (h : zQ a b) : ∀ (f : Nat) (p q l z : Int) (s : Int32), aFl a z s f p q l = aFl b z s f p q l := by
  intro f
  induction f with
  | zero =>
    intro p q l z s
    rfl
  | succ f ih =>
    intro p q l z s
    unfold aFl
    rw [Q_k h (k := 0) (by decide), E_q h, N_q h, ih, ih]
theorem Ft_q (h : zQ a b) : aFt a p = aFt b p := by
  unfold aFt aFx
  rw [Q_k h (k := 0) (by decide), Q_k h (k := 1) (by decide), Q_k h (k := 2) (by decide), N_q h, Ff_q h, Ff_q h, Ff_q h, Fl_q h, Fl_q h]
theorem Ad_q (h : zQ a b) : zQ (aMd (aAd a y F L) y) (aMd (aAd b y F L) y) := by
  have n0 : ∀ m : Nat, zQ (zNw a m F L) (zNw b m F L) := fun m c₉ k₉ q1 q2 q3 q4 => by
    unfold zNw
    rw [h c₉ k₉ q1 q2 q3 q4]
  have n1 : ∀ (d e : Nat → Nat → Int32) (p j : Int), zQ d e → zQ (zIw d p L j) (zIw e p L j) := fun d e p j o c₉ k₉ q1 q2 q3 q4 => by
    unfold zIw
    rw [o c₉ k₉ q1 q2 q3 q4]
  have A : zQ (aAd a y F L) (aAd b y F L) := by
    unfold aAd
    rw [Q_c (c := 69) (k := 6) h (by decide) (by decide) (by decide) (by decide), Q_c (c := 69) (k := 8) h (by decide) (by decide) (by decide) (by decide)]
    exact q_u (q_u (n1 _ _ _ _ (q_u (n0 _))))
  generalize aAd a y F L = A1 at *
  generalize aAd b y F L = B1 at *
  unfold aMd
  rw [Q_8e A, Q_c (c := 130) A (by decide) (by decide) (by decide) (by decide), Q_c (c := 128) A (by decide) (by decide) (by decide) (by decide)]
  split
  · exact q_u A
  · exact q_u (q_u A)
theorem Q_rs (h : zQ a b) (hI : qI a) : zQ (zRs a p) (zRs b p) ∧ zRp a p = zRp b p := by
  have f := Ft_q (p := p) h
  have q : zQ (zRs a p) (zRs b p) := by
    unfold zRs
    rw [f]
    split
    · exact (Q_sw h hI).1
    · exact h
  exact ⟨q, Ft_q q⟩
theorem md_878 : aMd (aAd a y F L) y 87 8 = a 87 8 := by
  unfold aMd
  split
  · rw [xu_o (by omega)]
    exact ad_87
  · rw [xu_o (by omega), xu_o (by omega)]
    exact ad_87
theorem Q_smk (h : zQ a b) (hI : qI a) (h8 : a 87 8 = 0) : zQ (sMk a kk w L rt) (sMk b kk w L rt) ∧ sMn a w = sMn b w := by
  have q := Q_rs (p := (w + 1).toInt) h hI
  have b8 : b 87 8 = 0 := (Q_8e h).symm.trans h8
  have e6 := Q_c (c := 69) (k := 6) h (by decide) (by decide) (by decide) (by decide)
  have e7 := Q_c (c := 69) (k := 6) q.1 (by decide) (by decide) (by decide) (by decide)
  have ra : zRs a (w + 1).toInt 87 8 = 0 := zRs_87.trans h8
  have rb : zRs b (w + 1).toInt 87 8 = 0 := zRs_87.trans b8
  unfold sMk sMn
  rw [e6, q.2, e7]
  generalize zRs a (w + 1).toInt = A at *
  generalize zRs b (w + 1).toInt = B at *
  split
  · split
    · exact ⟨q.1, rfl⟩
    · refine ⟨?_, rfl⟩
      rw [← r0_rt (md_878.trans ra), ← r0_rt (md_878.trans rb)]
      exact q_r0 (Ad_q q.1)
  · exact ⟨h, rfl⟩
theorem Q_le (h : zQ a b) (hV : cV a [] B) : zQ (cLe a y) (cLe b y) := by
  have hb : cV b [] B := V_0 (C_o8 (Q_8 h) (C_ofV hV))
  refine Q_of (Le_o8 (Q_8 h) hV) (fun k hk => ?_)
  rw [Le_x (Or.inr (Or.inr (Or.inr rfl))) hV, Le_x (Or.inr (Or.inr (Or.inr rfl))) hb]
  exact hk.elim (fun w => Q_k h w) (fun w => by rw [w]; exact Q_8e h)
theorem V_r0 (hV : cV a [] B) (hi : i.toNatClampNeg < 16) : cV (aR0 a i y) [] B := V_0 (C_rt (y := y) (K₉ := fun n => Int32.ofInt (cRf a n) + Int32.ofNat (cIs y n) - Int32.ofNat (cIs (a 72 i.toNatClampNeg) n)) (C_ofV hV) hi (fun _ _ => rfl))
theorem V_rs (hI : qI a) (hV : cV a [] B) : cV (zRs a p) [] B := by
  unfold zRs
  split
  · exact V_sw4 hI hV
  · exact hV
theorem Q_kmk (h : zQ a b) (hI : qI a) (hV : cV a [] B) (hB : 0 ≤ B) (h0 : 0 ≤ w.toInt) (h6 : w.toInt ≤ 60) (hr : 0 ≤ rt.toInt) (hr2 : rt.toInt ≤ 15) : zQ (kMk a kk w L rt) (kMk b kk w L rt) ∧ sMn a w = sMn b w := by
  have q := Q_rs (p := (w + 1).toInt) h hI
  have e6 := Q_c (c := 69) (k := 6) h (by decide) (by decide) (by decide) (by decide)
  have e7 := Q_c (c := 69) (k := 6) q.1 (by decide) (by decide) (by decide) (by decide)
  have e72 := Q_c (c := 72) (k := rt.toNatClampNeg) q.1 (by decide) (by decide) (by decide) (by decide)
  have hIr := I_rs (z := (w + 1).toInt) hI hV.2.1
  have hVr := V_rs (p := (w + 1).toInt) hI hV
  have cr := tn_cast hr
  by_cases z6 : (a 69 6).toInt < 512
  · by_cases zp : zRp a (w + 1).toInt = -1
    · have m1 := kMk_1 (kd := kk) (rt := rt) (L := L) z6 zp
      have m2 := kMk_1 (a := b) (kd := kk) (rt := rt) (L := L) (by rw [← e6]; exact z6) (by rw [← q.2]; exact zp)
      rw [m1.1, m1.2, m2.1, m2.2]
      exact ⟨q.1, rfl⟩
    · have fs := Ft_fs hIr (z := (w + 1).toInt) (by rw [i_p1 (by omega)]; omega) zp
      have e1 := i_p1 (i := w) (by omega)
      have r5 := hIr.2.2.2.1.2.2.1
      have zz : zRp a (w + 1).toInt = aFt (zRs a (w + 1).toInt) (w + 1).toInt := rfl
      rw [← zz] at fs
      have f0 := fs.1
      have f1 := fs.2.1
      have pl : (Int32.ofInt (zRp a (w + 1).toInt)).toInt = zRp a (w + 1).toInt := Int32.toInt_ofInt_of_le (by omega) (by omega)
      have zr6 : (zRs a (w + 1).toInt 69 6).toInt < 512 := by
        have e : zRs a (w + 1).toInt 69 6 = a 69 6 := by
          unfold zRs
          split
          · unfold aSw aMv aGw
            rw [w6mf, w6gf]
            exact (RA_zo 69 6 (by decide) (by decide) (by decide)).symm
          · rfl
        rw [e]
        exact z6
      have ne := Ne_o0 (aa := a) (w := w) (pl := Int32.ofInt (zRp a (w + 1).toInt)) (y := zRs a (w + 1).toInt 69 6) hIr pl (by rw [pl]; exact f0) h0 h6 rfl zr6
      have nb := Ne_b ne
      have ad := Ad_of (b := zRs a (w + 1).toInt) (y := zRs a (w + 1).toInt 69 6) (kk := kk) (w := w) (pl := Int32.ofInt (zRp a (w + 1).toInt)) (L := L) nb.1 h0 h6 nb.2.2.2.1 (by omega)
      have va := V_ad4 ne ad hVr hB
      have m1 := kMk_2 (kd := kk) (rt := rt) (L := L) (pl := Int32.ofInt (zRp a (w + 1).toInt)) (y := zRs a (w + 1).toInt 69 6) z6 rfl pl (by rw [pl]; exact zp) rfl
      have m2 := kMk_2 (a := b) (kd := kk) (rt := rt) (L := L) (pl := Int32.ofInt (zRp a (w + 1).toInt)) (y := zRs a (w + 1).toInt 69 6) (by rw [← e6]; exact z6) rfl (by rw [← q.2]; exact pl) (by rw [pl]; exact zp) e7
      rw [m1.1, m1.2, m2.1, m2.2, ← e72]
      exact ⟨Q_le (q_r0 (Ad_q q.1)) (V_r0 va (by omega)), rfl⟩
  · have m1 := kMk_0 (wd := w) (kd := kk) (rt := rt) (L := L) z6
    have m2 := kMk_0 (a := b) (wd := w) (kd := kk) (rt := rt) (L := L) (by rw [← e6]; exact z6)
    rw [m1.1, m1.2, m2.1, m2.2]
    exact ⟨h, rfl⟩
/-! block -/
end E0

/-! from 95.p01 -/
/-! SWEEP and COUNTS: what a call makes of the heap -/
noncomputable def oRo (a : Nat → Nat → Int32) (i o : Int32) : Nat → Nat → Int32 := qIf (zSl i ∧ (o = -1 ∨ zRq a o)) (aR0 a i o) a
noncomputable def oLi (a : Nat → Nat → Int32) (o i t : Int32) : Nat → Nat → Int32 := qIf (zRq a o ∧ (t = -1 ∨ zRq a t) ∧ zHw a o i ∧ zIr a o i) (aL0 a o.toNatClampNeg i t) a
noncomputable def oGr (a : Nat → Nat → Int32) (r : Int32) : Nat → Nat → Int32 := qIf (zSl r) (qIf (aNm a (aTy a) = -1) (aTw a) (aR0 (aTw a) r (aTy a))) a
noncomputable def oSg (a : Nat → Nat → Int32) (i r : Int32) : Nat → Nat → Int32 := qIf (zSl i ∧ zSl r ∧ aNm a (a 73 i.toNatClampNeg) ≠ -1) (aR0 a r (a 73 i.toNatClampNeg)) a
section E1A
variable {ab d : Nat → Nat → Int32} {o i x v w t rt n b ki kw kn : Int32} {e : Nat} {L : Int64}
theorem oli_y (h : zRq ab o ∧ (t = -1 ∨ zRq ab t) ∧ zHw ab o i ∧ zIr ab o i ∧ d = aL0 ab o.toNatClampNeg i t ∧ v = w) : d = oLi ab o i t := h.2.2.2.2.1.trans (qIf_y ⟨h.1, h.2.1, h.2.2.1, h.2.2.2.1⟩).symm
theorem cli_y (h : zRq ab o ∧ (t = -1 ∨ zRq ab t) ∧ zHw ab o i ∧ zIr ab o i ∧ d = cLe (aL0 ab o.toNatClampNeg i t) (aRef ab o.toNatClampNeg i) ∧ v = w) : d = kLi ab o i t := h.2.2.2.2.1.trans (qIf_y ⟨h.1, h.2.1, h.2.2.1, h.2.2.2.1⟩).symm
theorem oli_x (hd : d = ab) (h : (e = 4 ∧ (¬ zRq ab o ∨ (zRq ab o ∧ t ≠ -1 ∧ ¬ zRq ab t))) ∨ (e = 1 ∧ zRq ab o ∧ (t = -1 ∨ zRq ab t) ∧ ¬ zHw ab o i) ∨ (e = 5 ∧ zRq ab o ∧ (t = -1 ∨ zRq ab t) ∧ zHw ab o i ∧ ¬ zIr ab o i)) : d = oLi ab o i t := hd.trans (qIf_n (fun q => by
  rcases h with h | h | h
  · rcases h.2 with h2 | h2
    · exact h2 q.1
    · exact q.2.1.elim h2.2.1 h2.2.2
  · exact h.2.2.2 q.2.2.1
  · exact h.2.2.2.2 q.2.2.2)).symm
theorem cli_x (hd : d = ab) (h : (e = 4 ∧ (¬ zRq ab o ∨ (zRq ab o ∧ t ≠ -1 ∧ ¬ zRq ab t))) ∨ (e = 1 ∧ zRq ab o ∧ (t = -1 ∨ zRq ab t) ∧ ¬ zHw ab o i) ∨ (e = 5 ∧ zRq ab o ∧ (t = -1 ∨ zRq ab t) ∧ zHw ab o i ∧ ¬ zIr ab o i)) : d = kLi ab o i t := hd.trans (qIf_n (fun q => by
  rcases h with h | h | h
  · rcases h.2 with h2 | h2
    · exact h2 q.1
    · exact q.2.1.elim h2.2.1 h2.2.2
  · exact h.2.2.2 q.2.2.1
  · exact h.2.2.2.2 q.2.2.2)).symm
theorem oro_y (h : (0 ≤ i.toInt ∧ i.toInt ≤ 15) ∧ (o = -1 ∨ zRq ab o) ∧ d = aR0 ab i o ∧ v = w) : d = oRo ab i o := h.2.2.1.trans (qIf_y ⟨h.1, h.2.1⟩).symm
theorem cro_y (h : (0 ≤ i.toInt ∧ i.toInt ≤ 15) ∧ (o = -1 ∨ zRq ab o) ∧ d = cLe (aR0 ab i o) (ab 72 i.toNatClampNeg) ∧ v = w) : d = kRo ab i o := h.2.2.1.trans (qIf_y ⟨h.1, h.2.1⟩).symm
theorem oro_x (hd : d = ab) (h : (e = 2 ∧ ¬ (0 ≤ i.toInt ∧ i.toInt ≤ 15)) ∨ ((0 ≤ i.toInt ∧ i.toInt ≤ 15) ∧ e = 4 ∧ o ≠ -1 ∧ ¬ zRq ab o)) : d = oRo ab i o := hd.trans (qIf_n (kwe_n h)).symm
theorem cro_x (hd : d = ab) (h : (e = 2 ∧ ¬ (0 ≤ i.toInt ∧ i.toInt ≤ 15)) ∨ ((0 ≤ i.toInt ∧ i.toInt ≤ 15) ∧ e = 4 ∧ o ≠ -1 ∧ ¬ zRq ab o)) : d = kRo ab i o := hd.trans (qIf_n (kwe_n h)).symm
theorem osg_y (h : (0 ≤ i.toInt ∧ i.toInt ≤ 15) ∧ (0 ≤ rt.toInt ∧ rt.toInt ≤ 15) ∧ ((aNm ab (ab 73 i.toNatClampNeg) = -1 ∧ d = ab ∧ v = -1) ∨ (aNm ab (ab 73 i.toNatClampNeg) = ab 73 i.toNatClampNeg ∧ 0 ≤ (ab 73 i.toNatClampNeg).toInt ∧ d = aR0 ab rt (ab 73 i.toNatClampNeg) ∧ v = ab 73 i.toNatClampNeg))) : d = oSg ab i rt := by
  rcases h.2.2 with q | q
  · exact q.2.1.trans (qIf_n (fun z => z.2.2 q.1)).symm
  · refine q.2.2.1.trans (qIf_y ⟨h.1, h.2.1, fun z => ?_⟩).symm
    have q2 := q.2.1
    rw [← q.1, z] at q2
    exact absurd q2 (by decide)
theorem csg_y (h : (0 ≤ i.toInt ∧ i.toInt ≤ 15) ∧ (0 ≤ rt.toInt ∧ rt.toInt ≤ 15) ∧ ((aNm ab (ab 73 i.toNatClampNeg) = -1 ∧ d = ab ∧ v = -1) ∨ (aNm ab (ab 73 i.toNatClampNeg) = ab 73 i.toNatClampNeg ∧ 0 ≤ (ab 73 i.toNatClampNeg).toInt ∧ d = cLe (aR0 ab rt (ab 73 i.toNatClampNeg)) (ab 72 rt.toNatClampNeg) ∧ v = ab 73 i.toNatClampNeg))) : d = kSg ab i rt := by
  rcases h.2.2 with q | q
  · exact q.2.1.trans (qIf_n (fun z => z.2.2 q.1)).symm
  · refine q.2.2.1.trans (qIf_y ⟨h.1, h.2.1, fun z => ?_⟩).symm
    have q2 := q.2.1
    rw [← q.1, z] at q2
    exact absurd q2 (by decide)
theorem osg_x (hd : d = ab) (h : e = 2 ∧ ¬ ((0 ≤ i.toInt ∧ i.toInt ≤ 15) ∧ (0 ≤ rt.toInt ∧ rt.toInt ≤ 15))) : d = oSg ab i rt := hd.trans (qIf_n (fun q => h.2 ⟨q.1, q.2.1⟩)).symm
theorem csg_x (hd : d = ab) (h : e = 2 ∧ ¬ ((0 ≤ i.toInt ∧ i.toInt ≤ 15) ∧ (0 ≤ rt.toInt ∧ rt.toInt ≤ 15))) : d = kSg ab i rt := hd.trans (qIf_n (fun q => h.2 ⟨q.1, q.2.1⟩)).symm
theorem ogr_y (h : (0 ≤ rt.toInt ∧ rt.toInt ≤ 15) ∧ ((aNm ab (aTy ab) = -1 ∧ d = aTw ab ∧ v = -1) ∨ (aNm ab (aTy ab) = aTy ab ∧ 0 ≤ (aTy ab).toInt ∧ d = aR0 (aTw ab) rt (aTy ab) ∧ v = aTy ab))) : d = oGr ab rt := by
  unfold oGr
  rw [qIf_y (show zSl rt from h.1)]
  rcases h.2 with q | q
  · rw [qIf_y q.1]
    exact q.2.1
  · refine q.2.2.1.trans (qIf_n (fun z => ?_)).symm
    have q2 := q.2.1
    rw [← q.1, z] at q2
    exact absurd q2 (by decide)
theorem cgr_y (h : (0 ≤ rt.toInt ∧ rt.toInt ≤ 15) ∧ ((aNm ab (aTy ab) = -1 ∧ d = aTw ab ∧ v = -1) ∨ (aNm ab (aTy ab) = aTy ab ∧ 0 ≤ (aTy ab).toInt ∧ d = cLe (aR0 (aTw ab) rt (aTy ab)) (aTw ab 72 rt.toNatClampNeg) ∧ v = aTy ab))) : d = kGr ab rt := by
  unfold kGr
  rw [qIf_y (show zSl rt from h.1)]
  rcases h.2 with q | q
  · rw [qIf_y q.1]
    exact q.2.1
  · refine q.2.2.1.trans (qIf_n (fun z => ?_)).symm
    have q2 := q.2.1
    rw [← q.1, z] at q2
    exact absurd q2 (by decide)
theorem ogr_x (hd : d = ab) (h : e = 2 ∧ ¬ (0 ≤ rt.toInt ∧ rt.toInt ≤ 15)) : d = oGr ab rt := hd.trans (qIf_n h.2).symm
theorem cgr_x (hd : d = ab) (h : e = 2 ∧ ¬ (0 ≤ rt.toInt ∧ rt.toInt ≤ 15)) : d = kGr ab rt := hd.trans (qIf_n h.2).symm
theorem cho_y (h : zRq ab o ∧ (¬ b = 0 ∨ ¬ ab 133 o.toNatClampNeg = 0) ∧ d = cLe (ma_u ab 133 o.toNatClampNeg (ab 133 o.toNatClampNeg + (if b = 0 then -1 else 1))) o ∧ v = w) : d = kHo ab o b := h.2.2.1.trans (qIf_y ⟨h.1, h.2.1⟩).symm
theorem cho_x (hd : d = ab) (h : (e = 4 ∧ ¬ zRq ab o) ∨ (e = 6 ∧ zRq ab o ∧ b = 0 ∧ ab 133 o.toNatClampNeg = 0)) : d = kHo ab o b := hd.trans (qIf_n (fun q => by
  rcases h with h | h
  · exact h.2 q.1
  · exact q.2.elim (fun z => z h.2.2.1) (fun z => z h.2.2.2))).symm
theorem omk_y (h : (0 ≤ ki.toInt ∧ ki.toInt < kn.toInt ∧ 0 ≤ rt.toInt ∧ rt.toInt ≤ 15) ∧ d = sMk ab ki kw L rt ∧ v = w) : d = qIf (0 ≤ ki.toInt ∧ ki.toInt < kn.toInt ∧ zSl rt) (sMk ab ki kw L rt) ab := h.2.1.trans (qIf_y h.1).symm
theorem cmk_y (h : (0 ≤ ki.toInt ∧ ki.toInt < kn.toInt ∧ 0 ≤ rt.toInt ∧ rt.toInt ≤ 15) ∧ d = kMk ab ki kw L rt ∧ v = w) : d = qIf (0 ≤ ki.toInt ∧ ki.toInt < kn.toInt ∧ zSl rt) (kMk ab ki kw L rt) ab := h.2.1.trans (qIf_y h.1).symm
theorem omk_x (hd : d = ab) (h : e = 2 ∧ ¬ (0 ≤ ki.toInt ∧ ki.toInt < kn.toInt ∧ 0 ≤ rt.toInt ∧ rt.toInt ≤ 15)) : d = qIf (0 ≤ ki.toInt ∧ ki.toInt < kn.toInt ∧ zSl rt) (sMk ab ki kw L rt) ab := hd.trans (qIf_n h.2).symm
theorem cmk_x (hd : d = ab) (h : e = 2 ∧ ¬ (0 ≤ ki.toInt ∧ ki.toInt < kn.toInt ∧ 0 ≤ rt.toInt ∧ rt.toInt ≤ 15)) : d = qIf (0 ≤ ki.toInt ∧ ki.toInt < kn.toInt ∧ zSl rt) (kMk ab ki kw L rt) ab := hd.trans (qIf_n h.2).symm
theorem orw_y (h : (0 ≤ n.toInt ∧ n.toInt ≤ 60 ∧ 0 ≤ rt.toInt ∧ rt.toInt ≤ 15) ∧ d = (if b = 0 then sMk ab 17 n 0 rt else sMk ab 16 n (-1) rt) ∧ v = w) : d = qIf (0 ≤ n.toInt ∧ n.toInt ≤ 60 ∧ zSl rt) (if b = 0 then sMk ab 17 n 0 rt else sMk ab 16 n (-1) rt) ab := h.2.1.trans (qIf_y h.1).symm
theorem crw_y (h : (0 ≤ n.toInt ∧ n.toInt ≤ 60 ∧ 0 ≤ rt.toInt ∧ rt.toInt ≤ 15) ∧ d = (if b = 0 then kMk ab 17 n 0 rt else kMk ab 16 n (-1) rt) ∧ v = w) : d = qIf (0 ≤ n.toInt ∧ n.toInt ≤ 60 ∧ zSl rt) (if b = 0 then kMk ab 17 n 0 rt else kMk ab 16 n (-1) rt) ab := h.2.1.trans (qIf_y h.1).symm
theorem orw_x (hd : d = ab) (h : e = 2 ∧ ¬ (0 ≤ n.toInt ∧ n.toInt ≤ 60 ∧ 0 ≤ rt.toInt ∧ rt.toInt ≤ 15)) : d = qIf (0 ≤ n.toInt ∧ n.toInt ≤ 60 ∧ zSl rt) (if b = 0 then sMk ab 17 n 0 rt else sMk ab 16 n (-1) rt) ab := hd.trans (qIf_n h.2).symm
theorem crw_x (hd : d = ab) (h : e = 2 ∧ ¬ (0 ≤ n.toInt ∧ n.toInt ≤ 60 ∧ 0 ≤ rt.toInt ∧ rt.toInt ≤ 15)) : d = qIf (0 ≤ n.toInt ∧ n.toInt ≤ 60 ∧ zSl rt) (if b = 0 then kMk ab 17 n 0 rt else kMk ab 16 n (-1) rt) ab := hd.trans (qIf_n h.2).symm
end E1A
section E1B
variable {a b aa : Nat → Nat → Int32} {x y i o r t : Int32} {n k : Nat} {B : Int} {S S₉ : ma_S} {P : Nat}
theorem Ro_o (h : a 87 8 = 0) : xRo a i o = oRo a i o := by
  unfold xRo oRo
  rw [r0_rt h]
theorem Li_o (h : a 87 8 = 0) : xLi a o i t = oLi a o i t := by
  unfold xLi oLi aLn aL0
  rw [NC_0 (by rw [ci_87]; exact h)]
theorem Gr_o (h : a 87 8 = 0) : xGr a r = oGr a r := by
  unfold xGr oGr
  rw [r0_rt (tw_87.trans h)]
theorem Sg_o (h : a 87 8 = 0) : ySg a i r = oSg a i r := by
  have e : aSt a (a 73 i.toNatClampNeg) = a := if_neg (fun w => w h)
  unfold ySg oSg
  rw [e, r0_rt h]
theorem If_7c {P : Prop} {a₉ : Nat → Nat → Int32} (h : P → a₉ 87 k = a 87 k) : qIf P a₉ a 87 k = a 87 k := by
  by_cases w : P
  · rw [qIf_y w]
    exact h w
  · rw [qIf_n w]
/-- both: alike, and the collector's row stays -/
def zAx (a b d : Nat → Nat → Int32) : Prop := zO8 a b ∧ ∀ k, a 87 k = d 87 k
theorem Ax_0 (h : zO8 a b) : zAx a b a := ⟨h, fun _ => rfl⟩
theorem Ax_pu (h : zO8 a b) : zAx (xPu a o i x) (xPu b o i x) a := ⟨O8_if (by rw [O8_Rq h, O8_Hw h, O8_Ir h]) (fun _ => O8_ci h) h, fun _ => If_87 ci_87⟩
theorem Ax_we (h : zO8 a b) : zAx (xWe a i o) (xWe b i o) a := ⟨O8_if (by rw [O8_Rq h]) (fun _ => by rw [O8_Nm h]; exact O8_u h) h, fun _ => If_87 (xu_o (by omega))⟩
theorem Ax_wi (h : zO8 a b) : zAx (xWi a o) (xWi b o) a := ⟨O8_if (O8_Rq h) (fun _ => O8_u h) h, fun _ => If_87 (xu_o (by omega))⟩
theorem Ax_ho (h : zO8 a b) : zAx (xHo a o x) (xHo b o x) a := ⟨O8_if (by rw [O8_Rq h, O8_c (c := 133) h (by decide) (by decide) (by decide) (by decide)]) (fun _ => by rw [O8_c (c := 133) h (by decide) (by decide) (by decide) (by decide)]; exact O8_u h) h, fun _ => If_87 (xu_o (by omega))⟩
theorem Ax_ro (h : zO8 a b) : zAx (oRo a i o) (oRo b i o) a := ⟨O8_if (by rw [O8_Rq h]) (fun _ => O8_r0 h) h, fun _ => If_87 r0_87⟩
theorem l0_87 : aL0 a n i y 87 k = a 87 k := ci_87
theorem O8_l0 (h : zO8 a b) : zO8 (aL0 a n i y) (aL0 b n i y) := by
  unfold aL0
  rw [O8_Nm h]
  exact O8_ci h
theorem Ax_li (h : zO8 a b) : zAx (oLi a o i t) (oLi b o i t) a := ⟨O8_if (by rw [O8_Rq h, O8_Rq h, O8_Hw h, O8_Ir h]) (fun _ => O8_l0 h) h, fun _ => If_87 l0_87⟩
theorem Ax_gr (h : zO8 a b) : zAx (oGr a r) (oGr b r) a := by
  have tw := O8_tw h
  refine ⟨O8_if Iff.rfl (fun _ => O8_if (by rw [tw.2, O8_Nm h]) (fun _ => tw.1) (by rw [tw.2]; exact O8_r0 tw.1)) h, fun k => If_87 ?_⟩
  by_cases w : aNm a (aTy a) = -1
  · rw [qIf_y w]
    exact tw_87
  · rw [qIf_n w]
    exact r0_87.trans tw_87
theorem Ax_sg (h : zO8 a b) : zAx (oSg a i r) (oSg b i r) a := ⟨O8_if (by rw [O8_Nm h, O8_c (c := 73) h (by decide) (by decide) (by decide) (by decide)]) (fun _ => by rw [O8_c (c := 73) h (by decide) (by decide) (by decide) (by decide)]; exact O8_r0 h) h, fun _ => If_87 r0_87⟩
/-! COUNTS -/
theorem sl_16 (h : zSl i) : i.toNatClampNeg < 16 := by
  have c := tn_cast h.1
  have := h.2
  omega
theorem O8_rt (h : zO8 a b) (hV : cV a [] B) (hi : zSl i) : zO8 (kRt a i y) (kRt b i y) := by
  unfold kRt
  rw [O8_c (c := 72) h (by decide) (by decide) (by decide) (by decide)]
  exact Le_o8 (O8_r0 h) (V_r0 hV (sl_16 hi))
theorem X87 : cXr 87 := Or.inr (Or.inr (Or.inr rfl))
theorem rt_87 (hV : cV a [] B) (hi : zSl i) : kRt a i y 87 k = a 87 k := (Le_x X87 (V_r0 hV (sl_16 hi))).trans r0_87
theorem Ax_kro (h : zO8 a b) (hV : cV a [] B) : zAx (kRo a i o) (kRo b i o) a := ⟨O8_if (by rw [O8_Rq h]) (fun w => O8_rt h hV w.1) h, fun _ => If_7c (fun w => rt_87 hV w.1)⟩
theorem V_l0 (hV : cV a [] B) (hq : zRq a o) (hw : zHw a o i) (hi : zIr a o i) : cV (aL0 a o.toNatClampNeg i t) [] B := V_0 (C_li (y := t) (K₉ := fun m => Int32.ofInt (cRf a m) + Int32.ofNat (cIs t m) - Int32.ofNat (cIs (aRef a o.toNatClampNeg i) m)) (C_ofV hV) (Rq_wp hq hw) hi (fun _ _ => rfl))
theorem Ax_kli (h : zO8 a b) (hV : cV a [] B) : zAx (kLi a o i t) (kLi b o i t) a := by
  refine ⟨O8_if (by rw [O8_Rq h, O8_Rq h, O8_Hw h, O8_Ir h]) (fun w => ?_) h, fun _ => If_7c (fun w => ?_)⟩
  · rw [O8_rf h]
    exact Le_o8 (O8_l0 h) (V_l0 hV ((O8_Rq h).mpr w.1) ((O8_Hw h).mpr w.2.2.1) ((O8_Ir h).mpr w.2.2.2))
  · exact (Le_x X87 (V_l0 hV w.1 w.2.2.1 w.2.2.2)).trans l0_87
theorem V_h0 (hV : cV a [] B) (hB : B + 1 ≤ 1000000) (hq : zRq a o) (hb : ¬ x = 0 ∨ ¬ a 133 o.toNatClampNeg = 0) : cV (ma_u a 133 o.toNatClampNeg (a 133 o.toNatClampNeg + (if x = 0 then -1 else 1))) [] (B + 1) := by
  by_cases w : x = 0
  · rw [if_pos w]
    exact V_ho4 hV (al_of hq) hB (Or.inr ⟨rfl, hb.elim (fun q => absurd w q) id⟩)
  · rw [if_neg w]
    exact V_ho4 hV (al_of hq) hB (Or.inl rfl)
theorem Ax_kho (h : zO8 a b) (hV : cV a [] B) (hB : B + 1 ≤ 1000000) : zAx (kHo a o x) (kHo b o x) a := by
  have e := O8_c (c := 133) (k := o.toNatClampNeg) h (by decide) (by decide) (by decide) (by decide)
  refine ⟨O8_if (by rw [O8_Rq h, e]) (fun w => ?_) h, fun _ => If_7c (fun w => ?_)⟩
  · rw [← e] at w ⊢
    exact Le_o8 (O8_u h) (V_h0 hV hB ((O8_Rq h).mpr w.1) w.2)
  · exact (Le_x X87 (V_h0 hV hB w.1 w.2)).trans (xu_o (by omega))
theorem Ax_kgr (h : zO8 a b) (hV : cV a [] B) : zAx (kGr a r) (kGr b r) a := by
  have tw := O8_tw h
  have vt := V_tw4 hV
  refine ⟨O8_if Iff.rfl (fun w => O8_if (by rw [tw.2, O8_Nm h]) (fun _ => tw.1) (by rw [tw.2]; exact O8_rt tw.1 vt w)) h, fun k => If_7c (fun w => ?_)⟩
  by_cases q : aNm a (aTy a) = -1
  · rw [qIf_y q]
    exact tw_87
  · rw [qIf_n q]
    exact (rt_87 vt w).trans tw_87
theorem Ax_ksg (h : zO8 a b) (hV : cV a [] B) : zAx (kSg a i r) (kSg b i r) a := ⟨O8_if (by rw [O8_Nm h, O8_c (c := 73) h (by decide) (by decide) (by decide) (by decide)]) (fun w => by rw [O8_c (c := 73) h (by decide) (by decide) (by decide) (by decide)]; exact O8_rt h hV w.2.1) h, fun _ => If_7c (fun w => rt_87 hV w.2.1)⟩
/-- what the class tells of aS 88, as aT -/
theorem T_88 : zO8 (aT P S) (aS 88 S) := fun c k h1 h2 h3 h4 => (T_o8 c k h1 h2 h3 h4).trans (Of_S c k h1 h2 h3)
theorem Q_A {X Y : Nat → Nat → Int32} (h : zQ aa (aT P S)) (hx : zAx X Y aa) (hs : aS 88 S₉ = Y) (fq : zfP P (mI S₉) = zfP P (mI S)) : zQ X (aT P S₉) := by
  refine Q_of (fun c k h1 h2 h3 h4 => ?_) (fun k hk => ?_)
  · rw [hx.1 c k h1 h2 h3 h4, ← hs]
    exact (T_88 c k h1 h2 h3 h4).symm
  · have e : aT P S₉ 87 k = aT P S 87 k := by rw [T_7, T_7, fq]
    rw [e, hx.2 k]
    exact hk.elim (fun w => Q_k h w) (fun w => by rw [w]; exact Q_8e h)
theorem Q_88o (h : zQ aa (aT P S)) : zO8 aa (aS 88 S) := fun c k h1 h2 h3 h4 => (Q_8 h c k h1 h2 h3 h4).trans (T_88 c k h1 h2 h3 h4)
theorem Q_80 (h : zQ aa (aT P S)) : aa 87 8 = 0 := (Q_8e h).trans T_8
end E1B

/-! from 95.p02 -/
/-! SWEEP and COUNTS: the class's heap behind what is no matter of it -/
section E2
variable {S S₉ : ma_S} {f : Nat → Nat → Int32} {r : Nat → Nat → Option Nat} {C Z N P : Nat} {m₉ a b : Nat → Nat → Int32} {K : Nat → Int32} {B : Int}
theorem aF_c5 {I I₉ : Nat → Nat → Int32} {R : Nat → Option Nat} {L L₉ : Nat → Nat → Int64} (h : ∀ c k, c < 94 ∨ 124 < c → I c k = I₉ c k) (hL : ∀ c, 126 ≤ c → L c 3 = L₉ c 3) (hR : ∀ n b, R n = some b → 126 ≤ b) : aF 75 I R L = aF 75 I₉ R L₉ := by
  funext c1 k1
  by_cases b : zrl c1 k1 = true
  · have p := zrl_p b
    rw [aF_I b, aF_I b]
    refine h _ _ (Or.inl ?_)
    unfold zcw
    split <;> omega
  · unfold aF
    rw [if_neg b, if_neg b]
    split
    · rfl
    · split
      · rfl
      · split
        · split
          · unfold aTf
            split
            · cases e : R k1 with
              | none => rfl
              | some q =>
                have := hR _ _ e
                exact h q _ (Or.inr (by omega))
            · rfl
          · rfl
        · unfold aTr
          split
          · cases e : R (c1 - 1000) with
            | none => rfl
            | some q =>
              show zbit (L q 3) _ = zbit (L₉ q 3) _
              rw [hL q (hR _ _ e)]
          · rfl
theorem zf_cg (hP : P < 94) (h : ∀ c k, c < 94 ∨ 124 < c → m₉ c k = mI S c k) : zfP P m₉ = zfP P (mI S) := by
  funext j
  unfold zfP
  rw [h 79 _ (Or.inl (by decide)), h P _ (Or.inl hP)]
theorem T_cg {R : Nat → Option Nat} (ha : aS 75 S₉ = aS 75 S) (hf : zfP P (mI S₉) = zfP P (mI S)) : aT P S₉ = aT P S := by
  unfold aT
  rw [ha, hf]
theorem S_o5 (h : zA f r C Z N S) {x : Int64} : aS 75 (ma_put S 125 0 (.inr (.inl x))) = aS 75 S := aF_c5 (fun _ _ _ => rfl) (fun c hc => by
  show (if c = 125 ∧ 3 = 0 then x else mL S c 3) = mL S c 3
  rw [if_neg (by omega)]) (h70 h)
theorem T_o5 (h : zA f r C Z N S) {x : Int64} : aT P (ma_put S 125 0 (.inr (.inl x))) = aT P S := T_cg (R := fun _ => none) (S_o5 h) rfl
theorem T_zst (hP : P < 94) (h : zA f r C Z N S) (ho : ∀ c k, c < 94 ∨ 124 < c → m₉ c k = mI S c k) : aT P (zst S m₉) = aT P S := T_cg (R := fun _ => none) (aF_c5 ho (fun _ _ => rfl) (fun n b e => h70 (S := S) h n b e)) (zf_cg hP ho)
theorem kC_zst (h : zA f r C Z N S) (ho : ∀ c k, c < 94 ∨ 124 < c → m₉ c k = mI S c k) : kC (zst S m₉) = kC S := by
  funext k
  show aTf m₉ (mR S 70) 6 k = aTf (mI S) (mR S 70) 6 k
  unfold aTf
  split
  · cases e : mR S 70 k with
    | none => rfl
    | some q =>
      have := h70 (S := S) h _ _ e
      exact ho q 6 (Or.inr (by omega))
  · rfl
/-- kept whole -/
def zKp (S S₉ : ma_S) : Prop := aS 88 S₉ = aS 88 S ∧ (xB S (mR S 70) → xB S₉ (mR S₉ 70)) ∧ (aT 79 S₉ = aT 79 S) ∧ (aT 84 S₉ = aT 84 S) ∧ kC S₉ = kC S
theorem fm_75 (h : zFm (mI S) (mL S) (mR S 70) S₉) (hR : ∀ n b, mR S 70 n = some b → 126 ≤ b) : aS 75 S₉ = aS 75 S := by
  unfold aS
  rw [h.1, h.2.1]
  funext c1 k1
  by_cases b : zrl c1 k1 = true
  · have w := zcw_lt (W := 75) (Or.inl rfl) b
    have p := zrl_p b
    rw [aF_I b, aF_I b]
    refine h.2.2 _ _ ?_
    unfold zcw
    split <;> omega
  · unfold aF
    rw [if_neg b, if_neg b]
    split
    · rfl
    · split
      · rfl
      · split
        · split
          · unfold aTf
            split
            · cases e : mR S 70 k1 with
              | none => rfl
              | some q =>
                have := hR _ _ e
                exact h.2.2 q _ (by omega)
            · rfl
          · rfl
        · rfl
theorem fm_kp (h : zFm (mI S) (mL S) (mR S 70) S₉) (hA : zA f r C Z N S) : zKp S S₉ := by
  have hR := h70 hA
  have e5 := fm_75 h hR
  have zf : ∀ P, 69 ≤ P → zfP P (mI S₉) = zfP P (mI S) := fun P hP => by
    funext j
    unfold zfP
    rw [h.2.2 79 _ (by decide), h.2.2 P _ hP]
  refine ⟨fn9_aS h hR, fun b => fn9_xB h b, T_cg (R := fun _ => none) e5 (zf 79 (by decide)), T_cg (R := fun _ => none) e5 (zf 84 (by decide)), ?_⟩
  funext k
  unfold kC
  rw [h.1]
  unfold aTf
  split
  · cases e : mR S 70 k with
    | none => rfl
    | some q =>
      have := hR _ _ e
      exact h.2.2 q 6 (by omega)
  · rfl
theorem kp_o5 {f₉ : Nat → Nat → Int32} {r₉ : Nat → Nat → Option Nat} {C₉ Z₉ N₉ : Nat} (h : zKp S S₉) (hA : zA f₉ r₉ C₉ Z₉ N₉ S₉) {x : Int64} : zKp S (ma_put S₉ 125 0 (.inr (.inl x))) := ⟨(aS_o hA).trans h.1, fun b => h.2.1 b, (T_o5 hA).trans h.2.2.1, (T_o5 hA).trans h.2.2.2.1, h.2.2.2.2⟩
theorem C_up (h : cC a [] K B) : cC a [] K (B + 1) := by
  obtain ⟨q1, q2, q3, q5, qk⟩ := C0_un h
  refine C0_mk q1 q2 (fun n hn => ?_) q5 qk
  have q := q3 n hn
  exact ⟨q.1, by omega⟩
theorem I_q (h : zQ a b) (hI : qI a) (h6 : 0 ≤ (b 87 6).toInt) : qI b := by
  have rr : ∀ c, c ≠ 75 → c ≠ 76 → c ≠ 77 → c ≠ 87 → b c = a c := fun c h1 h2 h3 h4 => funext (fun k => (Q_c h h1 h2 h3 h4).symm)
  have e126 := rr 126 (by decide) (by decide) (by decide) (by decide)
  have e128 := rr 128 (by decide) (by decide) (by decide) (by decide)
  have e130 := rr 130 (by decide) (by decide) (by decide) (by decide)
  have e71 := rr 71 (by decide) (by decide) (by decide) (by decide)
  have e69 := rr 69 (by decide) (by decide) (by decide) (by decide)
  have k0 : b 87 0 = a 87 0 := (Q_k h (by decide)).symm
  have k2 : b 87 2 = a 87 2 := (Q_k h (by decide)).symm
  have al : xAl b = xAl a := by
    funext n
    unfold xAl
    rw [e126]
  obtain ⟨i1, i2, i3, i4, i5, i6⟩ := hI
  refine ⟨?_, ?_, ?_, ?_, ?_, ?_⟩
  · unfold qI1
    rw [al, e69, e130, e128, k0, e71]
    exact i1
  · unfold qI2
    rw [al, e130, e128]
    exact i2
  · unfold qI3
    rw [al, e130, e128, e71]
    exact i3
  · unfold qI4 qGd
    rw [al, e69, e130, e128, k0, k2]
    exact ⟨i4.1, i4.2.1, i4.2.2.1, i4.2.2.2.1, i4.2.2.2.2.1, h6⟩
  · rw [e69, i5, Su_z (a := a) (b := b) 512 (fun x _ => ⟨by rw [e126], by rw [e128]⟩)]
  · intro n hn k
    rw [al] at hn
    rw [rr (1000 + n) (by omega) (by omega) (by omega) (by omega)]
    exact i6 n hn k
theorem T_6 : 0 ≤ (aT P S 87 6).toInt := by
  rw [T_7]
  show 0 ≤ (if 6 < 3 then _ else (0 : Int32)).toInt
  rw [if_neg (by decide)]
  decide
end E2

/-! from 95.q10 -/
/-! the moving collectors, the class (written by wip/tools/gen15.py) -/
/-! SLIDE: a move, by numbers -/
def aMo (a : Nat → Nat → Int32) (n : Nat) (to : Int32) : Nat → Nat → Int32 := fun c k =>
  if c = 71 then (if to.toInt ≤ (k : Int) ∧ (k : Int) < to.toInt + (a 128 n).toInt then a 71 ((k : Int) - to.toInt + (a 130 n).toInt).toNat
    else if (a 130 n).toInt ≤ (k : Int) ∧ (k : Int) < (a 130 n).toInt + (a 128 n).toInt then -1 else a 71 k)
  else if c = 130 ∧ k = n then to else a c k
/-- nobody else lies there -/
def qFr (a : Nat → Nat → Int32) (n : Nat) (to : Int32) : Prop := ∀ n₉, xAl a n₉ → n₉ ≠ n → to.toInt + (a 128 n).toInt ≤ (a 130 n₉).toInt ∨ (a 130 n₉).toInt + (a 128 n₉).toInt ≤ to.toInt
section F0
variable {a : Nat → Nat → Int32} {n n₉ c k : Nat} {to : Int32} {p : Int}
theorem Mo_r (h1 : c ≠ 71) (h2 : c ≠ 130) : aMo a n to c k = a c k := by
  unfold aMo
  rw [if_neg h1, if_neg (fun z => h2 z.1)]
theorem Mo_c (h1 : c ≠ 71) (h2 : c ≠ 130) : aMo a n to c = a c := funext (fun _ => Mo_r h1 h2)
theorem Mo_pn : aMo a n to 130 n = to := by
  unfold aMo
  rw [if_neg (by decide), if_pos ⟨rfl, rfl⟩]
theorem Mo_po (h : n₉ ≠ n) : aMo a n to 130 n₉ = a 130 n₉ := by
  unfold aMo
  rw [if_neg (by decide), if_neg (fun z => h z.2)]
theorem Mo_in (h : to.toInt ≤ (k : Int)) (h2 : (k : Int) < to.toInt + (a 128 n).toInt) : aMo a n to 71 k = a 71 ((k : Int) - to.toInt + (a 130 n).toInt).toNat := by
  unfold aMo
  rw [if_pos rfl, if_pos ⟨h, h2⟩]
theorem Mo_old (h : ¬ (to.toInt ≤ (k : Int) ∧ (k : Int) < to.toInt + (a 128 n).toInt)) (h2 : (a 130 n).toInt ≤ (k : Int) ∧ (k : Int) < (a 130 n).toInt + (a 128 n).toInt) : aMo a n to 71 k = -1 := by
  unfold aMo
  rw [if_pos rfl, if_neg h, if_pos h2]
theorem Mo_out (h : ¬ (to.toInt ≤ (k : Int) ∧ (k : Int) < to.toInt + (a 128 n).toInt)) (h2 : ¬ ((a 130 n).toInt ≤ (k : Int) ∧ (k : Int) < (a 130 n).toInt + (a 128 n).toInt)) : aMo a n to 71 k = a 71 k := by
  unfold aMo
  rw [if_pos rfl, if_neg h, if_neg h2]
theorem Mo_al : xAl (aMo a n to) n₉ ↔ xAl a n₉ := by
  unfold xAl
  rw [Mo_r (by decide) (by decide)]
/-- the words of another stay -/
theorem Mo_ot (hI : qI a) (hn : xAl a n) (F : qFr a n to) (h : xAl a n₉) (hne : n₉ ≠ n) (hk : (a 130 n₉).toInt ≤ (k : Int)) (hk2 : (k : Int) < (a 130 n₉).toInt + (a 128 n₉).toInt) : aMo a n to 71 k = a 71 k := by
  have f := F n₉ h hne
  have g := hI.2.1 n₉ n h hn hne
  exact Mo_out (fun z => by omega) (fun z => by omega)
theorem Mo_su : ∀ j, qSu (aMo a n to) j = qSu a j
  | 0 => rfl
  | j + 1 => by
    unfold qSu
    rw [Mo_su j, Mo_r (by decide) (by decide), Mo_r (by decide) (by decide)]
theorem I_mo (hI : qI a) (hn : xAl a n) (h0 : 0 ≤ to.toInt) (h1 : to.toInt + (a 128 n).toInt ≤ (a 87 0).toInt) (F : qFr a n to) (hz : (a 87 2).toInt = 0) : qI (aMo a n to) := by
  have hi1 := hI.1
  have hi2 := hI.2.1
  have hi3 := hI.2.2.1
  have hi4 := hI.2.2.2.1
  have b := hi1 n hn
  refine ⟨fun x hx => ?_, fun x y hx hy hxy => ?_, fun p hp hq => ?_, ?_, ?_, fun x hx k => ?_⟩
  · have hx₉ := Mo_al.1 hx
    have q := hi1 x hx₉
    rw [Mo_r (c := 69) (by decide) (by decide), Mo_r (c := 128) (by decide) (by decide), Mo_r (c := 87) (by decide) (by decide)]
    by_cases e : x = n
    · rw [e, Mo_pn]
      refine ⟨⟨b.1.1, h0⟩, b.2.1, h1, ?_⟩
      have t0 := tn_cast (x := to) h0
      have t1 := tn_cast (x := a 130 n) b.1.2
      rw [Mo_in (by omega) (by omega), show (((to.toNatClampNeg : Nat) : Int) - to.toInt + (a 130 n).toInt).toNat = (a 130 n).toNatClampNeg from by omega]
      exact b.2.2.2
    · rw [Mo_po e]
      have t1 := tn_cast (x := a 130 x) q.1.2
      rw [Mo_ot hI hn F hx₉ e (by omega) (by omega)]
      exact q
  · have hx₉ := Mo_al.1 hx
    have hy₉ := Mo_al.1 hy
    rw [Mo_r (c := 128) (by decide) (by decide), Mo_r (c := 128) (by decide) (by decide)]
    by_cases e : x = n
    · have e2 : y ≠ n := fun z => hxy (e.trans z.symm)
      rw [e, Mo_pn, Mo_po e2]
      exact F y hy₉ e2
    · rw [Mo_po e]
      by_cases e2 : y = n
      · rw [e2, Mo_pn]
        exact (F x hx₉ e).symm
      · rw [Mo_po e2]
        exact hi2 x y hx₉ hy₉ hxy
  · have hq2 : ∀ x, xAl a x → x ≠ n → ¬ ((a 130 x).toInt ≤ (p : Int) ∧ (p : Int) < (a 130 x).toInt + (a 128 x).toInt) := fun x hx e z => by
      have g := hq x (Mo_al.2 hx)
      rw [Mo_po e, Mo_r (c := 128) (by decide) (by decide)] at g
      exact g z
    have g := hq n (Mo_al.2 hn)
    rw [Mo_pn, Mo_r (c := 128) (by decide) (by decide)] at g
    by_cases o : (a 130 n).toInt ≤ (p : Int) ∧ (p : Int) < (a 130 n).toInt + (a 128 n).toInt
    · exact Mo_old g o
    · rw [Mo_out g o]
      refine hi3 p hp (fun x hx => ?_)
      by_cases e : x = n
      · rw [e]; exact o
      · exact hq2 x hx e
  · unfold qI4 at hi4 ⊢
    rw [Mo_c (c := 69) (by decide) (by decide), Mo_c (c := 87) (by decide) (by decide)]
    refine ⟨hi4.1, hi4.2.1, hi4.2.2.1, hi4.2.2.2.1, fun x hx z => ?_, hi4.2.2.2.2.2⟩
    have hx₉ := Mo_al.1 hx
    rw [hz] at z
    by_cases e : x = n
    · rw [e, Mo_pn] at z
      omega
    · rw [Mo_po e] at z
      have q := (hi1 x hx₉).1.2
      omega
  · rw [Mo_su, Mo_r (by decide) (by decide)]
    exact hI.2.2.2.2.1
  · rw [Mo_r (by omega) (by omega)]
    exact hI.2.2.2.2.2 x (fun z => hx (Mo_al.2 z)) k
/-- references stay -/
theorem Mo_ref {i : Int32} (hI : qI a) (hn : xAl a n) (h0 : 0 ≤ to.toInt) (h1 : to.toInt + (a 128 n).toInt ≤ (a 87 0).toInt) (F : qFr a n to) (h : xAl a n₉) (hi : 0 ≤ i.toInt) (hi2 : i.toInt < (a 128 n₉).toInt - 1) : aRef (aMo a n to) n₉ i = aRef a n₉ i := by
  have b := hI.1 n₉ h
  have b4 := hI.2.2.2.1.2.2.1
  have l1 : (1 : Int32).toInt = 1 := rfl
  have e1 : (a 130 n₉ + 1).toInt = (a 130 n₉).toInt + 1 := i_addk rfl (by omega) (by omega)
  have e2 : (a 130 n₉ + 1 + i).toInt = (a 130 n₉).toInt + 1 + i.toInt := by rw [i_add (by omega) (by omega), e1]
  have t2 := tn_cast (x := a 130 n₉ + 1 + i) (by omega)
  unfold aRef
  rw [Mo_r (c := 1000 + n₉) (by omega) (by omega)]
  by_cases e : n₉ = n
  · subst e
    have f1 : (to + 1).toInt = to.toInt + 1 := i_addk rfl (by omega) (by omega)
    have f2 : (to + 1 + i).toInt = to.toInt + 1 + i.toInt := by rw [i_add (by omega) (by omega), f1]
    have s2 := tn_cast (x := to + 1 + i) (by omega)
    rw [Mo_pn]
    by_cases w : a (1000 + n₉) i.toNatClampNeg ≠ 0
    · rw [if_pos ⟨w, by omega, by omega⟩, if_pos ⟨w, by omega, by omega⟩, Mo_in (by omega) (by omega), show (((to + 1 + i).toNatClampNeg : Int) - to.toInt + (a 130 n₉).toInt).toNat = (a 130 n₉ + 1 + i).toNatClampNeg from by omega]
    · rw [if_neg (fun z => w z.1), if_neg (fun z => w z.1)]
  · rw [Mo_po e, Mo_ot hI hn F h e (by omega) (by omega)]
end F0

/-! from 95.q11 -/
/-! the moving collectors, the class (written by wip/tools/gen15.py) -/
/-! SLIDE: the reference's move -/
section F1
variable {a : Nat → Nat → Int32} {us nr kr kd ws at₉ at2 ho wd wi ow ow2 rt wk wl : Nat → Int32} {wm nu ro fo le ra pi to : Int32} {s : Nat}
theorem RB_mo (hR : qRB us nr kr kd ws at₉ ho wd wi ow rt wk wl wm nu ro fo le ra pi a) (hI : qI a) (hs : s < 3100) (hu : us s ≠ 0) (h0 : 0 ≤ to.toInt) (h1 : to.toInt + (a 128 (nr s).toNatClampNeg).toInt ≤ (a 87 0).toInt) (F : qFr a (nr s).toNatClampNeg to)
    (ha : ∀ t, at2 t = if t = s then to else at₉ t) (h2 : ow2 to.toNatClampNeg = Int32.ofNat s) (h3 : ∀ p, p ≠ to.toNatClampNeg → p ≠ (at₉ s).toNatClampNeg → ow2 p = ow p) : qRB us nr kr kd ws at2 ho wd wi ow2 rt wk wl wm nu ro fo le ra pi (aMo a (nr s).toNatClampNeg to) := by
  have hn := R1_al hR.1 hs hu
  have ne : ∀ t, t < 3100 → us t ≠ 0 → t ≠ s → (nr t).toNatClampNeg ≠ (nr s).toNatClampNeg := fun t ht hut e z => e (hR.1.2.1 t s ht hs hut hu (by rw [← R1_of_nr hR.1 ht hut, ← R1_of_nr hR.1 hs hu, z]))
  refine ⟨⟨fun t ht hut => ?_, hR.1.2.1, fun n hn2 hz => ?_⟩, fun t ht hut i hi => ?_, fun k hk => ?_, fun k hk => ?_, ?_, fun t ht hut => ?_, fun t ht hut => ?_, ?_⟩
  · have q := hR.1.1 t ht hut
    rw [Mo_r (c := 126) (by decide) (by decide), Mo_r (c := 128) (by decide) (by decide), Mo_r (c := 133) (by decide) (by decide), ha t]
    by_cases e : t = s
    · rw [if_pos e, e, Mo_pn]
      rw [e] at q
      exact ⟨q.1, q.2.1, q.2.2.1, rfl, q.2.2.2.2.1, q.2.2.2.2.2.1, h0⟩
    · rw [if_neg e, Mo_po (ne t ht hut e)]
      exact q
  · rw [Mo_r (by decide) (by decide)] at hz
    exact hR.1.2.2 n hn2 hz
  · have q := hR.2.1 t ht hut i hi
    have b := hR.1.1 t ht hut
    have al := R1_al hR.1 ht hut
    have sz : (a 128 (nr t).toNatClampNeg).toInt = (ws t).toInt + 1 := by
      rw [b.2.2.1]
      exact i_addk rfl (by omega) (by omega)
    have ei : (Int32.ofNat i).toInt = (i : Int) := ofN_s (by omega)
    rw [Mo_ref hI hn h0 h1 F al (by omega) (by omega), Mo_r (c := 1000 + (nr t).toNatClampNeg) (by omega) (by omega)]
    exact q
  · rw [Mo_r (by decide) (by decide)]
    exact hR.2.2.1 k hk
  · rw [Mo_r (by decide) (by decide)]
    exact hR.2.2.2.1 k hk
  · unfold qR5
    rw [Mo_c (c := 69) (by decide) (by decide), Mo_c (c := 74) (by decide) (by decide)]
    exact hR.2.2.2.2.1
  · rw [Mo_r (by decide) (by decide)]
    exact hR.2.2.2.2.2.1 t ht hut
  · rw [ha t]
    by_cases e : t = s
    · rw [if_pos e, e]
      exact h2
    · rw [if_neg e]
      have b := hR.1.1 t ht hut
      have bs := hR.1.1 s hs hu
      have al := R1_al hR.1 ht hut
      have f := F _ al (ne t ht hut e)
      have g := hI.2.1 _ _ al hn (ne t ht hut e)
      have z1 := (hI.1 _ al).2.1
      have z2 := (hI.1 _ hn).2.1
      rw [b.2.2.2.1] at f g
      rw [bs.2.2.2.1] at g
      have t0 := tn_cast (x := to) h0
      have t1 := tn_cast (x := at₉ t) b.2.2.2.2.2.2
      have t2 := tn_cast (x := at₉ s) bs.2.2.2.2.2.2
      rw [h3 (at₉ t).toNatClampNeg (by omega) (by omega)]
      exact hR.2.2.2.2.2.2.1 t ht hut
  · unfold qR8
    rw [Mo_c (c := 69) (by decide) (by decide), Mo_c (c := 87) (by decide) (by decide)]
    exact hR.2.2.2.2.2.2.2
end F1

/-! from 95.q12 -/
/-! the moving collectors, the class (written by wip/tools/gen15.py) -/
/-! the moving collectors: row 87 is what is said of the places; a move in the class -/
def aM (q : Nat → Int32) (S : ma_S) : Nat → Nat → Int32 := fun c k => if c = 87 then q k else aS 75 S c k
/-- a move that can be -/
def qMv (a : Nat → Nat → Int32) (n : Nat) (to : Int32) : Prop := 0 ≤ (a 130 n).toInt ∧ 1 ≤ (a 128 n).toInt ∧ (a 130 n).toInt + (a 128 n).toInt ≤ 4500 ∧ 0 ≤ to.toInt ∧ to.toInt + (a 128 n).toInt ≤ 4500 ∧ (to.toInt ≤ (a 130 n).toInt ∨ (a 130 n).toInt + (a 128 n).toInt ≤ to.toInt)
section F2
variable {W c k n g : Nat} {q : Nat → Int32} {S S₉ : ma_S} {R : Nat → Option Nat} {x y to : Int32} {a ab b : Nat → Nat → Int32} {f : Nat → Int32} {I : Nat → Nat → Int32} {L : Nat → Nat → Int64} {p e : Int}
theorem aM_o (h : c ≠ 87) : aM q S c k = aS 75 S c k := if_neg h
theorem aM_7 : aM q S 87 k = q k := if_pos rfl
theorem zr_n {P : Nat} (h : c ≠ P) : mI (ma_put S c k (.inl x)) P = mI S P := funext (fun j => by
  show (if P = c ∧ j = k then x else mI S P j) = mI S P j
  rw [if_neg (fun w => h w.1.symm)])
theorem aM_c (h : aS 75 S₉ = aS 75 S) : aM q S₉ = aM q S := by
  unfold aM
  rw [h]
theorem aM_r (h : c ≠ 87) : aM q S c = aS 75 S c := funext (fun _ => aM_o h)
theorem mb_e : zOb (aM q S) = zOb (aS 75 S) := by
  funext p
  unfold zOb
  rw [aM_o (c := 71) (by decide), aM_o (c := 126) (by decide)]
theorem mb_y (hC : xB S R) (rg : zTa R (mI S 71 x.toNatClampNeg) = some c) (h0 : 0 ≤ x.toInt) (h1 : x.toInt < 4500) : zOb (aM q S) x.toInt = mI S 71 x.toNatClampNeg ∧ aM q S 128 (mI S 71 x.toNatClampNeg).toNatClampNeg = mI S c 2 := by
  rw [mb_e, aM_o (c := 128) (by decide)]
  exact ob_y hC rg h0 h1
theorem mb_n2 (h : (mI S 71 x.toNatClampNeg).toInt < 0 ∨ 512 ≤ (mI S 71 x.toNatClampNeg).toInt) : zOb (aM q S) x.toInt = -1 := by
  rw [mb_e]
  exact ob_n2 h
theorem mb_n3 (hC : xB S R) (rn : zTa R (mI S 71 x.toNatClampNeg) = none) : zOb (aM q S) x.toInt = -1 := by
  rw [mb_e]
  exact ob_n3 hC rn
theorem aTf_cp (hR : ∀ n t, n < 512 → R n = some t → 126 ≤ t) : aTf (ma_uc I 71 f) R g n = aTf I R g n := by
  unfold aTf
  by_cases h : n < 512
  · rw [if_pos h, if_pos h]
    cases e : R n with
    | none => rfl
    | some t =>
      show (if t = 71 then f else I t) g = I t g
      rw [if_neg (fun y => by have := hR n t h e; omega)]
  · rw [if_neg h, if_neg h]
theorem aF_cp (hW : xW W) (hR : ∀ n t, n < 512 → R n = some t → 126 ≤ t) : aF W (ma_uc I 71 f) R L = ma_uc (aF W I R L) 71 f := by
  funext c k
  show aF W (ma_uc I 71 f) R L c k = (if c = 71 then f else aF W I R L c) k
  have z1 : zrl 71 k = true := rfl
  have z2 : zcw W 71 = 71 := zcw_s (Or.inl (by decide))
  by_cases w : c = 71
  · rw [if_pos w, w, aF_I z1, z2]
    show (if (71 : Nat) = 71 then f else I 71) k = f k
    rw [if_pos rfl]
  · rw [if_neg w]
    by_cases b : zrl c k = true
    · rw [aF_I b, aF_I b]
      have ne : zcw W c ≠ 71 := fun e => w (zcw_inj hW b z1 (e.trans z2.symm))
      show (if zcw W c = 71 then f else I (zcw W c)) k = _
      rw [if_neg ne]
    · unfold aF
      rw [if_neg b, if_neg b, aTf_cp hR]
theorem xC_cp (h : xC W S ab R) (hW : xW W) : xC W (ma_cp S 71 f) (ma_uc ab 71 f) R := by
  refine ⟨?_, h.2.1, fun n t hn e => ?_⟩
  · rw [← h.1]
    exact aF_cp (I := mI S) (R := mR S 70) (L := mL S) hW (xB_hR h.2)
  · have q := h.2.2 n t hn e
    refine ⟨q.1, ?_⟩
    show (if t = 71 then f else mI S t) 0 = _
    rw [if_neg (by have := q.1; omega)]
    exact q.2
theorem cp_fx (h : 126 ≤ c) : (mI (ma_cp S 71 f) c k).toInt = (mI S c k).toInt := by
  show ((if c = 71 then f else mI S c) k).toInt = _
  rw [if_neg (by omega)]
theorem cp_th (h : 126 ≤ c) : mI (ma_cp S 71 f) c k = mI S c k := by
  show (if c = 71 then f else mI S c) k = _
  rw [if_neg (by omega)]
theorem Mo_id : aMo a n (a 130 n) = a := by
  funext c k
  unfold aMo
  by_cases w : c = 71
  · rw [if_pos w, w]
    split
    · next z => rw [show ((k : Int) - (a 130 n).toInt + (a 130 n).toInt).toNat = k from by omega]
    · next z => rfl
  · rw [if_neg w]
    split
    · next z => rw [z.1, z.2]
    · rfl
/-- copying, freeing, and the place -/
theorem Mo_eq (h : qMv a n to) (hp : p = if to.toInt < (a 130 n).toInt then (if (a 130 n).toInt ≤ to.toInt + (a 128 n).toInt then to.toInt + (a 128 n).toInt else (a 130 n).toInt) else (a 130 n).toInt) (he : e = (a 130 n).toInt + (a 128 n).toInt) (hne : to.toInt ≠ (a 130 n).toInt) : ma_u (zFr (ma_uc a 71 (va_cpy (a 71) (a 71) (a 130 n).toNatClampNeg to.toNatClampNeg (a 128 n).toNatClampNeg)) p e) 130 n to = aMo a n to := by
  obtain ⟨h1, h2, h3, h4, h5, h6⟩ := h
  have t1 := tn_cast (x := a 130 n) h1
  have t2 := tn_cast (x := a 128 n) (by omega)
  have t3 := tn_cast (x := to) h4
  funext c k
  unfold aMo
  show (if c = 130 ∧ k = n then to else (if c = 71 ∧ p ≤ (k : Int) ∧ (k : Int) < e then -1 else (if c = 71 then va_cpy (a 71) (a 71) (a 130 n).toNatClampNeg to.toNatClampNeg (a 128 n).toNatClampNeg else a c) k)) = _
  by_cases w : c = 71
  · rw [if_pos w, if_neg (by omega), if_pos w]
    unfold va_cpy
    by_cases i : to.toInt ≤ (k : Int) ∧ (k : Int) < to.toInt + (a 128 n).toInt
    · have np : ¬ (c = 71 ∧ p ≤ (k : Int) ∧ (k : Int) < e) := fun z => by
        rw [hp, he] at z
        have z2 := z.2
        split at z2
        · split at z2 <;> omega
        · omega
      rw [if_neg np, if_pos i, if_pos (by omega), show (a 130 n).toNatClampNeg + (k - to.toNatClampNeg) = ((k : Int) - to.toInt + (a 130 n).toInt).toNat from by omega]
    · rw [if_neg i]
      by_cases j : (a 130 n).toInt ≤ (k : Int) ∧ (k : Int) < (a 130 n).toInt + (a 128 n).toInt
      · have yp : c = 71 ∧ p ≤ (k : Int) ∧ (k : Int) < e := by
          refine ⟨w, ?_, by omega⟩
          rw [hp]
          split
          · split <;> omega
          · omega
        rw [if_pos yp, if_pos j]
      · have np : ¬ (c = 71 ∧ p ≤ (k : Int) ∧ (k : Int) < e) := fun z => by
          rw [hp, he] at z
          have z2 := z.2
          split at z2
          · split at z2 <;> omega
          · omega
        rw [if_neg np, if_neg j, if_neg (by omega)]
  · have np : ¬ (c = 71 ∧ p ≤ (k : Int) ∧ (k : Int) < e) := fun z => w z.1
    rw [if_neg np, if_neg w, if_neg w]
theorem Mo_e1 (h : qMv a n to) (h1 : ¬ to.toInt < (a 130 n).toInt) (hne : to.toInt ≠ (a 130 n).toInt) : ma_u (zFr (ma_uc a 71 (va_cpy (a 71) (a 71) (a 130 n).toNatClampNeg to.toNatClampNeg (a 128 n).toNatClampNeg)) (a 130 n).toInt (zMin (a 130 n + a 128 n).toInt)) 130 n to = aMo a n to := by
  obtain ⟨g1, g2, g3, g4, g5, g6⟩ := id h
  have e1 : (a 130 n + a 128 n).toInt = (a 130 n).toInt + (a 128 n).toInt := i_add (by omega) (by omega)
  refine Mo_eq h ?_ ?_ hne
  · rw [if_neg h1]
  · unfold zMin
    rw [e1]
    split <;> omega
theorem Mo_e2 (h : qMv a n to) (h1 : to.toInt < (a 130 n).toInt) : ma_u (zFr (ma_uc a 71 (va_cpy (a 71) (a 71) (a 130 n).toNatClampNeg to.toNatClampNeg (a 128 n).toNatClampNeg)) (if a 130 n < to + a 128 n then to + a 128 n else a 130 n).toInt (zMin (a 130 n + a 128 n).toInt)) 130 n to = aMo a n to := by
  obtain ⟨g1, g2, g3, g4, g5, g6⟩ := id h
  have e1 : (a 130 n + a 128 n).toInt = (a 130 n).toInt + (a 128 n).toInt := i_add (by omega) (by omega)
  have e2 : (to + a 128 n).toInt = to.toInt + (a 128 n).toInt := i_add (by omega) (by omega)
  refine Mo_eq h ?_ ?_ (by omega)
  · rw [if_pos h1]
    by_cases w : a 130 n < to + a 128 n
    · have w2 := Int32.lt_iff_toInt_lt.mp w
      rw [if_pos w, if_pos (by omega), e2]
    · have w2 : ¬ (a 130 n).toInt < (to + a 128 n).toInt := fun z => w (Int32.lt_iff_toInt_lt.mpr z)
      rw [if_neg w]
      split <;> omega
  · unfold zMin
    rw [e1]
    split <;> omega
theorem M_mo (h : aS 75 S₉ = aMo (aS 75 S) n to) : aM q S₉ = aMo (aM q S) n to := by
  funext c k
  by_cases w : c = 87
  · rw [w, aM_7, Mo_r (by decide) (by decide), aM_7]
  · rw [aM_o w, h]
    unfold aMo
    rw [aM_o (c := 128) (by decide), aM_o (c := 130) (by decide), aM_o (c := 71) (by decide), aM_o (c := 71) (by decide), aM_o w]
theorem Mv_S (h : qMv (aM q S) n to) : qMv (aS 75 S) n to := by
  unfold qMv at h ⊢
  rw [aM_o (c := 130) (by decide), aM_o (c := 128) (by decide)] at h
  exact h
theorem M_sw (h : aS 75 S₉ = aSw (aS 75 S)) : aM q S₉ = aSw (aM q S) := by
  have o : zO7 (aS 75 S) (aM q S) := fun c k w => (aM_o w).symm
  funext c k
  by_cases w : c = 87
  · rw [w, sw_87, aM_7, aM_7]
  · rw [aM_o w, h]
    exact o7_sw o c k w
end F2

/-! from 95.q13 -/
/-! the moving collectors, the class (written by wip/tools/gen15.py) -/
/-! SLIDE: going down, by numbers -/
def zSf (lim : Int) : Nat → (Nat → Nat → Int32) → Int → Int → (Nat → Nat → Int32) × Int
  | 0, a, _, e => (a, e)
  | f + 1, a, p, e => if p < lim then (if (zOb a p).toInt < 0 then zSf lim f a (p + 1) e
      else if a 133 (zOb a p).toNatClampNeg = 0 then zSf lim f (aMo a (zOb a p).toNatClampNeg (Int32.ofInt e)) (p + (a 128 (zOb a p).toNatClampNeg).toInt) (e + (a 128 (zOb a p).toNatClampNeg).toInt)
      else zSf lim f a (p + (a 128 (zOb a p).toNatClampNeg).toInt) (p + (a 128 (zOb a p).toNatClampNeg).toInt)) else (a, e)
def zSd (a : Nat → Nat → Int32) (lim p e : Int) : (Nat → Nat → Int32) × Int := zSf lim (lim - p).toNat a p e
def zS1 (a : Nat → Nat → Int32) : Prop := ∀ n, xAl a n → 1 ≤ (a 128 n).toInt
/-- those below p are done, up to e -/
def qJs (a : Nat → Nat → Int32) (p e : Int) : Prop := qI a ∧ (0 ≤ e ∧ e ≤ p ∧ e ≤ (a 87 0).toInt) ∧ qGd a p ∧ ∀ n, xAl a n → (a 130 n).toInt < p → (a 130 n).toInt + (a 128 n).toInt ≤ e
section F3
variable {a b : Nat → Nat → Int32} {lim p e : Int} {n : Nat} {to : Int32}
theorem Ob_xl (h : 0 ≤ (zOb a p).toInt) : xAl a (zOb a p).toNatClampNeg := by
  unfold zOb at h ⊢
  split at h
  · next z =>
    rw [if_pos z]
    have t := tn_cast z.2.2.1
    exact ⟨by omega, z.2.2.2.2⟩
  · exact absurd h (by decide)
theorem S1_I (h : qI a) : zS1 a := fun n hn => (h.1 n hn).2.1.1
theorem S1_mo (h : zS1 a) : zS1 (aMo a n to) := fun m hm => by
  rw [Mo_r (c := 128) (by decide) (by decide)]
  exact h m (Mo_al.1 hm)
theorem Sf_n {f : Nat} (h : ¬ p < lim) : zSf lim f a p e = (a, e) := by
  cases f with
  | zero => rfl
  | succ f => exact if_neg h
theorem Sf_fr {f : Nat} (h : p < lim) (hf : (zOb a p).toInt < 0) : zSf lim (f + 1) a p e = zSf lim f a (p + 1) e := by
  show (if p < lim then _ else (a, e)) = _
  rw [if_pos h, if_pos hf]
theorem Sf_mv {f : Nat} (h : p < lim) (hf : 0 ≤ (zOb a p).toInt) (hh : a 133 (zOb a p).toNatClampNeg = 0) : zSf lim (f + 1) a p e = zSf lim f (aMo a (zOb a p).toNatClampNeg (Int32.ofInt e)) (p + (a 128 (zOb a p).toNatClampNeg).toInt) (e + (a 128 (zOb a p).toNatClampNeg).toInt) := by
  show (if p < lim then _ else (a, e)) = _
  rw [if_pos h, if_neg (by omega), if_pos hh]
theorem Sf_ho {f : Nat} (h : p < lim) (hf : 0 ≤ (zOb a p).toInt) (hh : a 133 (zOb a p).toNatClampNeg ≠ 0) : zSf lim (f + 1) a p e = zSf lim f a (p + (a 128 (zOb a p).toNatClampNeg).toInt) (p + (a 128 (zOb a p).toNatClampNeg).toInt) := by
  show (if p < lim then _ else (a, e)) = _
  rw [if_pos h, if_neg (by omega), if_neg hh]
theorem Sf_fu : ∀ (f g : Nat) (a : Nat → Nat → Int32) (p e : Int), zS1 a → (lim - p).toNat ≤ f → (lim - p).toNat ≤ g → zSf lim f a p e = zSf lim g a p e := by
  intro f
  induction f with
  | zero =>
    intro g a p e h hf hg
    rw [Sf_n (by omega), Sf_n (by omega)]
  | succ f ih =>
    intro g a p e h hf hg
    by_cases c : p < lim
    · cases g with
      | zero => omega
      | succ g =>
        by_cases d : (zOb a p).toInt < 0
        · rw [Sf_fr c d, Sf_fr c d]
          exact ih g _ _ _ h (by omega) (by omega)
        · have s := h _ (Ob_xl (a := a) (p := p) (by omega))
          by_cases w : a 133 (zOb a p).toNatClampNeg = 0
          · rw [Sf_mv c (by omega) w, Sf_mv c (by omega) w]
            exact ih g _ _ _ (S1_mo h) (by omega) (by omega)
          · rw [Sf_ho c (by omega) w, Sf_ho c (by omega) w]
            exact ih g _ _ _ h (by omega) (by omega)
    · rw [Sf_n c, Sf_n c]
theorem Sd_n (h : ¬ p < lim) : zSd a lim p e = (a, e) := Sf_n h
theorem Sd_fr (h1 : zS1 a) (h : p < lim) (hf : (zOb a p).toInt < 0) : zSd a lim p e = zSd a lim (p + 1) e := by
  unfold zSd
  rw [show (lim - p).toNat = (lim - (p + 1)).toNat + 1 from by omega]
  exact Sf_fr h hf
theorem Sd_mv (h1 : zS1 a) (h : p < lim) (hf : 0 ≤ (zOb a p).toInt) (hh : a 133 (zOb a p).toNatClampNeg = 0) : zSd a lim p e = zSd (aMo a (zOb a p).toNatClampNeg (Int32.ofInt e)) lim (p + (a 128 (zOb a p).toNatClampNeg).toInt) (e + (a 128 (zOb a p).toNatClampNeg).toInt) := by
  have s := h1 _ (Ob_xl (a := a) (p := p) hf)
  unfold zSd
  rw [show (lim - p).toNat = (lim - (p + 1)).toNat + 1 from by omega, Sf_mv h hf hh]
  exact Sf_fu _ _ _ _ _ (S1_mo h1) (by omega) (by omega)
theorem Sd_ho (h1 : zS1 a) (h : p < lim) (hf : 0 ≤ (zOb a p).toInt) (hh : a 133 (zOb a p).toNatClampNeg ≠ 0) : zSd a lim p e = zSd a lim (p + (a 128 (zOb a p).toNatClampNeg).toInt) (p + (a 128 (zOb a p).toNatClampNeg).toInt) := by
  have s := h1 _ (Ob_xl (a := a) (p := p) hf)
  unfold zSd
  rw [show (lim - p).toNat = (lim - (p + 1)).toNat + 1 from by omega, Sf_ho h hf hh]
  exact Sf_fu _ _ _ _ _ h1 (by omega) (by omega)
theorem Js_0 (hI : qI a) : qJs a 0 0 := ⟨hI, ⟨Int.le_refl _, Int.le_refl _, hI.2.2.2.1.2.2.1.1⟩, Gd_0 hI, fun n hn h => by
  have := (hI.1 n hn).1.2
  omega⟩
theorem Ob_pl (hI : qI a) (hn : xAl a n) (hp : (a 130 n).toInt = p) : zOb a p = Int32.ofNat n := by
  have q := hI.1 n hn
  have b4 := hI.2.2.2.1.2.2.1
  have t := tn_cast q.1.2
  have e1 : p.toNat = (a 130 n).toNatClampNeg := by omega
  have hn5 := hn.1
  have e2 : (Int32.ofNat n).toInt = (n : Int) := Int32.toInt_ofNat_of_lt (by omega)
  have e3 := ofN_tn (y := Int32.ofNat n) (by omega)
  have e4 : (Int32.ofNat n).toNatClampNeg = n := by
    have t2 := tn_cast (x := Int32.ofNat n) (by omega)
    omega
  unfold zOb
  rw [e1, q.2.2.2, if_pos ⟨by omega, by omega, by omega, by omega, by rw [e4]; exact hn.2⟩]
theorem Js_fr (h : qJs a p e) (hf : (zOb a p).toInt < 0) (h5 : p < 4500) : qJs a (p + 1) e := by
  have g := Gd_s h.1 h.2.2.1 hf (by have := h.2.1; omega) h5
  refine ⟨h.1, ⟨h.2.1.1, by have := h.2.1; omega, h.2.1.2.2⟩, g, fun n hn hp => ?_⟩
  by_cases w : (a 130 n).toInt < p
  · exact h.2.2.2 n hn w
  · have z := Ob_pl h.1 hn (p := p) (by omega)
    have hn5 := hn.1
    rw [z, Int32.toInt_ofNat_of_lt (by omega)] at hf
    omega
theorem Js_ob (h : qJs a p e) (hf : 0 ≤ (zOb a p).toInt) : xAl a (zOb a p).toNatClampNeg ∧ (a 130 (zOb a p).toNatClampNeg).toInt = p ∧ ∀ m, xAl a m → m ≠ (zOb a p).toNatClampNeg → (a 130 m).toInt < p ∨ p + (a 128 (zOb a p).toNatClampNeg).toInt ≤ (a 130 m).toInt := by
  obtain ⟨n, hn, e1, e2, e3⟩ := OB_al h.1 h.2.2.1 hf
  rw [e3]
  refine ⟨hn, e2, fun m hm hne => ?_⟩
  have d := h.1.2.1 m n hm hn hne
  have s := (h.1.1 m hm).2.1.1
  omega
theorem Js_ho (h : qJs a p e) (hf : 0 ≤ (zOb a p).toInt) : qJs a (p + (a 128 (zOb a p).toNatClampNeg).toInt) (p + (a 128 (zOb a p).toNatClampNeg).toInt) := by
  have g := Gd_nx h.1 h.2.2.1 hf
  have o := Js_ob h hf
  refine ⟨h.1, ⟨by have := h.2.1; omega, Int.le_refl _, g.2.2⟩, g.1, fun m hm hp => ?_⟩
  by_cases w : m = (zOb a p).toNatClampNeg
  · rw [w, o.2.1]
    exact Int.le_refl _
  · have d := o.2.2 m hm w
    have r : (a 130 m).toInt < p := by omega
    have := h.2.2.2 m hm r
    have := h.2.1
    omega
theorem Js_fq (h : qJs a p e) (hf : 0 ≤ (zOb a p).toInt) (he : to.toInt = e) : qFr a (zOb a p).toNatClampNeg to ∧ qMv a (zOb a p).toNatClampNeg to ∧ to.toInt + (a 128 (zOb a p).toNatClampNeg).toInt ≤ (a 87 0).toInt := by
  have g := Gd_nx h.1 h.2.2.1 hf
  have o := Js_ob h hf
  have b := h.2.1
  have q := h.1.1 _ o.1
  have b4 := h.1.2.2.2.1.2.2.1
  refine ⟨fun m hm hne => ?_, ⟨by omega, by omega, by omega, by omega, by omega, Or.inl (by omega)⟩, by omega⟩
  rcases o.2.2 m hm hne with w | w
  · exact Or.inr (by have := h.2.2.2 m hm w; omega)
  · exact Or.inl (by omega)
theorem Js_mv (h : qJs a p e) (hf : 0 ≤ (zOb a p).toInt) (he : to.toInt = e) (hz : (a 87 2).toInt = 0) : qJs (aMo a (zOb a p).toNatClampNeg to) (p + (a 128 (zOb a p).toNatClampNeg).toInt) (e + (a 128 (zOb a p).toNatClampNeg).toInt) := by
  have g := Gd_nx h.1 h.2.2.1 hf
  have o := Js_ob h hf
  have b := h.2.1
  have fq := Js_fq h hf he
  refine ⟨I_mo h.1 o.1 (by omega) fq.2.2 fq.1 hz, ⟨by omega, by omega, by rw [Mo_r (c := 87) (by decide) (by decide)]; omega⟩, fun m hm => ?_, fun m hm hp => ?_⟩
  · have hm₉ := Mo_al.1 hm
    rw [Mo_r (c := 128) (by decide) (by decide)]
    by_cases w : m = (zOb a p).toNatClampNeg
    · rw [w, Mo_pn]
      omega
    · rw [Mo_po w]
      exact g.1 m hm₉
  · have hm₉ := Mo_al.1 hm
    rw [Mo_r (c := 128) (by decide) (by decide)]
    by_cases w : m = (zOb a p).toNatClampNeg
    · rw [w, Mo_pn, he]
      exact Int.le_refl _
    · rw [Mo_po w] at hp ⊢
      have d := o.2.2 m hm₉ w
      have r : (a 130 m).toInt < p := by omega
      have := h.2.2.2 m hm₉ r
      omega
theorem Sf_r {c k : Nat} (h1 : c ≠ 71) (h2 : c ≠ 130) : ∀ (f : Nat) (a : Nat → Nat → Int32) (p e : Int), (zSf lim f a p e).1 c k = a c k := by
  intro f
  induction f with
  | zero => intro a p e; rfl
  | succ f ih =>
    intro a p e
    by_cases c : p < lim
    · by_cases d : (zOb a p).toInt < 0
      · rw [Sf_fr c d]
        exact ih _ _ _
      · by_cases w : a 133 (zOb a p).toNatClampNeg = 0
        · rw [Sf_mv c (by omega) w, ih, Mo_r h1 h2]
        · rw [Sf_ho c (by omega) w]
          exact ih _ _ _
    · rw [Sf_n c]
end F3

/-! from 95.q14 -/
/-! the moving collectors, the class (written by wip/tools/gen15.py) -/
/-! SLIDE: cleaning and room, by numbers (87: 0 the ROOM, 2 the top) -/
def zf8 (I : Nat → Nat → Int32) (k : Nat) : Int32 := if k = 0 then I 80 2 else if k = 2 then I 80 3 else 0
def zf0 (I : Nat → Nat → Int32) (k : Nat) : Int32 := if k = 0 then I 80 2 else 0
def aL (S : ma_S) : Nat → Nat → Int32 := aM (zf8 (mI S)) S
def lSd (a : Nat → Nat → Int32) : (Nat → Nat → Int32) × Int := zSd (ma_u a 87 2 0) (a 87 0).toInt 0 0
def lCl (a : Nat → Nat → Int32) : Nat → Nat → Int32 := ma_u (lSd (aSw a)).1 87 2 (Int32.ofInt (lSd (aSw a)).2)
def lRs (a : Nat → Nat → Int32) (z : Int) : Nat → Nat → Int32 := if (a 87 0).toInt < (a 87 2).toInt + z then lCl a else a
def lRp (a : Nat → Nat → Int32) (z : Int) : Int := if (lRs a z 87 0).toInt < (lRs a z 87 2).toInt + z then -1 else (lRs a z 87 2).toInt
/-- all end at or below the top -/
def qTp (a : Nat → Nat → Int32) : Prop := ∀ n, xAl a n → (a 130 n).toInt + (a 128 n).toInt ≤ (a 87 2).toInt
section F4
variable {a b : Nat → Nat → Int32} {S S₉ : ma_S} {R : Nat → Option Nat} {x y w pl i : Int32} {c k n : Nat} {z p e : Int} {F : Nat → Int32} {L : Int64} {q : Nat → Int32}
theorem aL_o (h : c ≠ 87) : aL S c k = aS 75 S c k := if_neg h
theorem aL_7 : aL S 87 k = zf8 (mI S) k := aM_7
theorem aL_70 : aL S 87 0 = mI S 80 2 := rfl
theorem L_8 : aL S 87 8 = 0 := rfl
theorem zf_80 (h : mI S₉ 80 = mI S 80) : zf8 (mI S₉) = zf8 (mI S) := by
  funext k
  unfold zf8
  rw [h]
theorem L_of (h : zO7 (aS 75 S₉) b) (h7 : ∀ k, b 87 k = zf8 (mI S₉) k) : aL S₉ = b := by
  funext c k
  by_cases w : c = 87
  · rw [w, h7]
    exact aL_7
  · rw [aL_o w]
    exact h c k w
theorem L_o7 : zO7 (aS 75 S) (aL S) := fun c k q => (aL_o q).symm
theorem L_ad (h : aS 75 S₉ = aAd (aS 75 S) y F L) (h2 : zf8 (mI S₉) = zf8 (mI S)) : aL S₉ = aAd (aL S) y F L := L_of (by rw [h]; exact o7_ad L_o7) (fun k => by rw [ad_87, aL_7, h2])
theorem L_r0 (h : aS 75 S₉ = aR0 (aS 75 S) i y) (h2 : zf8 (mI S₉) = zf8 (mI S)) : aL S₉ = aR0 (aL S) i y := by
  refine L_of ?_ (fun k => ?_)
  · rw [h]
    unfold aR0
    have e : aNm (aL S) y = aNm (aS 75 S) y := by
      unfold aNm
      rw [aL_o (c := 126) (by decide)]
    rw [e]
    exact o7_u L_o7
  · unfold aR0
    rw [xu_o (by omega), aL_7, h2]
theorem L_th {nu kd sz pl : Int32} {rr : Int64} (hN : 126 ≤ mN S) (hr : ∀ n c, mR S 70 n = some c → c < mN S) : aL (zTh S nu kd sz rr pl) = aL S := by
  refine L_of ?_ (fun k => ?_)
  · rw [mk_a (Or.inl rfl) hN hr]
    exact L_o7
  · rw [aL_7]
    unfold zf8
    rw [zTh_lo (by decide) hN, zTh_lo (by decide) hN]
theorem aL_p (hR : xB S R) : aL (ma_put S 80 3 (.inl x)) = ma_u (aL S) 87 2 x := by
  have e := (xC_n (W := 75) (c := 80) (k := 3) (x := x) (xC_o hR) ⟨by decide, Or.inl ⟨rfl, rfl⟩⟩).1
  refine L_of (fun c k hc => ?_) (fun k => ?_)
  · rw [e, xu_o (fun w => hc w.1), aL_o hc]
  · by_cases w2 : k = 2
    · rw [w2, xu_s]
      rfl
    · rw [xu_o (fun w => w2 w.2), aL_7]
      unfold zf8
      by_cases w0 : k = 0
      · rw [if_pos w0, if_pos w0]
        rfl
      · rw [if_neg w0, if_neg w0, if_neg w2, if_neg w2]
/-- behind a sliding: the top is set -/
theorem aL_q (hR : xB S R) (h2 : mI S 80 2 = q 0) (h : ∀ k, k ≠ 0 → q k = 0) : aL (ma_put S 80 3 (.inl x)) = ma_u (aM q S) 87 2 x := by
  rw [aL_p hR]
  funext c k
  show (if c = 87 ∧ k = 2 then x else aL S c k) = (if c = 87 ∧ k = 2 then x else aM q S c k)
  split
  · rfl
  · next w =>
    by_cases c7 : c = 87
    · rw [c7, aL_7, aM_7]
      unfold zf8
      by_cases w0 : k = 0
      · rw [if_pos w0, w0, h2]
      · rw [if_neg w0, if_neg (fun z => w ⟨c7, z⟩), h k w0]
    · rw [aL_o c7, aM_o c7]
theorem M0_u (h : aS 75 S₉ = aSw (aS 75 S)) (h2 : mI S₉ 80 2 = mI S 80 2) : aM (zf0 (mI S₉)) S₉ = ma_u (aSw (aL S)) 87 2 0 := by
  funext c k
  show _ = if c = 87 ∧ k = 2 then 0 else aSw (aL S) c k
  by_cases w : c = 87
  · rw [w, aM_7]
    unfold zf0
    by_cases w0 : k = 0
    · rw [if_pos w0, if_neg (by omega), sw_87, w0, h2]
      rfl
    · rw [if_neg w0]
      by_cases w2 : k = 2
      · rw [if_pos ⟨rfl, w2⟩]
      · rw [if_neg (fun z => w2 z.2), sw_87, aL_7]
        unfold zf8
        rw [if_neg w0, if_neg w2]
  · rw [aM_o w, if_neg (fun z => w z.1), h]
    exact o7_sw L_o7 c k w
theorem L_sv : aSv (aS 75 S) = aSv (aL S) := sv_eq (fun c k w => (aL_o w).symm)
theorem I_sw (hI : qI a) : qI (aSw a) := by
  have g := I_gf ((aRA a 69 6).toInt - (0 : Int32).toInt).toNat 0 _ (qI_of hI RA_zo) (E0_ra hI)
  exact I_mv g.1 g.2.1.2.2.2.2.2.1
theorem Gf_r (h1 : c ≠ 69) (h2 : c ≠ 73) (h3 : c ≠ 74) (h4 : c ≠ 134) (h5 : c ≠ 75) (h6 : c ≠ 76) (h7 : c ≠ 77) : ∀ (f : Nat) (x : Int32) (a : Nat → Nat → Int32), aGf f x a c k = a c k := by
  intro f
  induction f with
  | zero => intro x a; rfl
  | succ f ih =>
    intro x a
    by_cases w : aGc a x
    · rw [aGf_y w, ih, aSp_o ⟨h5, h6, h7⟩, ← cm_of (a := aGr a x) (y := x) c k h5 h6 h7, gr_r h2 h4 h3 h1]
    · rw [aGf_n w]
      exact ih _ _
/-- who is there behind a cleaning was there, where it is -/
theorem Al_sw (hI : qI a) (h : xAl (aSw a) n) : xAl a n ∧ aSw a 130 n = a 130 n ∧ aSw a 128 n = a 128 n ∧ aSw a 133 n = a 133 n := by
  have g := I_gf ((aRA a 69 6).toInt - (0 : Int32).toInt).toNat 0 _ (qI_of hI RA_zo) (E0_ra hI)
  have r : ∀ c k, c ≠ 69 → c ≠ 73 → c ≠ 74 → c ≠ 134 → c ≠ 75 → c ≠ 76 → c ≠ 77 → aGw (aRA a) 0 c k = a c k := fun c k h1 h2 h3 h4 h5 h6 h7 => (Gf_r h1 h2 h3 h4 h5 h6 h7 _ _ _).trans (RA_zo c k h5 h6 h7).symm
  have m := Md_mv g.1 g.2.1.2.2.2.2.2.1
  have al := (Md_al g.1 m).mp h
  have f := (Md_f m al.1.1 al.2).1
  have e : aGf ((aRA a 69 6).toInt - (0 : Int32).toInt).toNat 0 (aRA a) = aGw (aRA a) 0 := rfl
  rw [e] at f al
  refine ⟨⟨al.1.1, ?_⟩, ?_, ?_, ?_⟩
  · rw [← r 126 n (by decide) (by decide) (by decide) (by decide) (by decide) (by decide) (by decide)]
    exact al.1.2
  · exact (f 130 (by decide) (by decide)).trans (r 130 n (by decide) (by decide) (by decide) (by decide) (by decide) (by decide) (by decide))
  · exact (f 128 (by decide) (by decide)).trans (r 128 n (by decide) (by decide) (by decide) (by decide) (by decide) (by decide) (by decide))
  · exact (f 133 (by decide) (by decide)).trans (r 133 n (by decide) (by decide) (by decide) (by decide) (by decide) (by decide) (by decide))
theorem I_872 (h : qI a) (h0 : 0 ≤ x.toInt) (h1 : x.toInt ≤ (a 87 0).toInt) (g : qGd a x.toInt) : qI (ma_u a 87 2 x) := by
  have e : ∀ c, c ≠ 87 → ma_u a 87 2 x c = a c := fun c hc => ma_u_ne _ _ _ hc
  have e2 : ∀ k, k ≠ 2 → ma_u a 87 2 x 87 k = a 87 k := fun k hk => xu_o (fun z => hk z.2)
  have e3 : ma_u a 87 2 x 87 2 = x := xu_s
  have al : xAl (ma_u a 87 2 x) = xAl a := by
    funext n
    unfold xAl
    rw [e 126 (by decide)]
  have su := Su_cg (a := ma_u a 87 2 x) (b := a) (e 126 (by decide)) (e 128 (by decide)) 512
  have e8 : qI6 (ma_u a 87 2 x) := fun n hn k => by
    rw [e (1000 + n) (by omega)]
    exact h.2.2.2.2.2 n (by rw [← al]; exact hn) k
  unfold qI qI1 qI2 qI3 qI4 at h ⊢
  unfold qGd at g h ⊢
  rw [al, su, e 69 (by decide), e 128 (by decide), e 130 (by decide), e 71 (by decide), e2 0 (by decide), e2 6 (by decide), e3]
  exact ⟨h.1, h.2.1, h.2.2.1, ⟨h.2.2.2.1.1, h.2.2.2.1.2.1, h.2.2.2.1.2.2.1, ⟨h0, h1⟩, g, h.2.2.2.1.2.2.2.2.2⟩, h.2.2.2.2.1, e8⟩
theorem I_s0 (hI : qI a) : qI (ma_u (aSw a) 87 2 0) := I_872 (I_sw hI) (by decide) (I_sw hI).2.2.2.1.2.2.1.1 (Gd_0 (I_sw hI))
theorem lRs_1 (h : ¬ (a 87 0).toInt < (a 87 2).toInt + z) : lRs a z = a := if_neg h
theorem lRs_2 (h : (a 87 0).toInt < (a 87 2).toInt + z) : lRs a z = lCl a := if_pos h
theorem lRp_1 (h : lRs a z = b) (h2 : (b 87 0).toInt < (b 87 2).toInt + z) : lRp a z = -1 := by
  unfold lRp
  rw [h, if_pos h2]
theorem lRp_2 (h : lRs a z = b) (h2 : ¬ (b 87 0).toInt < (b 87 2).toInt + z) : lRp a z = (b 87 2).toInt := by
  unfold lRp
  rw [h, if_neg h2]
theorem lC_87 (h : k ≠ 2) : lCl a 87 k = a 87 k := by
  unfold lCl lSd zSd
  rw [xu_o (fun w => h w.2), Sf_r (by decide) (by decide), xu_o (fun w => h w.2), sw_87]
theorem Rs_87 (h : k ≠ 2) : lRs a z 87 k = a 87 k := by
  unfold lRs
  split
  · exact lC_87 h
  · rfl
def lMk (a : Nat → Nat → Int32) (kd wd : Int32) (L : Int64) (rt : Int32) : Nat → Nat → Int32 := if (a 69 6).toInt < 512 then (if lRp a (wd + 1).toInt = -1 then lRs a (wd + 1).toInt else aRt (aMd (aAd (lRs a (wd + 1).toInt) (lRs a (wd + 1).toInt 69 6) (zFn (lRs a (wd + 1).toInt 69 6) kd (wd + 1) (Int32.ofInt (lRp a (wd + 1).toInt))) L) (lRs a (wd + 1).toInt 69 6)) rt (lRs a (wd + 1).toInt 69 6)) else a
def lMn (a : Nat → Nat → Int32) (wd : Int32) : Int32 := if (a 69 6).toInt < 512 then (if lRp a (wd + 1).toInt = -1 then -1 else lRs a (wd + 1).toInt 69 6) else -1
theorem lMk_0 {kd wd rt : Int32} {L : Int64} (h : ¬ (a 69 6).toInt < 512) : lMk a kd wd L rt = a ∧ lMn a wd = -1 := ⟨if_neg h, if_neg h⟩
theorem lMk_1 {kd wd rt : Int32} {L : Int64} (h : (a 69 6).toInt < 512) (h1 : lRp a (wd + 1).toInt = -1) : lMk a kd wd L rt = lRs a (wd + 1).toInt ∧ lMn a wd = -1 := by
  unfold lMk lMn
  rw [if_pos h, if_pos h, if_pos h1, if_pos h1]
  exact ⟨rfl, rfl⟩
theorem lMk_2 {kd wd rt : Int32} {L : Int64} {b : Nat → Nat → Int32} (h : (a 69 6).toInt < 512) (e : b = lRs a (wd + 1).toInt) (h1 : pl.toInt = lRp a (wd + 1).toInt) (h2 : ¬ pl.toInt = -1) (hy : y = b 69 6) : lMk a kd wd L rt = aRt (aMd (aAd b y (zFn y kd (wd + 1) pl) L) y) rt y ∧ lMn a wd = y := by
  unfold lMk lMn
  rw [if_pos h, if_pos h, ← h1, if_neg h2, if_neg h2, ← e, hy, Int32.ofInt_toInt]
  exact ⟨rfl, rfl⟩
end F4

/-! from 95.q15 -/
/-! the moving collectors, the class (written by wip/tools/gen15.py) -/
/-! THE WHOLE QUEUE OF A WALK: each that came is in it, once -/
def zFQ (a : Nat → Nat → Int32) : Prop := (∀ j : Nat, (j : Int) < (a 75 4).toInt → 0 ≤ (a 76 j).toInt ∧ (a 76 j).toInt < 512 ∧ a 77 (a 76 j).toNatClampNeg ≠ 0 ∧ a 126 (a 76 j).toNatClampNeg ≠ 0) ∧ (∀ j j₉ : Nat, j < j₉ → (j₉ : Int) < (a 75 4).toInt → a 76 j ≠ a 76 j₉) ∧ (∀ x : Nat, x < 512 → a 77 x ≠ 0 → ∃ j : Nat, (j : Int) < (a 75 4).toInt ∧ a 76 j = Int32.ofNat x) ∧ (0 ≤ (a 75 3).toInt ∧ (a 75 3).toInt ≤ (a 75 4).toInt ∧ (a 75 4).toInt ≤ 512)
section F6
variable {a b : Nat → Nat → Int32} {y i x : Int32} {m k n : Nat}
theorem FQ_cg (h : zFQ a) (e3 : b 75 3 = a 75 3) (e4 : b 75 4 = a 75 4) (e6 : b 76 = a 76) (e7 : ∀ x, x < 512 → (b 77 x ≠ 0 ↔ a 77 x ≠ 0)) (e8 : b 126 = a 126) : zFQ b := by
  obtain ⟨h1, h2, h3, h4⟩ := h
  unfold zFQ
  rw [e3, e4, e6, e8]
  refine ⟨fun j hj => ?_, h2, fun x hx w => h3 x hx ((e7 x hx).mp w), h4⟩
  have q := h1 j hj
  have t := tn_cast q.1
  exact ⟨q.1, q.2.1, (e7 _ (by omega)).mpr q.2.2.1, q.2.2.2⟩
theorem FQ_wh (h : 0 ≤ 0) : zFQ (aWh a x) := by
  have r3 : aWh a x 75 3 = 0 := by
    unfold aWh
    rw [xu_o (by omega), xu_o (by omega), xu_s]
  have r4 : aWh a x 75 4 = 0 := by
    unfold aWh
    rw [xu_o (by omega), xu_s]
  have r7 : ∀ k, k < 512 → aWh a x 77 k = 0 := fun k hk => by
    unfold aWh
    rw [xu_o (by omega), xu_o (by omega), xu_o (by omega)]
    unfold zFl
    rw [if_pos ⟨rfl, by omega⟩]
  have i0 : (0 : Int32).toInt = 0 := rfl
  unfold zFQ
  rw [r3, r4, i0]
  exact ⟨fun j hj => absurd hj (by omega), fun j j₉ _ hj => absurd hj (by omega), fun x hx w => absurd (r7 x hx) w, by omega⟩
theorem FQ_cm (h : zFQ a) : zFQ (aCm a y) := by
  by_cases hc : aCc a y
  · rw [aCm_y hc]
    obtain ⟨q1, q2, q3, q4⟩ := h
    obtain ⟨c0, c1, c2, c3, c4, c5⟩ := hc
    have cy := tn_cast c0
    have hn : y.toNatClampNeg < 512 := by omega
    have e1 : (a 75 4 + 1).toInt = (a 75 4).toInt + 1 := i_p1 (by omega)
    have et := tn_cast (x := a 75 4) (by omega)
    generalize ht : (a 75 4).toNatClampNeg = t at *
    generalize hv : a 75 4 + 1 = v at *
    have r3 : (ma_u (ma_u (ma_u a 77 y.toNatClampNeg 1) 76 t y) 75 4 v) 75 3 = a 75 3 := by rw [xu_o (by omega), xu_o (by omega), xu_o (by omega)]
    have r4 : (ma_u (ma_u (ma_u a 77 y.toNatClampNeg 1) 76 t y) 75 4 v) 75 4 = v := xu_s
    have r6 : ∀ j, j ≠ t → (ma_u (ma_u (ma_u a 77 y.toNatClampNeg 1) 76 t y) 75 4 v) 76 j = a 76 j := fun j w => by rw [xu_o (by omega), xu_o (fun z => w z.2), xu_o (by omega)]
    have r6t : (ma_u (ma_u (ma_u a 77 y.toNatClampNeg 1) 76 t y) 75 4 v) 76 t = y := by rw [xu_o (by omega), xu_s]
    have r7 : ∀ j, j ≠ y.toNatClampNeg → (ma_u (ma_u (ma_u a 77 y.toNatClampNeg 1) 76 t y) 75 4 v) 77 j = a 77 j := fun j w => by rw [xu_o (by omega), xu_o (by omega), xu_o (fun z => w z.2)]
    have r7t : (ma_u (ma_u (ma_u a 77 y.toNatClampNeg 1) 76 t y) 75 4 v) 77 y.toNatClampNeg = 1 := by rw [xu_o (by omega), xu_o (by omega), xu_s]
    have r8 : ∀ j, (ma_u (ma_u (ma_u a 77 y.toNatClampNeg 1) 76 t y) 75 4 v) 126 j = a 126 j := fun j => by rw [xu_o (by omega), xu_o (by omega), xu_o (by omega)]
    generalize ma_u (ma_u (ma_u a 77 y.toNatClampNeg 1) 76 t y) 75 4 v = B at *
    have m7 : ∀ z, a 77 z ≠ 0 → B 77 z ≠ 0 := fun z w => by
      by_cases zz : z = y.toNatClampNeg
      · rw [zz, r7t]
        decide
      · rw [r7 z zz]
        exact w
    refine ⟨fun j hj => ?_, fun j j₉ hjj hj₉ => ?_, fun z hz w => ?_, by rw [r3, r4]; omega⟩
    · rw [r4] at hj
      by_cases w : j = t
      · rw [w, r6t, r7t, r8]
        exact ⟨c0, c1, by decide, c2⟩
      · have q := q1 j (by omega)
        rw [r6 j w, r8]
        exact ⟨q.1, q.2.1, m7 _ q.2.2.1, q.2.2.2⟩
    · rw [r4] at hj₉
      have nj : j ≠ t := by omega
      rw [r6 j nj]
      by_cases w : j₉ = t
      · rw [w, r6t]
        intro e
        have q := q1 j (by omega)
        rw [e] at q
        exact q.2.2.1 c5
      · rw [r6 j₉ w]
        exact q2 j j₉ hjj (by omega)
    · by_cases zz : z = y.toNatClampNeg
      · refine ⟨t, by rw [r4]; omega, ?_⟩
        rw [r6t, zz]
        exact (ofN_tn c0).symm
      · rw [r7 z zz] at w
        obtain ⟨j, hj, e⟩ := q3 z hz w
        refine ⟨j, by rw [r4]; omega, ?_⟩
        rw [r6 j (by omega)]
        exact e
  · rw [aCm_n hc]
    exact h
theorem FQ_cwf : ∀ (f : Nat) (i : Int32) (a : Nat → Nat → Int32), zFQ a → zFQ (aCwf m f i a) := by
  intro f
  induction f with
  | zero => intro i a h; exact h
  | succ f ih =>
    intro i a h
    exact ih _ _ (FQ_cm h)
theorem FQ_pop (h : zFQ a) (hl : (a 75 3).toInt < (a 75 4).toInt) : zFQ (aPop a) := by
  have q4 := h.2.2.2
  have e1 : (a 75 3 + 1).toInt = (a 75 3).toInt + 1 := i_p1 (by omega)
  have s0 : zFQ (ma_u a 75 3 (a 75 3 + 1)) := by
    obtain ⟨h1, h2, h3, h4⟩ := h
    have r4 : ma_u a 75 3 (a 75 3 + 1) 75 4 = a 75 4 := xu_o (by decide)
    unfold zFQ
    rw [r4, xu_s, un (n := 76) (by decide), un (n := 77) (by decide), un (n := 126) (by decide), e1]
    exact ⟨h1, h2, h3, by omega⟩
  unfold aPop
  split
  · have t := tn_cast (x := a 75 3) q4.1
    have q := h.1 (a 75 3).toNatClampNeg (by omega)
    refine FQ_cwf _ _ _ (FQ_cg s0 (xu_o (by omega)) (xu_o (by omega)) (un (by decide)) (fun x hx => ?_) (un (by decide)))
    rw [un (n := 77) (k := 3) (by decide)]
    by_cases w : x = (a 76 (a 75 3).toNatClampNeg).toNatClampNeg
    · rw [w, xu_s]
      exact ⟨fun _ => q.2.2.1, fun _ => by decide⟩
    · rw [xu_o (fun z => w z.2), un (n := 77) (by decide)]
  · exact s0
theorem FQ_sp : ∀ (f : Nat) (a : Nat → Nat → Int32), zFQ a → zFQ (aSp f a) := by
  intro f
  induction f with
  | zero => intro a h; exact h
  | succ f ih =>
    intro a h
    show zFQ (if (a 75 3).toInt < (a 75 4).toInt then aSp f (aPop a) else a)
    split
    · next w => exact ih _ (FQ_pop h w)
    · exact h
theorem FQ_hf : ∀ (f : Nat) (n : Int32) (a : Nat → Nat → Int32), zFQ a → zFQ (aHf f n a) := by
  intro f
  induction f with
  | zero => intro n a h; exact h
  | succ f ih =>
    intro n a h
    refine ih _ _ ?_
    split
    · exact FQ_cm h
    · exact h
theorem FQ_wf : ∀ (f : Nat) (n : Int32) (a : Nat → Nat → Int32), zFQ a → zFQ (aWf f n a) := by
  intro f
  induction f with
  | zero => intro n a h; exact FQ_hf _ _ _ h
  | succ f ih => intro n a h; exact ih _ _ (FQ_cm h)
theorem FQ_rf : ∀ (f : Nat) (n : Int32) (a : Nat → Nat → Int32), zFQ a → zFQ (aRf f n a) := by
  intro f
  induction f with
  | zero => intro n a h; exact FQ_wf _ _ _ h
  | succ f ih => intro n a h; exact ih _ _ (FQ_cm h)
theorem FQ_gr (h : zFQ a) : zFQ (aGr a y) := FQ_cg h (congrFun (gr_r (by decide) (by decide) (by decide) (by decide)) 3) (congrFun (gr_r (by decide) (by decide) (by decide) (by decide)) 4) (gr_r (by decide) (by decide) (by decide) (by decide)) (fun x _ => by rw [gr_r (n := 77) (by decide) (by decide) (by decide) (by decide)]) (gr_r (by decide) (by decide) (by decide) (by decide))
theorem FQ_gf : ∀ (f : Nat) (x : Int32) (a : Nat → Nat → Int32), zFQ a → zFQ (aGf f x a) := by
  intro f
  induction f with
  | zero => intro x a h; exact h
  | succ f ih =>
    intro x a h
    by_cases w : aGc a x
    · rw [aGf_y w]
      exact ih _ _ (FQ_sp _ _ (FQ_cm (FQ_gr h)))
    · rw [aGf_n w]
      exact ih _ _ h
theorem FQ_gw : zFQ (aGw (aRA a) 0) := FQ_gf _ _ _ (FQ_sp _ _ (FQ_rf _ _ _ (FQ_wh (by decide))))
/-- who is there behind a cleaning is in the queue, once -/
theorem FQ_sw (hI : qI a) : zFQ (aSw a) ∧ ∀ n, xAl (aSw a) n → aSw a 77 n ≠ 0 := by
  have g := I_gf ((aRA a 69 6).toInt - (0 : Int32).toInt).toNat 0 _ (qI_of hI RA_zo) (E0_ra hI)
  have e : aGf ((aRA a 69 6).toInt - (0 : Int32).toInt).toNat 0 (aRA a) = aGw (aRA a) 0 := rfl
  rw [e] at g
  have m := Md_mv g.1 g.2.1.2.2.2.2.2.1
  have r : ∀ c, c = 75 ∨ c = 76 ∨ c = 77 → aSw a c = aGw (aRA a) 0 c := fun c hc => m.2.1.1 c (by omega) (by omega) (by omega) (by omega)
  have q := FQ_gw (a := a)
  have al := fun n => Md_al (n := n) g.1 m
  refine ⟨?_, fun n hn => ?_⟩
  · unfold zFQ at q ⊢
    rw [r 75 (by decide), r 76 (by decide), r 77 (by decide)]
    refine ⟨fun j hj => ?_, q.2⟩
    have z := q.1 j hj
    have t := tn_cast z.1
    exact ⟨z.1, z.2.1, z.2.2.1, ((al _).mpr ⟨⟨by omega, z.2.2.2⟩, z.2.2.1⟩).2⟩
  · rw [r 77 (by decide)]
    exact ((al n).mp hn).2
end F6

/-! from 95.q16 -/
/-! the moving collectors, the class (written by wip/tools/gen15.py) -/
/-! HALVES: those of the queue go to the other half, one behind another -/
def zPs (a : Nat → Nat → Int32) (st : Int) : Nat → Int
  | 0 => st
  | j + 1 => zPs a st j + (a 128 (a 76 j).toNatClampNeg).toInt
def hQc (a : Nat → Nat → Int32) (j : Nat) : Prop := 0 ≤ (a 76 j).toInt ∧ (a 76 j).toInt < 512 ∧ a 126 (a 76 j).toNatClampNeg ≠ 0
def hMf : Nat → Nat → (Nat → Nat → Int32) → Int → (Nat → Nat → Int32) × Int
  | 0, _, a, t => (a, t)
  | f + 1, j, a, t => if 0 ≤ (a 76 j).toInt ∧ (a 76 j).toInt < 512 ∧ a 126 (a 76 j).toNatClampNeg ≠ 0 then hMf f (j + 1) (aMo a (a 76 j).toNatClampNeg (Int32.ofInt t)) (t + (a 128 (a 76 j).toNatClampNeg).toInt) else hMf f (j + 1) a t
/-- who of the queue's first j -/
def zIn (a : Nat → Nat → Int32) (j n : Nat) : Prop := ∃ i : Nat, i < j ∧ a 76 i = Int32.ofNat n
/-- the first j are moved, up to t -/
def qJh (a : Nat → Nat → Int32) (st ot r : Int) (j : Nat) (t : Int) : Prop :=
  qI a ∧ zFQ a ∧ (a 87 2).toInt = 0 ∧ (0 ≤ st ∧ st + r ≤ (a 87 0).toInt ∧ (ot + r ≤ st ∨ st + r ≤ ot)) ∧ (t = zPs a st j ∧ (j : Int) ≤ (a 75 4).toInt ∧ zPs a st (a 75 4).toInt.toNat ≤ st + r) ∧
  (∀ n, xAl a n → zIn a j n → st ≤ (a 130 n).toInt ∧ (a 130 n).toInt + (a 128 n).toInt ≤ t) ∧
  ∀ n, xAl a n → ¬ zIn a j n → ot ≤ (a 130 n).toInt ∧ (a 130 n).toInt + (a 128 n).toInt ≤ ot + r
section F7
variable {a b : Nat → Nat → Int32} {st ot r t : Int} {j k n f : Nat} {to : Int32}
theorem hMf_y (h : hQc a j) : hMf (f + 1) j a t = hMf f (j + 1) (aMo a (a 76 j).toNatClampNeg (Int32.ofInt t)) (t + (a 128 (a 76 j).toNatClampNeg).toInt) := if_pos h
theorem hMf_n (h : ¬ hQc a j) : hMf (f + 1) j a t = hMf f (j + 1) a t := if_neg h
theorem Ps_cg (e1 : b 76 = a 76) (e2 : b 128 = a 128) : ∀ j, zPs b st j = zPs a st j
  | 0 => rfl
  | j + 1 => by
    unfold zPs
    rw [Ps_cg e1 e2 j, e1, e2]
theorem FQ_al (h : zFQ a) (hj : (j : Int) < (a 75 4).toInt) : xAl a (a 76 j).toNatClampNeg ∧ Int32.ofNat (a 76 j).toNatClampNeg = a 76 j := by
  have q := h.1 j hj
  have t := tn_cast q.1
  exact ⟨⟨by omega, q.2.2.2⟩, ofN_tn q.1⟩
theorem Ps_le (hI : qI a) (h : zFQ a) : ∀ k : Nat, (k : Int) ≤ (a 75 4).toInt → ∀ j : Nat, j ≤ k → zPs a st j ≤ zPs a st k := by
  intro k
  induction k with
  | zero =>
    intro _ j hj
    rw [show j = 0 by omega]
    exact Int.le_refl _
  | succ k ih =>
    intro hk j hj
    have q := (hI.1 _ (FQ_al h (j := k) (by omega)).1).2.1.1
    show zPs a st j ≤ zPs a st k + (a 128 (a 76 k).toNatClampNeg).toInt
    by_cases w : j = k + 1
    · rw [w]
      exact Int.le_refl _
    · have := ih (by omega) j (by omega)
      omega
theorem In_s : zIn a (j + 1) n ↔ zIn a j n ∨ a 76 j = Int32.ofNat n := by
  constructor
  · rintro ⟨i, hi, e⟩
    by_cases w : i = j
    · exact Or.inr (w ▸ e)
    · exact Or.inl ⟨i, by omega, e⟩
  · rintro (⟨i, hi, e⟩ | e)
    · exact ⟨i, by omega, e⟩
    · exact ⟨j, by omega, e⟩
theorem ofN_j (h : n < 512) (h2 : k < 512) (e : Int32.ofNat n = Int32.ofNat k) : n = k := by
  have z := congrArg Int32.toInt e
  rw [Int32.toInt_ofNat_of_lt (by omega), Int32.toInt_ofNat_of_lt (by omega)] at z
  omega
theorem In_no (h : zFQ a) (hj : (j : Int) < (a 75 4).toInt) : ¬ zIn a j (a 76 j).toNatClampNeg := by
  rintro ⟨i, hi, e⟩
  rw [(FQ_al h hj).2] at e
  exact h.2.1 i j hi hj e
theorem FQ_mo (h : zFQ a) : zFQ (aMo a n to) := FQ_cg h (Mo_r (by decide) (by decide)) (Mo_r (by decide) (by decide)) (Mo_c (by decide) (by decide)) (fun x _ => by rw [Mo_r (c := 77) (by decide) (by decide)]) (Mo_c (by decide) (by decide))
/-- the next of the queue -/
theorem Jh_nx (h : qJh a st ot r j t) (hj : (j : Int) < (a 75 4).toInt) (he : to.toInt = t) : hQc a j ∧ qMv a (a 76 j).toNatClampNeg to ∧ qFr a (a 76 j).toNatClampNeg to ∧ to.toInt + (a 128 (a 76 j).toNatClampNeg).toInt ≤ (a 87 0).toInt ∧ 0 ≤ to.toInt ∧ (a 130 (a 76 j).toNatClampNeg).toInt ≠ t := by
  obtain ⟨hI, hF, hz, ⟨s0, s1, s2⟩, ⟨t0, t1, t2⟩, m1, m2⟩ := h
  have al := FQ_al hF hj
  have no := In_no hF hj
  have p := m2 _ al.1 no
  have q := hI.1 _ al.1
  have b4 := hI.2.2.2.1.2.2.1
  have l1 : st ≤ zPs a st j := Ps_le (st := st) hI hF j (by omega) 0 (by omega)
  have l2 := Ps_le (st := st) hI hF (a 75 4).toInt.toNat (by omega) (j + 1) (by omega)
  have l3 : zPs a st (j + 1) = zPs a st j + (a 128 (a 76 j).toNatClampNeg).toInt := rfl
  have f := hF.1 j hj
  refine ⟨⟨f.1, f.2.1, f.2.2.2⟩, ⟨by omega, by omega, by omega, by omega, by omega, by omega⟩, fun n₉ hn₉ hne => ?_, by omega, by omega, by omega⟩
  by_cases w : zIn a j n₉
  · have := m1 n₉ hn₉ w
    omega
  · have := m2 n₉ hn₉ w
    omega
theorem Jh_go (h : qJh a st ot r j t) (hj : (j : Int) < (a 75 4).toInt) (he : to.toInt = t) : qJh (aMo a (a 76 j).toNatClampNeg to) st ot r (j + 1) (t + (a 128 (a 76 j).toNatClampNeg).toInt) := by
  have nx := Jh_nx h hj he
  obtain ⟨hI, hF, hz, ⟨s0, s1, s2⟩, ⟨t0, t1, t2⟩, m1, m2⟩ := h
  have al := FQ_al hF hj
  have q := hI.1 _ al.1
  have l1 : st ≤ zPs a st j := Ps_le (st := st) hI hF j (by omega) 0 (by omega)
  have e4 : aMo a (a 76 j).toNatClampNeg to 75 4 = a 75 4 := Mo_r (by decide) (by decide)
  have e6 : aMo a (a 76 j).toNatClampNeg to 76 = a 76 := Mo_c (by decide) (by decide)
  have e8 : aMo a (a 76 j).toNatClampNeg to 128 = a 128 := Mo_c (by decide) (by decide)
  have e7 : ∀ k, aMo a (a 76 j).toNatClampNeg to 87 k = a 87 k := fun k => Mo_r (by decide) (by decide)
  have inn : ∀ n, zIn (aMo a (a 76 j).toNatClampNeg to) (j + 1) n ↔ zIn a (j + 1) n := fun n => by
    unfold zIn
    rw [e6]
  refine ⟨I_mo hI al.1 nx.2.2.2.2.1 nx.2.2.2.1 nx.2.2.1 hz, FQ_mo hF, by rw [e7]; exact hz, ⟨s0, by rw [e7]; exact s1, s2⟩, ⟨?_, by rw [e4]; omega, by rw [e4, Ps_cg e6 e8]; exact t2⟩, fun n hn w => ?_, fun n hn w => ?_⟩
  · rw [Ps_cg e6 e8]
    show _ = zPs a st j + (a 128 (a 76 j).toNatClampNeg).toInt
    rw [t0]
  · have hn₉ := Mo_al.1 hn
    rw [e8]
    by_cases z : n = (a 76 j).toNatClampNeg
    · rw [z, Mo_pn]
      omega
    · rw [Mo_po z]
      rcases In_s.mp ((inn n).mp w) with w2 | w2
      · have := m1 n hn₉ w2
        omega
      · rw [← al.2] at w2
        exact absurd (ofN_j hn₉.1 al.1.1 w2.symm) z
  · have hn₉ := Mo_al.1 hn
    have w1 : ¬ zIn a (j + 1) n := fun z => w ((inn n).mpr z)
    have z : n ≠ (a 76 j).toNatClampNeg := fun z => w1 (In_s.mpr (Or.inr (by rw [z]; exact al.2.symm)))
    rw [e8, Mo_po z]
    exact m2 n hn₉ (fun z2 => w1 (In_s.mpr (Or.inl z2)))
/-! how much it is -/
noncomputable def zSj (a : Nat → Nat → Int32) (j : Nat) : Nat → Int
  | 0 => 0
  | n + 1 => zSj a j n + (if @decide (zIn a j n) (Classical.propDecidable _) = true then (a 128 n).toInt else 0)
theorem dc_y {P : Prop} (h : P) : @decide P (Classical.propDecidable _) = true := @decide_eq_true P (Classical.propDecidable _) h
theorem dc_n {P : Prop} (h : ¬ P) : ¬ @decide P (Classical.propDecidable _) = true := fun z => h (@of_decide_eq_true P (Classical.propDecidable _) z)
theorem Sj_s (h : zFQ a) (hj : (j : Int) < (a 75 4).toInt) : ∀ n, n ≤ 512 → zSj a (j + 1) n = zSj a j n + (if (a 76 j).toNatClampNeg < n then (a 128 (a 76 j).toNatClampNeg).toInt else 0) := by
  have al := FQ_al h hj
  have no := In_no h hj
  intro n
  induction n with
  | zero =>
    intro _
    rw [if_neg (by omega)]
    rfl
  | succ n ih =>
    intro hn
    have q := ih (by omega)
    show zSj a (j + 1) n + (if @decide (zIn a (j + 1) n) (Classical.propDecidable _) = true then (a 128 n).toInt else 0) = zSj a j n + (if @decide (zIn a j n) (Classical.propDecidable _) = true then (a 128 n).toInt else 0) + _
    rw [q]
    by_cases w : n = (a 76 j).toNatClampNeg
    · rw [if_pos (dc_y (In_s.mpr (Or.inr (by rw [w]; exact al.2.symm)))), if_neg (dc_n (by rw [w]; exact no)), if_neg (by omega), if_pos (by omega), w]
    · have e : zIn a (j + 1) n ↔ zIn a j n := by
        constructor
        · intro z
          rcases In_s.mp z with z2 | z2
          · exact z2
          · rw [← al.2] at z2
            exact absurd (ofN_j (by omega) al.1.1 z2.symm) w
        · exact fun z => In_s.mpr (Or.inl z)
      have e2 : (if (a 76 j).toNatClampNeg < n + 1 then (a 128 (a 76 j).toNatClampNeg).toInt else 0) = (if (a 76 j).toNatClampNeg < n then (a 128 (a 76 j).toNatClampNeg).toInt else 0) := by
        by_cases z : (a 76 j).toNatClampNeg < n
        · rw [if_pos z, if_pos (by omega)]
        · rw [if_neg z, if_neg (by omega)]
      rw [e2]
      by_cases z : zIn a j n
      · rw [if_pos (dc_y z), if_pos (dc_y (e.mpr z))]
        omega
      · rw [if_neg (dc_n z), if_neg (dc_n (fun y => z (e.mp y)))]
        omega
theorem Sj_0 : ∀ n, zSj a 0 n = 0
  | 0 => rfl
  | n + 1 => by
    show zSj a 0 n + _ = 0
    rw [Sj_0 n, if_neg (dc_n (by rintro ⟨i, hi, _⟩; omega))]
    rfl
theorem Ps_sj (h : zFQ a) : ∀ j : Nat, (j : Int) ≤ (a 75 4).toInt → zPs a st j = st + zSj a j 512 := by
  intro j
  induction j with
  | zero =>
    intro _
    rw [Sj_0]
    show st = st + 0
    omega
  | succ j ih =>
    intro hj
    have al := FQ_al h (j := j) (by omega)
    rw [Sj_s h (by omega) 512 (by omega), if_pos al.1.1]
    show zPs a st j + _ = _
    rw [ih (by omega)]
    omega
theorem Sj_su (h : zFQ a) (hk : ∀ n, xAl a n → a 77 n ≠ 0) : ∀ n, n ≤ 512 → zSj a (a 75 4).toInt.toNat n = qSu a n := by
  intro n
  induction n with
  | zero => intro _; rfl
  | succ n ih =>
    intro hn
    show zSj a (a 75 4).toInt.toNat n + _ = qSu a n + (if a 126 n ≠ 0 then (a 128 n).toInt else 0)
    rw [ih (by omega)]
    by_cases w : a 126 n ≠ 0
    · obtain ⟨j, hj, e⟩ := h.2.2.1 n (by omega) (hk n ⟨by omega, w⟩)
      rw [if_pos w, if_pos (dc_y ⟨j, by omega, e⟩)]
    · rw [if_neg w, if_neg (dc_n ?_)]
      rintro ⟨i, hi, e⟩
      have q := h.1 i (by omega)
      have e2 : (a 76 i).toNatClampNeg = n := by
        have t := tn_cast q.1
        rw [e, Int32.toInt_ofNat_of_lt (by omega)] at t
        rw [e]
        omega
      rw [e2] at q
      exact w q.2.2.2
/-- all of the queue: the sum of the words there -/
theorem Ps_su (h : zFQ a) (hk : ∀ n, xAl a n → a 77 n ≠ 0) : zPs a st (a 75 4).toInt.toNat = st + qSu a 512 := by
  have q4 := h.2.2.2
  rw [Ps_sj h _ (by omega), Sj_su h hk 512 (by omega)]
theorem Su_le (h1 : ∀ n, n < 512 → b 126 n ≠ 0 → a 126 n ≠ 0 ∧ b 128 n = a 128 n) (h2 : ∀ n, xAl a n → 0 ≤ (a 128 n).toInt) : ∀ n, n ≤ 512 → qSu b n ≤ qSu a n := by
  intro n
  induction n with
  | zero => intro _; exact Int.le_refl _
  | succ n ih =>
    intro hn
    have q := ih (by omega)
    unfold qSu
    by_cases w : b 126 n ≠ 0
    · have z := h1 n (by omega) w
      rw [if_pos w, if_pos z.1, z.2]
      omega
    · rw [if_neg w]
      by_cases v : a 126 n ≠ 0
      · rw [if_pos v]
        have := h2 n ⟨by omega, v⟩
        omega
      · rw [if_neg v]
        omega
end F7

/-! from 95.q17 -/
/-! the moving collectors, the class (written by wip/tools/gen15.py) -/
/-! HALVES: cleaning and room, by numbers (87: 0 all words, 3 the half's beginning, 4 the top, 5 the ROOM) -/
def zfH (I : Nat → Nat → Int32) (k : Nat) : Int32 := if k = 0 then I 81 2 + I 81 2 else if k = 3 then I 81 3 else if k = 4 then I 81 4 else if k = 5 then I 81 2 else 0
def aH (S : ma_S) : Nat → Nat → Int32 := aM (zfH (mI S)) S
def hFo (a : Nat → Nat → Int32) : (Nat → Nat → Int32) × Int := hMf (a 75 4).toInt.toNat 0 a (a 87 5 - a 87 3).toInt
def hCl (a : Nat → Nat → Int32) : Nat → Nat → Int32 := ma_u (ma_u (hFo (aSw a)).1 87 3 (a 87 5 - a 87 3)) 87 4 (Int32.ofInt (hFo (aSw a)).2)
def hOk (a : Nat → Nat → Int32) (z : Int) : Prop := (a 87 4).toInt + z ≤ (a 87 3).toInt + (a 87 5).toInt
def hRs (a : Nat → Nat → Int32) (z : Int) : Nat → Nat → Int32 := if (a 87 4).toInt + z ≤ (a 87 3).toInt + (a 87 5).toInt then a else hCl a
def hRp (a : Nat → Nat → Int32) (z : Int) : Int := if (hRs a z 87 4).toInt + z ≤ (hRs a z 87 3).toInt + (hRs a z 87 5).toInt then (hRs a z 87 4).toInt else -1
def qHv (a : Nat → Nat → Int32) : Prop := qI a ∧ a 87 2 = 0 ∧ ((a 87 0).toInt = 2 * (a 87 5).toInt ∧ 0 ≤ (a 87 5).toInt ∧ (a 87 5).toInt ≤ 1500) ∧ ((a 87 3).toInt = 0 ∨ (a 87 3).toInt = (a 87 5).toInt) ∧ ((a 87 4).toInt = (a 87 3).toInt + qSu a 512 ∧ (a 87 4).toInt ≤ (a 87 3).toInt + (a 87 5).toInt) ∧ (∀ n, xAl a n → (a 87 3).toInt ≤ (a 130 n).toInt ∧ (a 130 n).toInt + (a 128 n).toInt ≤ (a 87 4).toInt) ∧ ∀ n, xAl a n → a 133 n = 0
section F8
variable {a b c : Nat → Nat → Int32} {st ot r t z : Int} {j k n f : Nat} {to x y w pl i : Int32} {S S₉ : ma_S} {R : Nat → Option Nat} {F : Nat → Int32} {L : Int64}
theorem I_87k (h : qI a) (h0 : k ≠ 0) (h2 : k ≠ 2) (h6 : k ≠ 6) : qI (ma_u a 87 k x) := by
  have e : ∀ c, c ≠ 87 → ma_u a 87 k x c = a c := fun c hc => ma_u_ne _ _ _ hc
  have e2 : ∀ k₉, k₉ ≠ k → ma_u a 87 k x 87 k₉ = a 87 k₉ := fun k₉ hk => xu_o (fun z => hk z.2)
  have al : xAl (ma_u a 87 k x) = xAl a := by
    funext n
    unfold xAl
    rw [e 126 (by decide)]
  have su := Su_cg (a := ma_u a 87 k x) (b := a) (e 126 (by decide)) (e 128 (by decide)) 512
  have e8 : qI6 (ma_u a 87 k x) := fun n hn k₉ => by
    rw [e (1000 + n) (by omega)]
    exact h.2.2.2.2.2 n (by rw [← al]; exact hn) k₉
  unfold qI qI1 qI2 qI3 qI4 qGd at h ⊢
  rw [al, su, e 69 (by decide), e 128 (by decide), e 130 (by decide), e 71 (by decide), e2 0 (by omega), e2 2 (by omega), e2 6 (by omega)]
  exact ⟨h.1, h.2.1, h.2.2.1, h.2.2.2.1, h.2.2.2.2.1, e8⟩
theorem hMf_J : ∀ (f j : Nat) (a : Nat → Nat → Int32) (t : Int), qJh a st ot r j t → (j : Int) + f = (a 75 4).toInt → qJh (hMf f j a t).1 st ot r (j + f) (hMf f j a t).2 := by
  intro f
  induction f with
  | zero => intro j a t h _; exact h
  | succ f ih =>
    intro j a t h e
    have b4 := h.1.2.2.2.1.2.2.1
    have to : (Int32.ofInt t).toInt = t := by
      have p := h.2.2.2.2.1
      have l1 : st ≤ zPs a st j := Ps_le (st := st) h.1 h.2.1 j (by omega) 0 (by omega)
      have l2 := Ps_le (st := st) h.1 h.2.1 (a 75 4).toInt.toNat (by omega) j (by omega)
      have s := h.2.2.2.1
      exact Int32.toInt_ofInt_of_le (by omega) (by omega)
    have nx := Jh_nx h (j := j) (by omega) to
    rw [hMf_y nx.1, show j + (f + 1) = (j + 1) + f from by omega]
    exact ih _ _ _ (Jh_go h (by omega) to) (by rw [Mo_r (by decide) (by decide)]; omega)
theorem hMf_r {c k : Nat} (h1 : c ≠ 71) (h2 : c ≠ 130) : ∀ (f j : Nat) (a : Nat → Nat → Int32) (t : Int), (hMf f j a t).1 c k = a c k := by
  intro f
  induction f with
  | zero => intro j a t; rfl
  | succ f ih =>
    intro j a t
    by_cases w : hQc a j
    · rw [hMf_y w, ih, Mo_r h1 h2]
    · rw [hMf_n w]
      exact ih _ _ _
theorem Fo_r {c k : Nat} (h1 : c ≠ 71) (h2 : c ≠ 130) : (hFo a).1 c k = a c k := by
  unfold hFo
  exact hMf_r h1 h2 _ _ _ _
/-- where each comes to, and that what it refers to stays -/
theorem hMf_pl : ∀ (f j : Nat) (a : Nat → Nat → Int32) (t : Int), qJh a st ot r j t → (j : Int) + f = (a 75 4).toInt → (hMf f j a t).2 = zPs a st (j + f) ∧ (∀ k, j ≤ k → k < j + f → (hMf f j a t).1 130 (a 76 k).toNatClampNeg = Int32.ofInt (zPs a st k)) ∧ (∀ n, (∀ k, j ≤ k → k < j + f → n ≠ (a 76 k).toNatClampNeg) → (hMf f j a t).1 130 n = a 130 n) ∧ ∀ n (i : Int32), xAl a n → 0 ≤ i.toInt → i.toInt < (a 128 n).toInt - 1 → aRef (hMf f j a t).1 n i = aRef a n i := by
  intro f
  induction f with
  | zero =>
    intro j a t h e
    exact ⟨h.2.2.2.2.1.1, fun k h1 h2 => absurd h2 (by omega), fun n _ => rfl, fun n i _ _ _ => rfl⟩
  | succ f ih =>
    intro j a t h e
    have b4 := h.1.2.2.2.1.2.2.1
    have to : (Int32.ofInt t).toInt = t := by
      have p := h.2.2.2.2.1
      have l1 : st ≤ zPs a st j := Ps_le (st := st) h.1 h.2.1 j (by omega) 0 (by omega)
      have l2 := Ps_le (st := st) h.1 h.2.1 (a 75 4).toInt.toNat (by omega) j (by omega)
      have s := h.2.2.2.1
      exact Int32.toInt_ofInt_of_le (by omega) (by omega)
    have nx := Jh_nx h (j := j) (by omega) to
    have al := FQ_al h.2.1 (j := j) (by omega)
    have e4 : aMo a (a 76 j).toNatClampNeg (Int32.ofInt t) 75 4 = a 75 4 := Mo_r (by decide) (by decide)
    have e6 : aMo a (a 76 j).toNatClampNeg (Int32.ofInt t) 76 = a 76 := Mo_c (by decide) (by decide)
    have e8 : aMo a (a 76 j).toNatClampNeg (Int32.ofInt t) 128 = a 128 := Mo_c (by decide) (by decide)
    have q := ih (j + 1) _ _ (Jh_go h (by omega) to) (by rw [e4]; omega)
    rw [e6, e8] at q
    have ps : ∀ k, zPs (aMo a (a 76 j).toNatClampNeg (Int32.ofInt t)) st k = zPs a st k := Ps_cg e6 e8
    rw [hMf_y nx.1]
    refine ⟨by rw [q.1, ps, show j + (f + 1) = (j + 1) + f from by omega], fun k h1 h2 => ?_, fun n hn => ?_, fun n i hn h0 h1 => ?_⟩
    · by_cases w : k = j
      · rw [w, q.2.2.1 _ (fun k2 g1 g2 z => ?_), Mo_pn, h.2.2.2.2.1.1]
        have q1 := h.2.1.1 j (by omega)
        have q2 := h.2.1.1 k2 (by omega)
        refine h.2.1.2.1 j k2 (by omega) (by omega) ?_
        rw [← (FQ_al h.2.1 (j := j) (by omega)).2, ← (FQ_al h.2.1 (j := k2) (by omega)).2, z]
      · rw [q.2.1 k (by omega) (by omega), ps]
    · rw [q.2.2.1 n (fun k2 g1 g2 => hn k2 (by omega) (by omega)), Mo_po (hn j (by omega) (by omega))]
    · rw [q.2.2.2 n i (Mo_al.2 hn) h0 h1]
      exact Mo_ref h.1 al.1 nx.2.2.2.2.1 nx.2.2.2.1 nx.2.2.1 hn h0 h1
theorem Jh_0 (h : qHv a) : qJh (aSw a) (a 87 5 - a 87 3).toInt (a 87 3).toInt (a 87 5).toInt 0 (a 87 5 - a 87 3).toInt := by
  obtain ⟨hI, h2, ⟨h3, h4, h5⟩, h6, ⟨h7, h8⟩, h9, h10⟩ := h
  have s : (a 87 5 - a 87 3).toInt = (a 87 5).toInt - (a 87 3).toInt := i_sub (by omega) (by omega)
  have fq := FQ_sw hI
  have al : ∀ n, xAl (aSw a) n → _ := fun n hn => Al_sw hI hn
  have su : qSu (aSw a) 512 ≤ qSu a 512 := Su_le (fun n hn w => ⟨(al n ⟨hn, w⟩).1.2, (al n ⟨hn, w⟩).2.2.1⟩) (fun n hn => by have := (hI.1 n hn).2.1.1; omega) 512 (by omega)
  refine ⟨I_sw hI, fq.1, by rw [sw_87, h2]; rfl, ⟨by omega, by rw [sw_87]; omega, by omega⟩, ⟨rfl, ?_, ?_⟩, fun n _ w => ?_, fun n hn _ => ?_⟩
  · have := fq.1.2.2.2
    omega
  · rw [Ps_su fq.1 fq.2]
    omega
  · obtain ⟨i, hi, _⟩ := w
    omega
  · have q := al n hn
    have z := h9 n q.1
    rw [q.2.1, q.2.2.1]
    omega
theorem Fo_J (h : qHv a) : qJh (hFo (aSw a)).1 (a 87 5 - a 87 3).toInt (a 87 3).toInt (a 87 5).toInt (aSw a 75 4).toInt.toNat (hFo (aSw a)).2 := by
  have j := Jh_0 h
  have q := j.2.1.2.2.2
  have e : aSw a 87 5 - aSw a 87 3 = a 87 5 - a 87 3 := by rw [sw_87, sw_87]
  have z := hMf_J (aSw a 75 4).toInt.toNat 0 _ _ j (by omega)
  unfold hFo
  rw [e]
  rw [Nat.zero_add] at z
  exact z
theorem cl_7 (h3 : k ≠ 3) (h4 : k ≠ 4) : hCl a 87 k = a 87 k := by
  unfold hCl hFo
  rw [xu_o (fun w => h4 w.2), xu_o (fun w => h3 w.2), hMf_r (by decide) (by decide), sw_87]
theorem cl_r {c : Nat} (h : c ≠ 87) (h1 : c ≠ 71) (h2 : c ≠ 130) : hCl a c = aSw a c := funext (fun k => by
  unfold hCl hFo
  rw [xu_o (fun w => h w.1), xu_o (fun w => h w.1), hMf_r h1 h2])
theorem Hv_cl (h : qHv a) : qHv (hCl a) := by
  have j := Fo_J h
  obtain ⟨hI, h2, ⟨h3, h4, h5⟩, h6, ⟨h7, h8⟩, h9, h10⟩ := h
  obtain ⟨j1, j2, j3, ⟨j4, j5, j6⟩, ⟨j7, j8, j9⟩, m1, m2⟩ := j
  have s : (a 87 5 - a 87 3).toInt = (a 87 5).toInt - (a 87 3).toInt := i_sub (by omega) (by omega)
  have fq := FQ_sw hI
  have e4 : (hFo (aSw a)).1 75 4 = aSw a 75 4 := Fo_r (by decide) (by decide)
  have e6 : (hFo (aSw a)).1 76 = aSw a 76 := funext (fun k => Fo_r (by decide) (by decide))
  have e26 : (hFo (aSw a)).1 126 = aSw a 126 := funext (fun k => Fo_r (by decide) (by decide))
  have e28 : (hFo (aSw a)).1 128 = aSw a 128 := funext (fun k => Fo_r (by decide) (by decide))
  have e33 : (hFo (aSw a)).1 133 = aSw a 133 := funext (fun k => Fo_r (by decide) (by decide))
  have ps : (hFo (aSw a)).2 = (a 87 5 - a 87 3).toInt + qSu (aSw a) 512 := by
    rw [j7, Ps_cg e6 e28]
    exact Ps_su fq.1 fq.2
  rw [e4, Ps_cg e6 e28, Ps_su fq.1 fq.2] at j9
  have su0 : 0 ≤ qSu (aSw a) 512 := by
    have g := Ps_le (st := (a 87 5 - a 87 3).toInt) (I_sw hI) fq.1 (aSw a 75 4).toInt.toNat (by have := fq.1.2.2.2; omega) 0 (by omega)
    rw [Ps_su fq.1 fq.2] at g
    have g2 : (a 87 5 - a 87 3).toInt ≤ (a 87 5 - a 87 3).toInt + qSu (aSw a) 512 := g
    omega
  have to : (Int32.ofInt (hFo (aSw a)).2).toInt = (hFo (aSw a)).2 := Int32.toInt_ofInt_of_le (by omega) (by omega)
  have r3 : hCl a 87 3 = a 87 5 - a 87 3 := by
    unfold hCl
    rw [xu_o (by decide), xu_s]
  have r4 : hCl a 87 4 = Int32.ofInt (hFo (aSw a)).2 := xu_s
  have rr : ∀ c, c ≠ 87 → hCl a c = (hFo (aSw a)).1 c := fun c hc => funext (fun k => by
    unfold hCl
    rw [xu_o (fun w => hc w.1), xu_o (fun w => hc w.1)])
  have sue : qSu (hCl a) 512 = qSu (aSw a) 512 := Su_cg ((rr 126 (by decide)).trans e26) ((rr 128 (by decide)).trans e28) 512
  have al : ∀ n, xAl (hCl a) n → xAl (hFo (aSw a)).1 n ∧ xAl (aSw a) n := fun n hn => by
    unfold xAl at hn ⊢
    rw [rr 126 (by decide)] at hn
    rw [← e26]
    exact ⟨hn, hn⟩
  refine ⟨I_87k (I_87k j1 (by decide) (by decide) (by decide)) (by decide) (by decide) (by decide), ?_, ⟨?_, ?_, ?_⟩, ?_, ⟨?_, ?_⟩, fun n hn => ?_, fun n hn => ?_⟩
  · rw [cl_7 (by decide) (by decide)]
    exact h2
  · rw [cl_7 (by decide) (by decide), cl_7 (by decide) (by decide)]
    exact h3
  · rw [cl_7 (by decide) (by decide)]
    exact h4
  · rw [cl_7 (by decide) (by decide)]
    exact h5
  · rw [r3, cl_7 (by decide) (by decide)]
    omega
  · rw [r4, r3, sue, to, ps]
  · rw [r4, r3, to, cl_7 (by decide) (by decide), ps]
    omega
  · have w := al n hn
    obtain ⟨i, hi, e⟩ := fq.1.2.2.1 n w.2.1 (fq.2 n w.2)
    have g := m1 n w.1 ⟨i, by omega, by rw [e6]; exact e⟩
    rw [r3, r4, to, rr 130 (by decide), rr 128 (by decide)]
    exact g
  · have w := al n hn
    have q := Al_sw hI w.2
    rw [rr 133 (by decide), e33, q.2.2.2]
    exact h10 n q.1
theorem hRs_1 (h : hOk a z) : hRs a z = a := if_pos h
theorem hRs_2 (h : ¬ hOk a z) : hRs a z = hCl a := if_neg h
theorem hRp_1 (h : hRs a z = b) (h2 : hOk b z) : hRp a z = (b 87 4).toInt := by
  unfold hRp
  rw [h]
  exact if_pos h2
theorem hRp_2 (h : hRs a z = b) (h2 : ¬ hOk b z) : hRp a z = -1 := by
  unfold hRp
  rw [h]
  exact if_neg h2
def hMd (a : Nat → Nat → Int32) (y : Int32) : Nat → Nat → Int32 := ma_u a 87 4 (a 130 y.toNatClampNeg + a 128 y.toNatClampNeg)
def hMk (a : Nat → Nat → Int32) (kd wd : Int32) (L : Int64) (rt : Int32) : Nat → Nat → Int32 := if (a 69 6).toInt < 512 then (if hRp a (wd + 1).toInt = -1 then hRs a (wd + 1).toInt else aR0 (hMd (aAd (hRs a (wd + 1).toInt) (hRs a (wd + 1).toInt 69 6) (zFn (hRs a (wd + 1).toInt 69 6) kd (wd + 1) (Int32.ofInt (hRp a (wd + 1).toInt))) L) (hRs a (wd + 1).toInt 69 6)) rt (hRs a (wd + 1).toInt 69 6)) else a
def hMn (a : Nat → Nat → Int32) (wd : Int32) : Int32 := if (a 69 6).toInt < 512 then (if hRp a (wd + 1).toInt = -1 then -1 else hRs a (wd + 1).toInt 69 6) else -1
theorem hMk_0 {kd wd rt : Int32} (h : ¬ (a 69 6).toInt < 512) : hMk a kd wd L rt = a ∧ hMn a wd = -1 := ⟨if_neg h, if_neg h⟩
theorem hMk_1 {kd wd rt : Int32} (h : (a 69 6).toInt < 512) (h1 : hRp a (wd + 1).toInt = -1) : hMk a kd wd L rt = hRs a (wd + 1).toInt ∧ hMn a wd = -1 := by
  unfold hMk hMn
  rw [if_pos h, if_pos h, if_pos h1, if_pos h1]
  exact ⟨rfl, rfl⟩
theorem hMk_2 {kd wd rt : Int32} (h : (a 69 6).toInt < 512) (e : b = hRs a (wd + 1).toInt) (h1 : pl.toInt = hRp a (wd + 1).toInt) (h2 : ¬ pl.toInt = -1) (hy : y = b 69 6) : hMk a kd wd L rt = aR0 (hMd (aAd b y (zFn y kd (wd + 1) pl) L) y) rt y ∧ hMn a wd = y := by
  unfold hMk hMn
  rw [if_pos h, if_pos h, ← h1, if_neg h2, if_neg h2, ← e, hy, Int32.ofInt_toInt]
  exact ⟨rfl, rfl⟩
/-! the class -/
theorem aH_o {c : Nat} (h : c ≠ 87) : aH S c k = aS 75 S c k := if_neg h
theorem aH_7 : aH S 87 k = zfH (mI S) k := aM_7
theorem zf_81 (h : mI S₉ 81 = mI S 81) : zfH (mI S₉) = zfH (mI S) := by
  funext k
  unfold zfH
  rw [h]
theorem H_of (h : zO7 (aS 75 S₉) b) (h7 : ∀ k, b 87 k = zfH (mI S₉) k) : aH S₉ = b := by
  funext c k
  by_cases w : c = 87
  · rw [w, h7]
    exact aH_7
  · rw [aH_o w]
    exact h c k w
theorem H_o7 : zO7 (aS 75 S) (aH S) := fun c k q => (aH_o q).symm
theorem H_ad (h : aS 75 S₉ = aAd (aS 75 S) y F L) (h2 : zfH (mI S₉) = zfH (mI S)) : aH S₉ = aAd (aH S) y F L := H_of (by rw [h]; exact o7_ad H_o7) (fun k => by rw [ad_87, aH_7, h2])
theorem H_r0 (h : aS 75 S₉ = aR0 (aS 75 S) i y) (h2 : zfH (mI S₉) = zfH (mI S)) : aH S₉ = aR0 (aH S) i y := by
  refine H_of ?_ (fun k => ?_)
  · rw [h]
    unfold aR0
    have e : aNm (aH S) y = aNm (aS 75 S) y := by
      unfold aNm
      rw [aH_o (c := 126) (by decide)]
    rw [e]
    exact o7_u H_o7
  · unfold aR0
    rw [xu_o (by omega), aH_7, h2]
theorem H_th {nu kd sz pl : Int32} {rr : Int64} (hN : 126 ≤ mN S) (hr : ∀ n c, mR S 70 n = some c → c < mN S) : aH (zTh S nu kd sz rr pl) = aH S := by
  refine H_of ?_ (fun k => ?_)
  · rw [mk_a (Or.inl rfl) hN hr]
    exact H_o7
  · rw [aH_7]
    unfold zfH
    rw [zTh_lo (by decide) hN, zTh_lo (by decide) hN, zTh_lo (by decide) hN]
theorem aH_p (hR : xB S R) : aH (ma_put S 81 4 (.inl x)) = ma_u (aH S) 87 4 x := by
  have e := (xC_n (W := 75) (c := 81) (k := 4) (x := x) (xC_o hR) ⟨by decide, Or.inl ⟨rfl, rfl⟩⟩).1
  refine H_of (fun c k hc => ?_) (fun k => ?_)
  · rw [e, xu_o (fun w => hc w.1), aH_o hc]
  · by_cases w4 : k = 4
    · rw [w4, xu_s]
      rfl
    · rw [xu_o (fun w => w4 w.2), aH_7]
      unfold zfH
      rw [if_neg w4, if_neg w4]
      rfl
/-- behind the moves -/
theorem aH_q (h : aM (a 87) S = b) (h2 : mI S 81 2 = a 87 5) (h0 : a 87 0 = a 87 5 + a 87 5) (h3 : mI S 81 3 = x) (h4 : mI S 81 4 = y) (hk : ∀ k, k ≠ 0 → k ≠ 3 → k ≠ 4 → k ≠ 5 → a 87 k = 0) : aH S = ma_u (ma_u b 87 3 x) 87 4 y := by
  refine H_of (fun c k hc => ?_) (fun k => ?_)
  · rw [xu_o (fun w => hc w.1), xu_o (fun w => hc w.1), ← h, aM_o hc]
  · by_cases w4 : k = 4
    · rw [w4, xu_s, ← h4]
      rfl
    · rw [xu_o (fun w => w4 w.2)]
      by_cases w3 : k = 3
      · rw [w3, xu_s, ← h3]
        rfl
      · rw [xu_o (fun w => w3 w.2), ← h, aM_7]
        unfold zfH
        by_cases w0 : k = 0
        · rw [if_pos w0, w0, h2, h0]
        · rw [if_neg w0, if_neg w3, if_neg w4]
          by_cases w5 : k = 5
          · rw [if_pos w5, w5, h2]
          · rw [if_neg w5, hk k w0 w3 w4 w5]
theorem H_sv : aSv (aS 75 S) = aSv (aH S) := sv_eq (fun c k w => (aH_o w).symm)
theorem M_75 (h : j = 3 ∨ j = 4 ∨ j = 5) {q : Nat → Int32} : aM q S 75 j = mI S 75 j := (aM_o (by decide)).trans (by rcases h with h | h | h <;> rw [h] <;> rfl)
theorem M_76 {q : Nat → Int32} : aM q S 76 = mI S 76 := (aM_r (by decide)).trans (funext (fun k => aS_I rfl rfl))
def qK7 (a : Nat → Nat → Int32) : Prop := a 87 0 = a 87 5 + a 87 5 ∧ ∀ k, k ≠ 0 → k ≠ 3 → k ≠ 4 → k ≠ 5 → a 87 k = 0
theorem K7_H (h : aH S = a) : qK7 a := by
  rw [← h]
  refine ⟨rfl, fun k h0 h3 h4 h5 => ?_⟩
  rw [aH_7]
  unfold zfH
  rw [if_neg h0, if_neg h3, if_neg h4, if_neg h5]
theorem H_id (h : aH S = a) : aM (a 87) S = a := by
  rw [← h]
  funext c k
  by_cases w : c = 87
  · rw [w, aM_7]
  · rw [aM_o w, aH_o w]
theorem Fo_0 (h : aM (a 87) S₉ = aSw a) (hx : x = a 87 5 - a 87 3) : hMf ((mI S₉ 75 4).toInt - (0 : Int32).toInt).toNat (0 : Int32).toNatClampNeg (aM (a 87) S₉) x.toInt = hFo (aSw a) := by
  have e : aSw a 75 4 = mI S₉ 75 4 := by rw [← h, M_75 (Or.inr (Or.inl rfl))]
  unfold hFo
  rw [sw_87, sw_87, e, hx, h, show (0 : Int32).toInt = 0 from rfl, Int.sub_zero]
  rfl
theorem Jh_1 (h : qHv a) (hm : aM (a 87) S₉ = aSw a) (hx : x = a 87 5 - a 87 3) : qJh (aM (a 87) S₉) (a 87 5 - a 87 3).toInt (a 87 3).toInt (a 87 5).toInt (0 : Int32).toNatClampNeg x.toInt := by
  rw [hm, hx]
  exact Jh_0 h
theorem Jh_q {q : Nat → Int32} (h : qJh (aM q S) st ot r x.toNatClampNeg t) (h0 : 0 ≤ x.toInt) (hl : x.toInt < (mI S 75 4).toInt) (he : to.toInt = t) : hQc (aM q S) x.toNatClampNeg ∧ qMv (aS 75 S) (mI S 76 x.toNatClampNeg).toNatClampNeg to := by
  have c := tn_cast h0
  have nx := Jh_nx h (by rw [M_75 (Or.inr (Or.inl rfl))]; omega) he
  rw [M_76] at nx
  exact ⟨nx.1, Mv_S nx.2.1⟩
theorem Jh_no {q : Nat → Int32} (h : hQc (aM q S) x.toNatClampNeg) (hC : xB S R) (rn : zTa R (mI S 76 x.toNatClampNeg) = none) : False := by
  have z := xB_nt (W := 75) hC rn
  unfold hQc at h
  rw [M_76, aM_o (c := 126) (by decide)] at h
  exact z h
theorem Fo_s {q : Nat → Int32} {T : (Nat → Nat → Int32) × Int} {v : Int32} (h : hMf ((mI S 75 4).toInt - x.toInt).toNat x.toNatClampNeg (aM q S) to.toInt = T) (h0 : 0 ≤ x.toInt) (hl : x.toInt < (mI S 75 4).toInt) (h5 : (mI S 75 4).toInt ≤ 512) (hc : hQc (aM q S) x.toNatClampNeg) (hm : aS 75 S₉ = aMo (aS 75 S) (mI S 76 x.toNatClampNeg).toNatClampNeg to) (ht : v.toInt = to.toInt + (aS 75 S 128 (mI S 76 x.toNatClampNeg).toNatClampNeg).toInt) (hx : y.toInt = x.toInt + 1) : hMf ((mI S₉ 75 4).toInt - y.toInt).toNat y.toNatClampNeg (aM q S₉) v.toInt = T := by
  have c := tn_cast h0
  have c2 := tn_cast (x := y) (by omega)
  have e4 : mI S₉ 75 4 = mI S 75 4 := by
    have g : aM q S₉ 75 4 = aM q S 75 4 := by rw [M_mo hm, Mo_r (by decide) (by decide)]
    rw [M_75 (Or.inr (Or.inl rfl)), M_75 (Or.inr (Or.inl rfl))] at g
    exact g
  rw [show ((mI S 75 4).toInt - x.toInt).toNat = ((mI S 75 4).toInt - y.toInt).toNat + 1 from by omega, hMf_y hc] at h
  rw [e4, M_mo hm, ← h, M_76, Int32.ofInt_toInt, aM_o (c := 128) (by decide), ht, show y.toNatClampNeg = x.toNatClampNeg + 1 from by omega]
theorem Jh_s {q : Nat → Int32} {v : Int32} (h : qJh (aM q S) st ot r x.toNatClampNeg to.toInt) (h0 : 0 ≤ x.toInt) (hl : x.toInt < (mI S 75 4).toInt) (hm : aS 75 S₉ = aMo (aS 75 S) (mI S 76 x.toNatClampNeg).toNatClampNeg to) (ht : v.toInt = to.toInt + (aS 75 S 128 (mI S 76 x.toNatClampNeg).toNatClampNeg).toInt) (hx : y.toInt = x.toInt + 1) : qJh (aM q S₉) st ot r y.toNatClampNeg v.toInt := by
  have c := tn_cast h0
  have c2 := tn_cast (x := y) (by omega)
  have g := Jh_go h (by rw [M_75 (Or.inr (Or.inl rfl))]; omega) rfl
  rw [M_76, aM_o (c := 128) (by decide)] at g
  rw [M_mo hm, ht, show y.toNatClampNeg = x.toNatClampNeg + 1 from by omega]
  exact g
theorem Fo_e {q : Nat → Int32} {T : (Nat → Nat → Int32) × Int} (h : hMf ((mI S 75 4).toInt - x.toInt).toNat x.toNatClampNeg (aM q S) to.toInt = T) (hl : ¬ x.toInt < (mI S 75 4).toInt) : aM q S = T.1 ∧ to = Int32.ofInt T.2 := by
  rw [show ((mI S 75 4).toInt - x.toInt).toNat = 0 from by omega] at h
  rw [← h]
  exact ⟨rfl, (Int32.ofInt_toInt _).symm⟩
theorem Hcl_e (h : aM (a 87) S = (hFo (aSw a)).1) (h4 : mI S 81 4 = Int32.ofInt (hFo (aSw a)).2) (h3 : mI S 81 3 = a 87 5 - a 87 3) (h2 : mI S 81 2 = a 87 5) (hk : qK7 a) : aH S = hCl a := aH_q h h2 hk.1 h3 h4 hk.2
end F8

