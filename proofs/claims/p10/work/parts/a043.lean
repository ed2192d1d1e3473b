/-! from 95.r13 -/
/-! the reference where it moves (written by wip/tools/gen15r.py) -/
set_option maxHeartbeats 8000000 in
theorem lp_183rl_142 {X : Nat × (Nat → Int32)} {P : Option ma_V → (Nat → Nat → Int32) → Prop} {T : Nat} {aa : Nat→Nat→Int32} {LL : Int64} {kk : Int32} {nn : Int32} {r1 : Int32} {m0 : Nat → Nat → Int32} (h0 : zV m0) (K : ∀ v m₉, zF wr_183 m0 m₉ → zV m₉ → (zW (m₉ 94 7) (m₉ 98) (m₉ 101) (m₉ 102) (m₉ 108)) → (zGW (T + 1) (m₉ 94 55) (m₉ 109)) → (zGU (T + 1) (m₉ 94 46) (m₉ 99)) → (zOw (m₉ 99) (m₉ 103) (m₉ 111)) → (zGG (m₉ 94 58) (m₉ 94 56) (m₉ 94 57) (m₉ 106)) → (qRB (m₉ 99) (m₉ 100) (m₉ 98) (m₉ 101) (m₉ 102) (m₉ 103) (m₉ 107) (m₉ 108) (m₉ 109) (m₉ 111) (m₉ 112) (m₉ 113) (m₉ 114) (m₉ 94 55) (m₉ 94 46) (m₉ 94 11) 0 (m₉ 94 59) 0 1 (lMk aa kk nn LL r1)) → (qI (lMk aa kk nn LL r1)) → (qMG (m₉ 94 58) (m₉ 106) (m₉ 115) (m₉ 94 57) (m₉ 94 56) (m₉ 99) (m₉ 100) (lMk aa kk nn LL r1)) → ((lMk aa kk nn LL r1) 87 8 = (m₉ 94 58)) → ((m₉ 94 45).toInt = sm (zbU (m₉ 99)) (m₉ 102) 3100) → ((m₉ 94 58).toInt = 0) → (v = lMn aa nn) → (qTp (lMk aa kk nn LL r1)) → P (some (.inl v)) m₉) : ∀ (n : Nat) (m : Nat → Nat → Int32) (l2 : Int32) (l3 : Int32) (l4 : Int32) (l5 : Int32) (l6 : Int32), (61 - l6.toInt).toNat = n → zF wr_183 m0 m → zV m → (l2.toInt = nn.toInt) → (0 ≤ l2.toInt) → (l2.toInt ≤ 60) → (0 ≤ l3.toInt) → (l3.toInt ≤ 15) → (0 ≤ l4.toInt) → (l4.toInt ≤ 1500) → (0 ≤ l5.toInt) → (l5.toInt ≤ 3099) → (T + 1 ≤ 512) → (0 ≤ l6.toInt) → ((m 94 10).toInt = 1 ∧ (m 94 58).toInt = 0) → ((m 94 8).toInt = 1) → ((m 94 46).toInt ≤ 511) → (l2 = nn) → (l3 = r1) → (qEq l4.toInt (lRp aa (nn + (1 : Int32)).toInt)) → ((m 102 l5.toNatClampNeg).toInt = l2.toInt) → ((m 99) l5.toNatClampNeg ≠ 0) → (zGUp T (m 94 46) (m 99)) → (zOw (m 99) (m 103) (m 111)) → (zGG (m 94 58) (m 94 56) (m 94 57) (m 106)) → (qI (lFt aa (nn + (1 : Int32)) l4)) → (qNs (m 99) (m 100) (m 98) (m 101) (m 102) (m 103) (m 107) (m 108) (m 109) (m 111) (m 112) (m 113) (m 114) (m 94 55) (m 94 46) (m 94 11) 0 (m 94 59) 0 1 (lFt aa (nn + (1 : Int32)) l4) l5.toNatClampNeg (m 94 46) kk nn l4) → (qMG (m 94 58) (m 106) (m 115) (m 94 57) (m 94 56) (zmk (m 99) l5.toNatClampNeg) (m 100) (lFt aa (nn + (1 : Int32)) l4)) → ((lFt aa (nn + (1 : Int32)) l4) 87 8 = (m 94 58)) → ((m 94 45).toInt = sm (zbU (zmk (m 99) l5.toNatClampNeg)) (m 102) 3100) → (∀ j : Nat, (j : Int) < nn.toInt → (zbit LL (Int32.ofNat j) ≠ 0 ↔ (kk = 16 ∨ (kk < 16 ∧ (((m 98) kk.toNatClampNeg >>> (Int32.ofNat j &&& 31)) &&& 1) = 1)))) → ((aa 69 6).toInt < 512) → (zWn (m 94 7) (m 98) (m 101) (m 102) (m 108) l5.toNatClampNeg l6.toNatClampNeg) → (zGW (T + 1) (m 94 55) (m 109)) → (qCo (m 94 58) (m 106) l5.toNatClampNeg) → ((m 107) l5.toNatClampNeg = 0) → ((m 109) l5.toNatClampNeg = 0) → (qI (lRs aa (nn + (1 : Int32)).toInt)) → (qTp (lRs aa (nn + (1 : Int32)).toInt)) → zm X 9 198 183 142 [(0, .inr (.inr (some 94))), (2, .inl l2), (3, .inl l3), (4, .inl l4), (5, .inl l5), (6, .inl l6)] m P := by
  intro n
  induction n using Nat.strongRecOn with
  | _ n IH =>
    intro m l2 l3 l4 l5 l6 hmu hF hV hi0 hi1 hi2 hi3 hi4 hi5 hi6 hi7 hi8 hi9 hi10 hi11 hi12 hi13 r_L2n r_L3r r_PLq hi17 r_USn r_GUp r_OW r_GG r_QIb r_NS r_MGz r_MKb r_WTz r_BTS r_N6 r_WN r_GW r_COs r_HOs r_WIs r_QIs r_TPb
    refine g_183_142 l2 l3 l4 l5 l6 ?_
    have f1 : 0 ≤ (m 94 10).toInt ∧ (m 94 10).toInt ≤ 6 := rs_94_10 (m := m) hV
    have f2 : 0 ≤ (m 94 58).toInt ∧ (m 94 58).toInt ≤ 1 := rs_94_58 (m := m) hV
    have f3 : 0 ≤ (m 94 8).toInt ∧ (m 94 8).toInt ≤ 1 := rs_94_8 (m := m) hV
    have f4 : 0 ≤ (m 94 46).toInt ∧ (m 94 46).toInt ≤ 100000 := rs_94_46 (m := m) hV
    have b5 := i_bd l5
    first | have f6 : 0 ≤ (m 102 l5.toNatClampNeg).toInt ∧ (m 102 l5.toNatClampNeg).toInt ≤ 60 := ra_102 (m := m) hV (k := l5.toNatClampNeg) (i_ix (n := 3100) (by omega) (by omega)).2 | have b7 := i_bd (m 102 l5.toNatClampNeg)
    have b8 := i_bd l2
    have b9 := i_bd l6
    refine zd (fun (h10 : l2 ≤ l6) => ?_) (fun (h10 : ¬ l2 ≤ l6) => ?_)
    · skip
      have g11 := i_le h10
      have b12 := i_bd l3
      first | have e14 : ((m 94 46) + (1 : Int32)).toInt = (m 94 46).toInt + (1) := i_addk rfl (by omega) (by omega) | have b15 := i_bd ((m 94 46) + (1 : Int32))
      have hV13 : zV (ma_u m 94 46 ((m 94 46) + (1 : Int32))) := us_94_46 hV (by omega) (by omega)
      have hV16 : zV (ma_u (ma_u m 94 46 ((m 94 46) + (1 : Int32))) 94 44 ((m 94 44) + (1 : Int32))) := uf_94_44 hV13
      have hV17 : zV (ma_u (ma_u (ma_u m 94 46 ((m 94 46) + (1 : Int32))) 94 44 ((m 94 44) + (1 : Int32))) 94 45 ((m 94 45) + (l2 + (1 : Int32)))) := uf_94_45 hV16
      have b19 := i_bd l4
      first | have e20 : (l4 + l2).toInt = l4.toInt + l2.toInt := i_add (by omega) (by omega) | have b21 := i_bd (l4 + l2)
      first | have e22 : ((l4 + l2) + (1 : Int32)).toInt = (l4 + l2).toInt + (1) := i_addk rfl (by omega) (by omega) | have b23 := i_bd ((l4 + l2) + (1 : Int32))
      have hV18 : zV (ma_u (ma_u (ma_u (ma_u m 94 46 ((m 94 46) + (1 : Int32))) 94 44 ((m 94 44) + (1 : Int32))) 94 45 ((m 94 45) + (l2 + (1 : Int32)))) 94 62 ((l4 + l2) + (1 : Int32))) := us_94_62 hV17 (by omega) (by omega)
      refine sp_238rm (T := (T + 1)) (aa := (aMd (aAd (lFt aa (nn + (1 : Int32)) l4) (m 94 46) (zFn (m 94 46) kk (nn + (1 : Int32)) l4) LL) (m 94 46))) (l3) (l5) hV18 (by omega) (by omega) (by omega) (by omega) (show ((m 94 10).toInt = 1 ∨ (m 94 10).toInt = 2 ∨ (m 94 10).toInt = 3 ∨ (m 94 10).toInt = 6) ∧ (m 94 58).toInt = 0 from by omega) (show zW (m 94 7) (m 98) (m 101) (m 102) (m 108) from by first | (exact Wn_end r_WN (by rw [tn_cast (x := l6) (by omega)]; omega)) | (exfalso; omega; done) | (exfalso; contradiction; done)) r_GW (show zGU (T + 1) ((m 94 46) + (1 : Int32)) (m 99) from by first | (exact GUp_end r_GUp (by omega)) | (exfalso; omega; done) | (exfalso; contradiction; done)) r_OW r_GG (show qRB (m 99) (m 100) (m 98) (m 101) (m 102) (m 103) (m 107) (m 108) (m 109) (m 111) (m 112) (m 113) (m 114) (m 94 55) ((m 94 46) + (1 : Int32)) (m 94 11) 0 (m 94 59) 0 1 (aMd (aAd (lFt aa (nn + (1 : Int32)) l4) (m 94 46) (zFn (m 94 46) kk (nn + (1 : Int32)) l4) LL) (m 94 46)) from by first | (exact RB_ns r_NS (Ne_l r_QIb r_TPb r_QIs r_PLq (by omega) (by omega) (by omega) r_NS.1.2.2.2.2.2.2.2.1 (by omega)) (Ad_of (b := (lFt aa (nn + (1 : Int32)) l4)) (y := (m 94 46)) (kk := kk) (w := nn) (pl := l4) (L := LL) (by omega) (by omega) (by omega) (by omega) (by omega)) (tn_lt (by omega) (by omega)) r_HOs r_WIs (fun j hj => r_WN.2.1 j (by have := tn_cast (x := l6) (by omega); omega)) (fun j hj => (r_BTS j hj).trans (by unfold qIr; rw [r_NS.2.2.2.1])) rfl ((r_NS.1.2.2.2.2.2.2.2.2.2.2.1).symm.trans (by rw [lFt_y (by omega)]; exact xu_s))) | (exfalso; omega; done) | (exfalso; contradiction; done)) (show qI (aMd (aAd (lFt aa (nn + (1 : Int32)) l4) (m 94 46) (zFn (m 94 46) kk (nn + (1 : Int32)) l4) LL) (m 94 46)) from by first | (exact I_ad (Ne_l r_QIb r_TPb r_QIs r_PLq (by omega) (by omega) (by omega) r_NS.1.2.2.2.2.2.2.2.1 (by omega)) (Ad_of (b := (lFt aa (nn + (1 : Int32)) l4)) (y := (m 94 46)) (kk := kk) (w := nn) (pl := l4) (L := LL) (by omega) (by omega) (by omega) (by omega) (by omega))) | (exfalso; omega; done) | (exfalso; contradiction; done)) (show qMG (m 94 58) (m 106) (m 115) (m 94 57) (m 94 56) (m 99) (m 100) (aMd (aAd (lFt aa (nn + (1 : Int32)) l4) (m 94 46) (zFn (m 94 46) kk (nn + (1 : Int32)) l4) LL) (m 94 46)) from by first | (exact MG_ad r_NS (Ne_l r_QIb r_TPb r_QIs r_PLq (by omega) (by omega) (by omega) r_NS.1.2.2.2.2.2.2.2.1 (by omega)) (Ad_of (b := (lFt aa (nn + (1 : Int32)) l4)) (y := (m 94 46)) (kk := kk) (w := nn) (pl := l4) (L := LL) (by omega) (by omega) (by omega) (by omega) (by omega)) A7_of r_MKb r_MGz r_COs) | (exfalso; omega; done) | (exfalso; contradiction; done)) (show (aMd (aAd (lFt aa (nn + (1 : Int32)) l4) (m 94 46) (zFn (m 94 46) kk (nn + (1 : Int32)) l4) LL) (m 94 46)) 87 8 = (m 94 58) from by first | (exact ((Ad_of (b := (lFt aa (nn + (1 : Int32)) l4)) (y := (m 94 46)) (kk := kk) (w := nn) (pl := l4) (L := LL) (by omega) (by omega) (by omega) (by omega) (by omega)).2.2.2.2.2.2.1 8 (by decide)).trans r_MKb) | (exfalso; omega; done) | (exfalso; contradiction; done)) (show ((m 94 45) + (l2 + (1 : Int32))).toInt = sm (zbU (m 99)) (m 102) 3100 from by first | (have q := WT_ad r_WTz (tn_lt (by omega) (by omega)) r_USn (fun t ht => ra_102 hV ht); rw [r_NS.2.2.2.2.1, ← r_L2n] at q; exact q; done) | (exfalso; omega; done) | (exfalso; contradiction; done)) (show qU (m 99) l5 from by first | (exact Or.inr ⟨by omega, r_USn⟩) | (assumption; done) | (exact ow5.1) | (exact ow3.1) | (exfalso; omega; done) | (exfalso; contradiction; done)) (show qMS (m 94 58) (aMd (aAd (lFt aa (nn + (1 : Int32)) l4) (m 94 46) (zFn (m 94 46) kk (nn + (1 : Int32)) l4) LL) (m 94 46)) (qNo (m 100) l5) from by first | (rw [No_y (by omega), r_NS.2.2.1]; exact MS_ad (Ne_l r_QIb r_TPb r_QIs r_PLq (by omega) (by omega) (by omega) r_NS.1.2.2.2.2.2.2.2.1 (by omega)) A7_of r_MKb; done) | (exfalso; omega; done) | (exfalso; contradiction; done)) (fun m1 hV_m1 p0_m1 p1_m1 p2_m1 p3_m1 p4_m1 p5_m1 p6_m1 p7_m1 p8_m1 => zmv_n ?_)
      have p0_m1 : zGW (T + 1) (m1 94 55) (m1 109) := p0_m1
      have p1_m1 : zGU (T + 1) ((m 94 46) + (1 : Int32)) (m1 99) := p1_m1
      have p2_m1 : zOw (m1 99) (m 103) (m1 111) := p2_m1
      have p3_m1 : zGG (m 94 58) (m1 94 56) (m 94 57) (m1 106) := p3_m1
      have p4_m1 : qRB (m1 99) (m 100) (m 98) (m 101) (m 102) (m 103) (m 107) (m 108) (m1 109) (m1 111) (m1 112) (m1 113) (m1 114) (m1 94 55) ((m 94 46) + (1 : Int32)) (m 94 11) 0 (m 94 59) 0 1 (aRt (aMd (aAd (lFt aa (nn + (1 : Int32)) l4) (m 94 46) (zFn (m 94 46) kk (nn + (1 : Int32)) l4) LL) (m 94 46)) l3 (qNo (m 100) l5)) := p4_m1
      have p5_m1 : qI (aRt (aMd (aAd (lFt aa (nn + (1 : Int32)) l4) (m 94 46) (zFn (m 94 46) kk (nn + (1 : Int32)) l4) LL) (m 94 46)) l3 (qNo (m 100) l5)) := p5_m1
      have p6_m1 : qMG (m 94 58) (m1 106) (m1 115) (m 94 57) (m1 94 56) (m1 99) (m 100) (aRt (aMd (aAd (lFt aa (nn + (1 : Int32)) l4) (m 94 46) (zFn (m 94 46) kk (nn + (1 : Int32)) l4) LL) (m 94 46)) l3 (qNo (m 100) l5)) := p6_m1
      have p7_m1 : (aRt (aMd (aAd (lFt aa (nn + (1 : Int32)) l4) (m 94 46) (zFn (m 94 46) kk (nn + (1 : Int32)) l4) LL) (m 94 46)) l3 (qNo (m 100) l5)) 87 8 = (m 94 58) := p7_m1
      have p8_m1 : (m1 94 45).toInt = sm (zbU (m1 99)) (m 102) 3100 := p8_m1
      have hg24 : (0 ≤ l5 ∧ l5.toNatClampNeg < 3100) := i_ix (by omega) (by omega)
      refine ⟨hg24, ?_⟩
      try have e21 : (l2 + (1 : Int32)).toInt = l2.toInt + 1 := i_addk rfl (by omega) (by omega)
      try have gun := GU_nu p1_m1
      first | have f25 : 0 ≤ (m 100 l5.toNatClampNeg).toInt ∧ (m 100 l5.toNatClampNeg).toInt ≤ 100000 := ra_100 (m := m) hV (k := l5.toNatClampNeg) (i_ix (n := 3100) (by omega) (by omega)).2 | have b26 := i_bd (m 100 l5.toNatClampNeg)
      exact K ((m 100 l5.toNatClampNeg)) _ (zF_zov (zF_u (zF_u (zF_u (zF_u hF rfl) rfl) rfl) rfl) ws_238_183) hV_m1 (show zW (m 94 7) (m 98) (m 101) (m 102) (m 108) from by first | (exact Wn_end r_WN (by rw [tn_cast (x := l6) (by omega)]; omega)) | (exfalso; omega; done) | (exfalso; contradiction; done)) p0_m1 p1_m1 p2_m1 p3_m1 (show qRB (m1 99) (m 100) (m 98) (m 101) (m 102) (m 103) (m 107) (m 108) (m1 109) (m1 111) (m1 112) (m1 113) (m1 114) (m1 94 55) ((m 94 46) + (1 : Int32)) (m 94 11) 0 (m 94 59) 0 1 (lMk aa kk nn LL r1) from by first | (have e := p4_m1; rw [No_y (by omega), r_NS.2.2.1, r_L3r] at e; rw [(lMk_2b (a := aa) (kd := kk) (wd := nn) (rt := r1) (L := LL) (pl := l4) (y := (m 94 46)) r_N6 (qE r_PLq) (by omega) r_NS.1.2.2.2.2.2.2.2.1.symm (r_MKb.trans (i_zer (by omega)))).1]; exact e; done) | (exfalso; omega; done) | (exfalso; contradiction; done)) (show qI (lMk aa kk nn LL r1) from by first | (have e := p5_m1; rw [No_y (by omega), r_NS.2.2.1, r_L3r] at e; rw [(lMk_2b (a := aa) (kd := kk) (wd := nn) (rt := r1) (L := LL) (pl := l4) (y := (m 94 46)) r_N6 (qE r_PLq) (by omega) r_NS.1.2.2.2.2.2.2.2.1.symm (r_MKb.trans (i_zer (by omega)))).1]; exact e; done) | (exfalso; omega; done) | (exfalso; contradiction; done)) (show qMG (m 94 58) (m1 106) (m1 115) (m 94 57) (m1 94 56) (m1 99) (m 100) (lMk aa kk nn LL r1) from by first | (have e := p6_m1; rw [No_y (by omega), r_NS.2.2.1, r_L3r] at e; rw [(lMk_2b (a := aa) (kd := kk) (wd := nn) (rt := r1) (L := LL) (pl := l4) (y := (m 94 46)) r_N6 (qE r_PLq) (by omega) r_NS.1.2.2.2.2.2.2.2.1.symm (r_MKb.trans (i_zer (by omega)))).1]; exact e; done) | (exfalso; omega; done) | (exfalso; contradiction; done)) (show (lMk aa kk nn LL r1) 87 8 = (m 94 58) from by first | (have e := p7_m1; rw [No_y (by omega), r_NS.2.2.1, r_L3r] at e; rw [(lMk_2b (a := aa) (kd := kk) (wd := nn) (rt := r1) (L := LL) (pl := l4) (y := (m 94 46)) r_N6 (qE r_PLq) (by omega) r_NS.1.2.2.2.2.2.2.2.1.symm (r_MKb.trans (i_zer (by omega)))).1]; exact e; done) | (exfalso; omega; done) | (exfalso; contradiction; done)) p8_m1 (show (m 94 58).toInt = 0 from by omega) (show (m 100 l5.toNatClampNeg) = lMn aa nn from by first | (rw [r_NS.2.2.1]; exact (lMk_2b (a := aa) (kd := kk) (wd := nn) (rt := r1) (L := LL) (pl := l4) (y := (m 94 46)) r_N6 (qE r_PLq) (by omega) r_NS.1.2.2.2.2.2.2.2.1.symm (r_MKb.trans (i_zer (by omega)))).2.symm; done) | (exfalso; omega; done) | (exfalso; contradiction; done)) (show qTp (lMk aa kk nn LL r1) from by first | (rw [(lMk_2b (a := aa) (kd := kk) (wd := nn) (rt := r1) (L := LL) (pl := l4) (y := (m 94 46)) r_N6 (qE r_PLq) (by omega) r_NS.1.2.2.2.2.2.2.2.1.symm (r_MKb.trans (i_zer (by omega)))).1]; exact Tp_new (Ne_l r_QIb r_TPb r_QIs r_PLq (by omega) (by omega) (by omega) r_NS.1.2.2.2.2.2.2.2.1 (by omega)) (Ad_of (b := (lFt aa (nn + (1 : Int32)) l4)) (y := (m 94 46)) (kk := kk) (w := nn) (pl := l4) (L := LL) (by omega) (by omega) (by omega) (by omega) (by omega)) r_TPb r_QIs r_PLq (by omega); done) | (exfalso; omega; done) | (exfalso; contradiction; done))
    · skip
      have g27 := i_nle h10
      have hg28 : (0 ≤ l5 ∧ l5.toNatClampNeg < 3100) := i_ix (by omega) (by omega)
      refine ⟨hg28, ?_⟩
      first | have f29 : 0 ≤ (m 101 l5.toNatClampNeg).toInt ∧ (m 101 l5.toNatClampNeg).toInt ≤ 17 := ra_101 (m := m) hV (k := l5.toNatClampNeg) (i_ix (n := 3100) (by omega) (by omega)).2 | have b30 := i_bd (m 101 l5.toNatClampNeg)
      have li31 : (16 : Int32).toInt = 16 := rfl
      refine zd (fun (h32 : (m 101 l5.toNatClampNeg) = (16 : Int32)) => ?_) (fun (h32 : ¬ (m 101 l5.toNatClampNeg) = (16 : Int32)) => ?_)
      · skip
        have g33 := i_eq h32
        have li34 : (60 : Int32).toInt = 60 := rfl
        first | have e35 : (l5 * (60 : Int32)).toInt = l5.toInt * 60 := i_mulk rfl (by omega) (by omega) | have b36 := i_bd (l5 * (60 : Int32))
        first | have e37 : ((l5 * (60 : Int32)) + l6).toInt = (l5 * (60 : Int32)).toInt + l6.toInt := i_add (by omega) (by omega) | have b38 := i_bd ((l5 * (60 : Int32)) + l6)
        have hg39 : (0 ≤ ((l5 * (60 : Int32)) + l6) ∧ ((l5 * (60 : Int32)) + l6).toNatClampNeg < 186000) := i_ix (by omega) (by omega)
        refine ⟨hg39, ?_⟩
        try have e21 : (l2 + (1 : Int32)).toInt = l2.toInt + 1 := i_addk rfl (by omega) (by omega)
        have hV40 : zV (ma_u m 108 ((l5 * (60 : Int32)) + l6).toNatClampNeg (-1 : Int32)) := ua_108 hV
        have b41 := i_bd l3
        have b42 := i_bd l4
        first | have e43 : (l6 + (1 : Int32)).toInt = l6.toInt + (1) := i_addk rfl (by omega) (by omega) | have b44 := i_bd (l6 + (1 : Int32))
        exact IH (61 - (l6 + (1 : Int32)).toInt).toNat (by omega) _ (l2) (l3) (l4) (l5) ((l6 + (1 : Int32))) rfl (zF_u hF rfl) hV40 (by omega) (by omega) (by omega) (by omega) (by omega) (by omega) (by omega) (by omega) (by omega) (by omega) (by omega) (show (m 94 10).toInt = 1 ∧ (m 94 58).toInt = 0 from by omega) (show (m 94 8).toInt = 1 from by omega) (show (m 94 46).toInt ≤ 511 from by omega) r_L2n r_L3r r_PLq (show (m 102 l5.toNatClampNeg).toInt = l2.toInt from by omega) r_USn r_GUp r_OW r_GG r_QIb (show qNs (m 99) (m 100) (m 98) (m 101) (m 102) (m 103) (m 107) ((ma_u m 108 ((l5 * (60 : Int32)) + l6).toNatClampNeg (-1 : Int32)) 108) (m 109) (m 111) (m 112) (m 113) (m 114) (m 94 55) (m 94 46) (m 94 11) 0 (m 94 59) 0 1 (lFt aa (nn + (1 : Int32)) l4) l5.toNatClampNeg (m 94 46) kk nn l4 from by first | (exact NS_h r_NS (fun _ _ => rfl) (fun _ _ => rfl) (fun t ht hne i hi => (zrf_oth (ix_word (by omega) (by omega) (by omega) (by omega)) (by rw [tn_eq]; omega) (fun t ht => (ra_102 hV ht).2)) t i hne ht hi)) | (exfalso; omega; done) | (exfalso; contradiction; done)) r_MGz r_MKb r_WTz r_BTS r_N6 (show zWn (m 94 7) (m 98) (m 101) (m 102) ((ma_u m 108 ((l5 * (60 : Int32)) + l6).toNatClampNeg (-1 : Int32)) 108) l5.toNatClampNeg (l6 + (1 : Int32)).toNatClampNeg from by first | (exact Wn_put r_WN (zrf_oth (ix_word (by omega) (by omega) (by omega) (by omega)) (by rw [tn_eq]; omega) (fun t ht => (ra_102 hV ht).2)) (zrf_bef (ix_word (by omega) (by omega) (by omega) (by omega))) (zrf_m1 (ix_word (by omega) (by omega) (by omega) (by omega)) rfl) (tn_succ (by omega) (by omega))) | (exact Wn_put r_WN (zrf_oth (ix_word (by omega) (by omega) (by omega) (by omega)) (by rw [tn_eq]; omega) (fun t ht => (ra_102 hV ht).2)) (zrf_bef (ix_word (by omega) (by omega) (by omega) (by omega))) (zrf_nr rfl (by omega) (by assumption) (fun z => by first | exact absurd (Int32.lt_iff_toInt_lt.mp z.1) (by omega) | exact absurd z.2 (by assumption))) (tn_succ (by omega) (by omega))) | (exfalso; omega; done) | (exfalso; contradiction; done)) r_GW r_COs r_HOs r_WIs r_QIs r_TPb
      · skip
        have g45 := i_ne h32
        have hg46 : (0 ≤ l5 ∧ l5.toNatClampNeg < 3100) := i_ix (by omega) (by omega)
        refine ⟨hg46, ?_⟩
        refine zd (fun (h47 : (16 : Int32) ≤ (m 101 l5.toNatClampNeg)) => ?_) (fun (h47 : ¬ (16 : Int32) ≤ (m 101 l5.toNatClampNeg)) => ?_)
        · skip
          have g48 := i_le h47
          have li49 : (60 : Int32).toInt = 60 := rfl
          first | have e50 : (l5 * (60 : Int32)).toInt = l5.toInt * 60 := i_mulk rfl (by omega) (by omega) | have b51 := i_bd (l5 * (60 : Int32))
          first | have e52 : ((l5 * (60 : Int32)) + l6).toInt = (l5 * (60 : Int32)).toInt + l6.toInt := i_add (by omega) (by omega) | have b53 := i_bd ((l5 * (60 : Int32)) + l6)
          have hg54 : (0 ≤ ((l5 * (60 : Int32)) + l6) ∧ ((l5 * (60 : Int32)) + l6).toNatClampNeg < 186000) := i_ix (by omega) (by omega)
          refine ⟨hg54, ?_⟩
          try have e21 : (l2 + (1 : Int32)).toInt = l2.toInt + 1 := i_addk rfl (by omega) (by omega)
          have hV55 : zV (ma_u m 108 ((l5 * (60 : Int32)) + l6).toNatClampNeg (0 : Int32)) := ua_108 hV
          have b56 := i_bd l3
          have b57 := i_bd l4
          first | have e58 : (l6 + (1 : Int32)).toInt = l6.toInt + (1) := i_addk rfl (by omega) (by omega) | have b59 := i_bd (l6 + (1 : Int32))
          exact IH (61 - (l6 + (1 : Int32)).toInt).toNat (by omega) _ (l2) (l3) (l4) (l5) ((l6 + (1 : Int32))) rfl (zF_u hF rfl) hV55 (by omega) (by omega) (by omega) (by omega) (by omega) (by omega) (by omega) (by omega) (by omega) (by omega) (by omega) (show (m 94 10).toInt = 1 ∧ (m 94 58).toInt = 0 from by omega) (show (m 94 8).toInt = 1 from by omega) (show (m 94 46).toInt ≤ 511 from by omega) r_L2n r_L3r r_PLq (show (m 102 l5.toNatClampNeg).toInt = l2.toInt from by omega) r_USn r_GUp r_OW r_GG r_QIb (show qNs (m 99) (m 100) (m 98) (m 101) (m 102) (m 103) (m 107) ((ma_u m 108 ((l5 * (60 : Int32)) + l6).toNatClampNeg (0 : Int32)) 108) (m 109) (m 111) (m 112) (m 113) (m 114) (m 94 55) (m 94 46) (m 94 11) 0 (m 94 59) 0 1 (lFt aa (nn + (1 : Int32)) l4) l5.toNatClampNeg (m 94 46) kk nn l4 from by first | (exact NS_h r_NS (fun _ _ => rfl) (fun _ _ => rfl) (fun t ht hne i hi => (zrf_oth (ix_word (by omega) (by omega) (by omega) (by omega)) (by rw [tn_eq]; omega) (fun t ht => (ra_102 hV ht).2)) t i hne ht hi)) | (exfalso; omega; done) | (exfalso; contradiction; done)) r_MGz r_MKb r_WTz r_BTS r_N6 (show zWn (m 94 7) (m 98) (m 101) (m 102) ((ma_u m 108 ((l5 * (60 : Int32)) + l6).toNatClampNeg (0 : Int32)) 108) l5.toNatClampNeg (l6 + (1 : Int32)).toNatClampNeg from by first | (exact Wn_put r_WN (zrf_oth (ix_word (by omega) (by omega) (by omega) (by omega)) (by rw [tn_eq]; omega) (fun t ht => (ra_102 hV ht).2)) (zrf_bef (ix_word (by omega) (by omega) (by omega) (by omega))) (zrf_m1 (ix_word (by omega) (by omega) (by omega) (by omega)) rfl) (tn_succ (by omega) (by omega))) | (exact Wn_put r_WN (zrf_oth (ix_word (by omega) (by omega) (by omega) (by omega)) (by rw [tn_eq]; omega) (fun t ht => (ra_102 hV ht).2)) (zrf_bef (ix_word (by omega) (by omega) (by omega) (by omega))) (zrf_nr rfl (by omega) (by assumption) (fun z => by first | exact absurd (Int32.lt_iff_toInt_lt.mp z.1) (by omega) | exact absurd z.2 (by assumption))) (tn_succ (by omega) (by omega))) | (exfalso; omega; done) | (exfalso; contradiction; done)) r_GW r_COs r_HOs r_WIs r_QIs r_TPb
        · skip
          have g60 := i_nle h47
          have hg61 : (0 ≤ l5 ∧ l5.toNatClampNeg < 3100) := i_ix (by omega) (by omega)
          refine ⟨hg61, ?_⟩
          have hg62 : (0 ≤ (m 101 l5.toNatClampNeg) ∧ (m 101 l5.toNatClampNeg).toNatClampNeg < 16) := i_ix (by omega) (by omega)
          refine ⟨hg62, ?_⟩
          have b63 := i_bd (((m 98 (m 101 l5.toNatClampNeg).toNatClampNeg) >>> (l6 &&& 31)) &&& (1 : Int32))
          have li64 : (1 : Int32).toInt = 1 := rfl
          refine zd (fun (h65 : (((m 98 (m 101 l5.toNatClampNeg).toNatClampNeg) >>> (l6 &&& 31)) &&& (1 : Int32)) = (1 : Int32)) => ?_) (fun (h65 : ¬ (((m 98 (m 101 l5.toNatClampNeg).toNatClampNeg) >>> (l6 &&& 31)) &&& (1 : Int32)) = (1 : Int32)) => ?_)
          · skip
            have g66 := i_eq h65
            have li67 : (60 : Int32).toInt = 60 := rfl
            first | have e68 : (l5 * (60 : Int32)).toInt = l5.toInt * 60 := i_mulk rfl (by omega) (by omega) | have b69 := i_bd (l5 * (60 : Int32))
            first | have e70 : ((l5 * (60 : Int32)) + l6).toInt = (l5 * (60 : Int32)).toInt + l6.toInt := i_add (by omega) (by omega) | have b71 := i_bd ((l5 * (60 : Int32)) + l6)
            have hg72 : (0 ≤ ((l5 * (60 : Int32)) + l6) ∧ ((l5 * (60 : Int32)) + l6).toNatClampNeg < 186000) := i_ix (by omega) (by omega)
            refine ⟨hg72, ?_⟩
            try have e21 : (l2 + (1 : Int32)).toInt = l2.toInt + 1 := i_addk rfl (by omega) (by omega)
            have hV73 : zV (ma_u m 108 ((l5 * (60 : Int32)) + l6).toNatClampNeg (-1 : Int32)) := ua_108 hV
            have b74 := i_bd l3
            have b75 := i_bd l4
            first | have e76 : (l6 + (1 : Int32)).toInt = l6.toInt + (1) := i_addk rfl (by omega) (by omega) | have b77 := i_bd (l6 + (1 : Int32))
            exact IH (61 - (l6 + (1 : Int32)).toInt).toNat (by omega) _ (l2) (l3) (l4) (l5) ((l6 + (1 : Int32))) rfl (zF_u hF rfl) hV73 (by omega) (by omega) (by omega) (by omega) (by omega) (by omega) (by omega) (by omega) (by omega) (by omega) (by omega) (show (m 94 10).toInt = 1 ∧ (m 94 58).toInt = 0 from by omega) (show (m 94 8).toInt = 1 from by omega) (show (m 94 46).toInt ≤ 511 from by omega) r_L2n r_L3r r_PLq (show (m 102 l5.toNatClampNeg).toInt = l2.toInt from by omega) r_USn r_GUp r_OW r_GG r_QIb (show qNs (m 99) (m 100) (m 98) (m 101) (m 102) (m 103) (m 107) ((ma_u m 108 ((l5 * (60 : Int32)) + l6).toNatClampNeg (-1 : Int32)) 108) (m 109) (m 111) (m 112) (m 113) (m 114) (m 94 55) (m 94 46) (m 94 11) 0 (m 94 59) 0 1 (lFt aa (nn + (1 : Int32)) l4) l5.toNatClampNeg (m 94 46) kk nn l4 from by first | (exact NS_h r_NS (fun _ _ => rfl) (fun _ _ => rfl) (fun t ht hne i hi => (zrf_oth (ix_word (by omega) (by omega) (by omega) (by omega)) (by rw [tn_eq]; omega) (fun t ht => (ra_102 hV ht).2)) t i hne ht hi)) | (exfalso; omega; done) | (exfalso; contradiction; done)) r_MGz r_MKb r_WTz r_BTS r_N6 (show zWn (m 94 7) (m 98) (m 101) (m 102) ((ma_u m 108 ((l5 * (60 : Int32)) + l6).toNatClampNeg (-1 : Int32)) 108) l5.toNatClampNeg (l6 + (1 : Int32)).toNatClampNeg from by first | (exact Wn_put r_WN (zrf_oth (ix_word (by omega) (by omega) (by omega) (by omega)) (by rw [tn_eq]; omega) (fun t ht => (ra_102 hV ht).2)) (zrf_bef (ix_word (by omega) (by omega) (by omega) (by omega))) (zrf_m1 (ix_word (by omega) (by omega) (by omega) (by omega)) rfl) (tn_succ (by omega) (by omega))) | (exact Wn_put r_WN (zrf_oth (ix_word (by omega) (by omega) (by omega) (by omega)) (by rw [tn_eq]; omega) (fun t ht => (ra_102 hV ht).2)) (zrf_bef (ix_word (by omega) (by omega) (by omega) (by omega))) (zrf_nr rfl (by omega) (by assumption) (fun z => by first | exact absurd (Int32.lt_iff_toInt_lt.mp z.1) (by omega) | exact absurd z.2 (by assumption))) (tn_succ (by omega) (by omega))) | (exfalso; omega; done) | (exfalso; contradiction; done)) r_GW r_COs r_HOs r_WIs r_QIs r_TPb
          · skip
            have g78 := i_ne h65
            have li79 : (60 : Int32).toInt = 60 := rfl
            first | have e80 : (l5 * (60 : Int32)).toInt = l5.toInt * 60 := i_mulk rfl (by omega) (by omega) | have b81 := i_bd (l5 * (60 : Int32))
            first | have e82 : ((l5 * (60 : Int32)) + l6).toInt = (l5 * (60 : Int32)).toInt + l6.toInt := i_add (by omega) (by omega) | have b83 := i_bd ((l5 * (60 : Int32)) + l6)
            have hg84 : (0 ≤ ((l5 * (60 : Int32)) + l6) ∧ ((l5 * (60 : Int32)) + l6).toNatClampNeg < 186000) := i_ix (by omega) (by omega)
            refine ⟨hg84, ?_⟩
            try have e21 : (l2 + (1 : Int32)).toInt = l2.toInt + 1 := i_addk rfl (by omega) (by omega)
            have hV85 : zV (ma_u m 108 ((l5 * (60 : Int32)) + l6).toNatClampNeg (0 : Int32)) := ua_108 hV
            have b86 := i_bd l3
            have b87 := i_bd l4
            first | have e88 : (l6 + (1 : Int32)).toInt = l6.toInt + (1) := i_addk rfl (by omega) (by omega) | have b89 := i_bd (l6 + (1 : Int32))
            exact IH (61 - (l6 + (1 : Int32)).toInt).toNat (by omega) _ (l2) (l3) (l4) (l5) ((l6 + (1 : Int32))) rfl (zF_u hF rfl) hV85 (by omega) (by omega) (by omega) (by omega) (by omega) (by omega) (by omega) (by omega) (by omega) (by omega) (by omega) (show (m 94 10).toInt = 1 ∧ (m 94 58).toInt = 0 from by omega) (show (m 94 8).toInt = 1 from by omega) (show (m 94 46).toInt ≤ 511 from by omega) r_L2n r_L3r r_PLq (show (m 102 l5.toNatClampNeg).toInt = l2.toInt from by omega) r_USn r_GUp r_OW r_GG r_QIb (show qNs (m 99) (m 100) (m 98) (m 101) (m 102) (m 103) (m 107) ((ma_u m 108 ((l5 * (60 : Int32)) + l6).toNatClampNeg (0 : Int32)) 108) (m 109) (m 111) (m 112) (m 113) (m 114) (m 94 55) (m 94 46) (m 94 11) 0 (m 94 59) 0 1 (lFt aa (nn + (1 : Int32)) l4) l5.toNatClampNeg (m 94 46) kk nn l4 from by first | (exact NS_h r_NS (fun _ _ => rfl) (fun _ _ => rfl) (fun t ht hne i hi => (zrf_oth (ix_word (by omega) (by omega) (by omega) (by omega)) (by rw [tn_eq]; omega) (fun t ht => (ra_102 hV ht).2)) t i hne ht hi)) | (exfalso; omega; done) | (exfalso; contradiction; done)) r_MGz r_MKb r_WTz r_BTS r_N6 (show zWn (m 94 7) (m 98) (m 101) (m 102) ((ma_u m 108 ((l5 * (60 : Int32)) + l6).toNatClampNeg (0 : Int32)) 108) l5.toNatClampNeg (l6 + (1 : Int32)).toNatClampNeg from by first | (exact Wn_put r_WN (zrf_oth (ix_word (by omega) (by omega) (by omega) (by omega)) (by rw [tn_eq]; omega) (fun t ht => (ra_102 hV ht).2)) (zrf_bef (ix_word (by omega) (by omega) (by omega) (by omega))) (zrf_m1 (ix_word (by omega) (by omega) (by omega) (by omega)) rfl) (tn_succ (by omega) (by omega))) | (exact Wn_put r_WN (zrf_oth (ix_word (by omega) (by omega) (by omega) (by omega)) (by rw [tn_eq]; omega) (fun t ht => (ra_102 hV ht).2)) (zrf_bef (ix_word (by omega) (by omega) (by omega) (by omega))) (zrf_nr rfl (by omega) (by assumption) (fun z => by first | exact absurd (Int32.lt_iff_toInt_lt.mp z.1) (by omega) | exact absurd z.2 (by assumption))) (tn_succ (by omega) (by omega))) | (exfalso; omega; done) | (exfalso; contradiction; done)) r_GW r_COs r_HOs r_WIs r_QIs r_TPb
set_option maxHeartbeats 8000000 in
theorem lp_183rl_123 {X : Nat × (Nat → Int32)} {P : Option ma_V → (Nat → Nat → Int32) → Prop} {T : Nat} {aa : Nat→Nat→Int32} {LL : Int64} {kk : Int32} {nn : Int32} {r1 : Int32} {m0 : Nat → Nat → Int32} (h0 : zV m0) (K : ∀ v m₉, zF wr_183 m0 m₉ → zV m₉ → (zW (m₉ 94 7) (m₉ 98) (m₉ 101) (m₉ 102) (m₉ 108)) → (zGW (T + 1) (m₉ 94 55) (m₉ 109)) → (zGU (T + 1) (m₉ 94 46) (m₉ 99)) → (zOw (m₉ 99) (m₉ 103) (m₉ 111)) → (zGG (m₉ 94 58) (m₉ 94 56) (m₉ 94 57) (m₉ 106)) → (qRB (m₉ 99) (m₉ 100) (m₉ 98) (m₉ 101) (m₉ 102) (m₉ 103) (m₉ 107) (m₉ 108) (m₉ 109) (m₉ 111) (m₉ 112) (m₉ 113) (m₉ 114) (m₉ 94 55) (m₉ 94 46) (m₉ 94 11) 0 (m₉ 94 59) 0 1 (lMk aa kk nn LL r1)) → (qI (lMk aa kk nn LL r1)) → (qMG (m₉ 94 58) (m₉ 106) (m₉ 115) (m₉ 94 57) (m₉ 94 56) (m₉ 99) (m₉ 100) (lMk aa kk nn LL r1)) → ((lMk aa kk nn LL r1) 87 8 = (m₉ 94 58)) → ((m₉ 94 45).toInt = sm (zbU (m₉ 99)) (m₉ 102) 3100) → ((m₉ 94 58).toInt = 0) → (v = lMn aa nn) → (qTp (lMk aa kk nn LL r1)) → P (some (.inl v)) m₉) : ∀ (n : Nat) (m : Nat → Nat → Int32) (l2 : Int32) (l3 : Int32) (l4 : Int32) (l5 : Int32), ((0 : Int)).toNat = n → zF wr_183 m0 m → zV m → (l2.toInt = nn.toInt) → (0 ≤ l2.toInt) → (l2.toInt ≤ 60) → (0 ≤ l3.toInt) → (l3.toInt ≤ 15) → (0 ≤ l4.toInt) → (l4.toInt ≤ 1500) → (0 ≤ l5.toInt) → (l5.toInt ≤ 3099) → (T + 1 ≤ 512) → ((m 94 10).toInt = 1 ∧ (m 94 58).toInt = 0) → ((m 94 8).toInt = 1) → ((m 94 46).toInt ≤ 511) → (l2 = nn) → (l3 = r1) → (qEq l4.toInt (lRp aa (nn + (1 : Int32)).toInt)) → ((m 102 l5.toNatClampNeg).toInt = l2.toInt) → ((m 99) l5.toNatClampNeg ≠ 0) → (zGUp T (m 94 46) (m 99)) → (zOw (m 99) (m 103) (m 111)) → (zGG (m 94 58) (m 94 56) (m 94 57) (m 106)) → (qI (lFt aa (nn + (1 : Int32)) l4)) → (qNs (m 99) (m 100) (m 98) (m 101) (m 102) (m 103) (m 107) (m 108) (m 109) (m 111) (m 112) (m 113) (m 114) (m 94 55) (m 94 46) (m 94 11) 0 (m 94 59) 0 1 (lFt aa (nn + (1 : Int32)) l4) l5.toNatClampNeg (m 94 46) kk nn l4) → (qMG (m 94 58) (m 106) (m 115) (m 94 57) (m 94 56) (zmk (m 99) l5.toNatClampNeg) (m 100) (lFt aa (nn + (1 : Int32)) l4)) → ((lFt aa (nn + (1 : Int32)) l4) 87 8 = (m 94 58)) → ((m 94 45).toInt = sm (zbU (zmk (m 99) l5.toNatClampNeg)) (m 102) 3100) → (∀ j : Nat, (j : Int) < nn.toInt → (zbit LL (Int32.ofNat j) ≠ 0 ↔ (kk = 16 ∨ (kk < 16 ∧ (((m 98) kk.toNatClampNeg >>> (Int32.ofNat j &&& 31)) &&& 1) = 1)))) → ((aa 69 6).toInt < 512) → (zWn (m 94 7) (m 98) (m 101) (m 102) (m 108) l5.toNatClampNeg (0 : Int32).toNatClampNeg) → (zGW T (m 94 55) (m 109)) → (qCo (m 94 58) (m 106) l5.toNatClampNeg) → (qI (lRs aa (nn + (1 : Int32)).toInt)) → (qTp (lRs aa (nn + (1 : Int32)).toInt)) → zm X 9 198 183 123 [(0, .inr (.inr (some 94))), (2, .inl l2), (3, .inl l3), (4, .inl l4), (5, .inl l5)] m P := by
  intro n
  induction n using Nat.strongRecOn with
  | _ n IH =>
    intro m l2 l3 l4 l5 hmu hF hV hi0 hi1 hi2 hi3 hi4 hi5 hi6 hi7 hi8 hi9 hi10 hi11 hi12 r_L2n r_L3r r_PLq hi16 r_USn r_GUp r_OW r_GG r_QIb r_NS r_MGz r_MKb r_WTz r_BTS r_N6 r_WN r_GW r_COs r_QIs r_TPb
    refine g_183_123 l2 l3 l4 l5 ?_
    have f1 : 0 ≤ (m 94 10).toInt ∧ (m 94 10).toInt ≤ 6 := rs_94_10 (m := m) hV
    have f2 : 0 ≤ (m 94 58).toInt ∧ (m 94 58).toInt ≤ 1 := rs_94_58 (m := m) hV
    have f3 : 0 ≤ (m 94 8).toInt ∧ (m 94 8).toInt ≤ 1 := rs_94_8 (m := m) hV
    have f4 : 0 ≤ (m 94 46).toInt ∧ (m 94 46).toInt ≤ 100000 := rs_94_46 (m := m) hV
    have b5 := i_bd l5
    first | have f6 : 0 ≤ (m 102 l5.toNatClampNeg).toInt ∧ (m 102 l5.toNatClampNeg).toInt ≤ 60 := ra_102 (m := m) hV (k := l5.toNatClampNeg) (i_ix (n := 3100) (by omega) (by omega)).2 | have b7 := i_bd (m 102 l5.toNatClampNeg)
    have hg8 : (0 ≤ l5 ∧ l5.toNatClampNeg < 3100) := i_ix (by omega) (by omega)
    refine ⟨hg8, ?_⟩
    have hg9 : (0 ≤ l5 ∧ l5.toNatClampNeg < 3100) := i_ix (by omega) (by omega)
    refine ⟨hg9, ?_⟩
    try have e21 : (l2 + (1 : Int32)).toInt = l2.toInt + 1 := i_addk rfl (by omega) (by omega)
    have hV10 : zV (ma_u m 107 l5.toNatClampNeg (0 : Int32)) := ua_107 hV
    have li12 : (0 : Int32).toInt = 0 := rfl
    have hV11 : zV (ma_u (ma_u m 107 l5.toNatClampNeg (0 : Int32)) 109 l5.toNatClampNeg (0 : Int32)) := ua_109 hV10 (by omega) (by omega)
    have b13 := i_bd l2
    have b14 := i_bd l3
    have b15 := i_bd l4
    exact lp_183rl_142 (kk := kk) (nn := nn) (r1 := r1) h0 K _ _ (l2) (l3) (l4) (l5) ((0 : Int32)) rfl (zF_u (zF_u hF rfl) rfl) hV11 (by omega) (by omega) (by omega) (by omega) (by omega) (by omega) (by omega) (by omega) (by omega) (by omega) (by omega) (show (m 94 10).toInt = 1 ∧ (m 94 58).toInt = 0 from by omega) (show (m 94 8).toInt = 1 from by omega) (show (m 94 46).toInt ≤ 511 from by omega) r_L2n r_L3r r_PLq (show (m 102 l5.toNatClampNeg).toInt = l2.toInt from by omega) r_USn r_GUp r_OW r_GG r_QIb (show qNs (m 99) (m 100) (m 98) (m 101) (m 102) (m 103) ((ma_u m 107 l5.toNatClampNeg (0 : Int32)) 107) (m 108) ((ma_u m 109 l5.toNatClampNeg (0 : Int32)) 109) (m 111) (m 112) (m 113) (m 114) (m 94 55) (m 94 46) (m 94 11) 0 (m 94 59) 0 1 (lFt aa (nn + (1 : Int32)) l4) l5.toNatClampNeg (m 94 46) kk nn l4 from by first | (exact NS_h r_NS (fun t ht => mu_ne ht) (fun t ht => mu_ne ht) (fun _ _ _ _ _ => rfl)) | (exfalso; omega; done) | (exfalso; contradiction; done)) r_MGz r_MKb r_WTz r_BTS r_N6 r_WN (show zGW (T + 1) (m 94 55) ((ma_u m 109 l5.toNatClampNeg (0 : Int32)) 109) from by first | (exact GW_up (GW_0 r_GW) (by omega)) | (exfalso; omega; done) | (exfalso; contradiction; done)) r_COs (show ((ma_u m 107 l5.toNatClampNeg (0 : Int32)) 107) l5.toNatClampNeg = 0 from by first | (exact mu_self) | (exfalso; omega; done) | (exfalso; contradiction; done)) (show ((ma_u m 109 l5.toNatClampNeg (0 : Int32)) 109) l5.toNatClampNeg = 0 from by first | (exact mu_self) | (exfalso; omega; done) | (exfalso; contradiction; done)) r_QIs r_TPb
set_option maxHeartbeats 8000000 in
theorem lp_183rl_88 {X : Nat × (Nat → Int32)} {P : Option ma_V → (Nat → Nat → Int32) → Prop} {T : Nat} {aa : Nat→Nat→Int32} {LL : Int64} {kk : Int32} {nn : Int32} {r1 : Int32} {m0 : Nat → Nat → Int32} (h0 : zV m0) (K : ∀ v m₉, zF wr_183 m0 m₉ → zV m₉ → (zW (m₉ 94 7) (m₉ 98) (m₉ 101) (m₉ 102) (m₉ 108)) → (zGW (T + 1) (m₉ 94 55) (m₉ 109)) → (zGU (T + 1) (m₉ 94 46) (m₉ 99)) → (zOw (m₉ 99) (m₉ 103) (m₉ 111)) → (zGG (m₉ 94 58) (m₉ 94 56) (m₉ 94 57) (m₉ 106)) → (qRB (m₉ 99) (m₉ 100) (m₉ 98) (m₉ 101) (m₉ 102) (m₉ 103) (m₉ 107) (m₉ 108) (m₉ 109) (m₉ 111) (m₉ 112) (m₉ 113) (m₉ 114) (m₉ 94 55) (m₉ 94 46) (m₉ 94 11) 0 (m₉ 94 59) 0 1 (lMk aa kk nn LL r1)) → (qI (lMk aa kk nn LL r1)) → (qMG (m₉ 94 58) (m₉ 106) (m₉ 115) (m₉ 94 57) (m₉ 94 56) (m₉ 99) (m₉ 100) (lMk aa kk nn LL r1)) → ((lMk aa kk nn LL r1) 87 8 = (m₉ 94 58)) → ((m₉ 94 45).toInt = sm (zbU (m₉ 99)) (m₉ 102) 3100) → ((m₉ 94 58).toInt = 0) → (v = lMn aa nn) → (qTp (lMk aa kk nn LL r1)) → P (some (.inl v)) m₉) : ∀ (n : Nat) (m : Nat → Nat → Int32) (l2 : Int32) (l3 : Int32) (l4 : Int32) (l5 : Int32), ((0 : Int)).toNat = n → zF wr_183 m0 m → zV m → (l2.toInt = nn.toInt) → (0 ≤ l2.toInt) → (l2.toInt ≤ 60) → (0 ≤ l3.toInt) → (l3.toInt ≤ 15) → (0 ≤ l4.toInt) → (l4.toInt ≤ 1500) → (0 ≤ l5.toInt) → (l5.toInt ≤ 3099) → (T + 1 ≤ 512) → ((m 94 10).toInt = 1 ∧ (m 94 58).toInt = 0) → ((m 94 8).toInt = 1) → ((m 94 46).toInt ≤ 511) → (l2 = nn) → (l3 = r1) → (qEq l4.toInt (lRp aa (nn + (1 : Int32)).toInt)) → ((m 102 l5.toNatClampNeg).toInt = l2.toInt) → ((m 99) l5.toNatClampNeg ≠ 0) → (zGUp T (m 94 46) (m 99)) → (zOw (m 99) (m 103) (m 111)) → (zGG (m 94 58) (m 94 56) (m 94 57) (m 106)) → (qI (lFt aa (nn + (1 : Int32)) l4)) → (qNs (m 99) (m 100) (m 98) (m 101) (m 102) (m 103) (m 107) (m 108) (m 109) (m 111) (m 112) (m 113) (m 114) (m 94 55) (m 94 46) (m 94 11) 0 (m 94 59) 0 1 (lFt aa (nn + (1 : Int32)) l4) l5.toNatClampNeg (m 94 46) kk nn l4) → (qMG (m 94 58) (m 106) (m 115) (m 94 57) (m 94 56) (zmk (m 99) l5.toNatClampNeg) (m 100) (lFt aa (nn + (1 : Int32)) l4)) → ((lFt aa (nn + (1 : Int32)) l4) 87 8 = (m 94 58)) → ((m 94 45).toInt = sm (zbU (zmk (m 99) l5.toNatClampNeg)) (m 102) 3100) → (∀ j : Nat, (j : Int) < nn.toInt → (zbit LL (Int32.ofNat j) ≠ 0 ↔ (kk = 16 ∨ (kk < 16 ∧ (((m 98) kk.toNatClampNeg >>> (Int32.ofNat j &&& 31)) &&& 1) = 1)))) → ((aa 69 6).toInt < 512) → (zWn (m 94 7) (m 98) (m 101) (m 102) (m 108) l5.toNatClampNeg (0 : Int32).toNatClampNeg) → (zGW T (m 94 55) (m 109)) → (qI (lRs aa (nn + (1 : Int32)).toInt)) → (qTp (lRs aa (nn + (1 : Int32)).toInt)) → zm X 9 198 183 88 [(0, .inr (.inr (some 94))), (2, .inl l2), (3, .inl l3), (4, .inl l4), (5, .inl l5)] m P := by
  intro n
  induction n using Nat.strongRecOn with
  | _ n IH =>
    intro m l2 l3 l4 l5 hmu hF hV hi0 hi1 hi2 hi3 hi4 hi5 hi6 hi7 hi8 hi9 hi10 hi11 hi12 r_L2n r_L3r r_PLq hi16 r_USn r_GUp r_OW r_GG r_QIb r_NS r_MGz r_MKb r_WTz r_BTS r_N6 r_WN r_GW r_QIs r_TPb
    refine g_183_88 l2 l3 l4 l5 ?_
    have f1 : 0 ≤ (m 94 10).toInt ∧ (m 94 10).toInt ≤ 6 := rs_94_10 (m := m) hV
    have f2 : 0 ≤ (m 94 58).toInt ∧ (m 94 58).toInt ≤ 1 := rs_94_58 (m := m) hV
    have f3 : 0 ≤ (m 94 8).toInt ∧ (m 94 8).toInt ≤ 1 := rs_94_8 (m := m) hV
    have f4 : 0 ≤ (m 94 46).toInt ∧ (m 94 46).toInt ≤ 100000 := rs_94_46 (m := m) hV
    have b5 := i_bd l5
    first | have f6 : 0 ≤ (m 102 l5.toNatClampNeg).toInt ∧ (m 102 l5.toNatClampNeg).toInt ≤ 60 := ra_102 (m := m) hV (k := l5.toNatClampNeg) (i_ix (n := 3100) (by omega) (by omega)).2 | have b7 := i_bd (m 102 l5.toNatClampNeg)
    have hg8 : (0 ≤ l5 ∧ l5.toNatClampNeg < 3100) := i_ix (by omega) (by omega)
    refine ⟨hg8, ?_⟩
    have hg9 : (0 ≤ l5 ∧ l5.toNatClampNeg < 3100) := i_ix (by omega) (by omega)
    refine ⟨hg9, ?_⟩
    have li10 : (0 : Int32).toInt = 0 := rfl
    refine zd (fun (h11 : (m 94 58) = (0 : Int32)) => ?_) (fun (h11 : ¬ (m 94 58) = (0 : Int32)) => ?_)
    · skip
      have g12 := i_eq h11
      have hg13 : (0 ≤ l5 ∧ l5.toNatClampNeg < 3100) := i_ix (by omega) (by omega)
      refine ⟨hg13, ?_⟩
      try have e21 : (l2 + (1 : Int32)).toInt = l2.toInt + 1 := i_addk rfl (by omega) (by omega)
      have hV14 : zV (ma_u m 104 l5.toNatClampNeg (0 : Int32)) := ua_104 hV
      have hV15 : zV (ma_u (ma_u m 104 l5.toNatClampNeg (0 : Int32)) 105 l5.toNatClampNeg (0 : Int32)) := ua_105 hV14
      have hV16 : zV (ma_u (ma_u (ma_u m 104 l5.toNatClampNeg (0 : Int32)) 105 l5.toNatClampNeg (0 : Int32)) 106 l5.toNatClampNeg (0 : Int32)) := ua_106 hV15
      have b17 := i_bd l2
      have b18 := i_bd l3
      have b19 := i_bd l4
      exact lp_183rl_123 (kk := kk) (nn := nn) (r1 := r1) h0 K _ _ (l2) (l3) (l4) (l5) rfl (zF_u (zF_u (zF_u hF rfl) rfl) rfl) hV16 (by omega) (by omega) (by omega) (by omega) (by omega) (by omega) (by omega) (by omega) (by omega) (by omega) (show (m 94 10).toInt = 1 ∧ (m 94 58).toInt = 0 from by omega) (show (m 94 8).toInt = 1 from by omega) (show (m 94 46).toInt ≤ 511 from by omega) r_L2n r_L3r r_PLq (show (m 102 l5.toNatClampNeg).toInt = l2.toInt from by omega) r_USn r_GUp r_OW (show zGG (m 94 58) (m 94 56) (m 94 57) ((ma_u m 106 l5.toNatClampNeg (0 : Int32)) 106) from by first | (exact fun z => G1_dark0 (r_GG z) (by decide)) | (exact fun z => absurd z (by omega)) | (exact fun z => absurd z (by decide)) | (exact fun z => absurd z (by omega)) | (exfalso; omega; done) | (exfalso; contradiction; done)) r_QIb r_NS (show qMG (m 94 58) ((ma_u m 106 l5.toNatClampNeg (0 : Int32)) 106) (m 115) (m 94 57) (m 94 56) (zmk (m 99) l5.toNatClampNeg) (m 100) (lFt aa (nn + (1 : Int32)) l4) from by first | (exact MG_1 r_MGz (fun t ht => mu_ne ht)) | (exfalso; omega; done) | (exfalso; contradiction; done)) r_MKb r_WTz r_BTS r_N6 r_WN r_GW (show qCo (m 94 58) ((ma_u m 106 l5.toNatClampNeg (0 : Int32)) 106) l5.toNatClampNeg from by first | (exact fun z => absurd (by omega) z) | (exact fun _ => mu_self) | (exfalso; omega; done) | (exfalso; contradiction; done)) r_QIs r_TPb
    · skip
      have g20 := i_ne h11
      have hg21 : (0 ≤ l5 ∧ l5.toNatClampNeg < 3100) := i_ix (by omega) (by omega)
      refine ⟨hg21, ?_⟩
      try have e21 : (l2 + (1 : Int32)).toInt = l2.toInt + 1 := i_addk rfl (by omega) (by omega)
      have hV22 : zV (ma_u m 104 l5.toNatClampNeg (0 : Int32)) := ua_104 hV
      have hV23 : zV (ma_u (ma_u m 104 l5.toNatClampNeg (0 : Int32)) 105 l5.toNatClampNeg (0 : Int32)) := ua_105 hV22
      have hV24 : zV (ma_u (ma_u (ma_u m 104 l5.toNatClampNeg (0 : Int32)) 105 l5.toNatClampNeg (0 : Int32)) 106 l5.toNatClampNeg (2 : Int32)) := ua_106 hV23
      have b25 := i_bd l2
      have b26 := i_bd l3
      have b27 := i_bd l4
      exact lp_183rl_123 (kk := kk) (nn := nn) (r1 := r1) h0 K _ _ (l2) (l3) (l4) (l5) rfl (zF_u (zF_u (zF_u hF rfl) rfl) rfl) hV24 (by omega) (by omega) (by omega) (by omega) (by omega) (by omega) (by omega) (by omega) (by omega) (by omega) (show (m 94 10).toInt = 1 ∧ (m 94 58).toInt = 0 from by omega) (show (m 94 8).toInt = 1 from by omega) (show (m 94 46).toInt ≤ 511 from by omega) r_L2n r_L3r r_PLq (show (m 102 l5.toNatClampNeg).toInt = l2.toInt from by omega) r_USn r_GUp r_OW (show zGG (m 94 58) (m 94 56) (m 94 57) ((ma_u m 106 l5.toNatClampNeg (2 : Int32)) 106) from by first | (exact fun z => G1_dark0 (r_GG z) (by decide)) | (exact fun z => absurd z (by omega)) | (exact fun z => absurd z (by decide)) | (exact fun z => absurd z (by omega)) | (exfalso; omega; done) | (exfalso; contradiction; done)) r_QIb r_NS (show qMG (m 94 58) ((ma_u m 106 l5.toNatClampNeg (2 : Int32)) 106) (m 115) (m 94 57) (m 94 56) (zmk (m 99) l5.toNatClampNeg) (m 100) (lFt aa (nn + (1 : Int32)) l4) from by first | (exact MG_1 r_MGz (fun t ht => mu_ne ht)) | (exfalso; omega; done) | (exfalso; contradiction; done)) r_MKb r_WTz r_BTS r_N6 r_WN r_GW (show qCo (m 94 58) ((ma_u m 106 l5.toNatClampNeg (2 : Int32)) 106) l5.toNatClampNeg from by first | (exact fun z => absurd (by omega) z) | (exact fun _ => mu_self) | (exfalso; omega; done) | (exfalso; contradiction; done)) r_QIs r_TPb
set_option maxHeartbeats 8000000 in
theorem lp_183rl_19 {X : Nat × (Nat → Int32)} {P : Option ma_V → (Nat → Nat → Int32) → Prop} {T : Nat} {aa : Nat→Nat→Int32} {LL : Int64} {kk : Int32} {nn : Int32} {r1 : Int32} {m0 : Nat → Nat → Int32} (h0 : zV m0) (K : ∀ v m₉, zF wr_183 m0 m₉ → zV m₉ → (zW (m₉ 94 7) (m₉ 98) (m₉ 101) (m₉ 102) (m₉ 108)) → (zGW (T + 1) (m₉ 94 55) (m₉ 109)) → (zGU (T + 1) (m₉ 94 46) (m₉ 99)) → (zOw (m₉ 99) (m₉ 103) (m₉ 111)) → (zGG (m₉ 94 58) (m₉ 94 56) (m₉ 94 57) (m₉ 106)) → (qRB (m₉ 99) (m₉ 100) (m₉ 98) (m₉ 101) (m₉ 102) (m₉ 103) (m₉ 107) (m₉ 108) (m₉ 109) (m₉ 111) (m₉ 112) (m₉ 113) (m₉ 114) (m₉ 94 55) (m₉ 94 46) (m₉ 94 11) 0 (m₉ 94 59) 0 1 (lMk aa kk nn LL r1)) → (qI (lMk aa kk nn LL r1)) → (qMG (m₉ 94 58) (m₉ 106) (m₉ 115) (m₉ 94 57) (m₉ 94 56) (m₉ 99) (m₉ 100) (lMk aa kk nn LL r1)) → ((lMk aa kk nn LL r1) 87 8 = (m₉ 94 58)) → ((m₉ 94 45).toInt = sm (zbU (m₉ 99)) (m₉ 102) 3100) → ((m₉ 94 58).toInt = 0) → (v = lMn aa nn) → (qTp (lMk aa kk nn LL r1)) → P (some (.inl v)) m₉) : ∀ (n : Nat) (m : Nat → Nat → Int32) (l1 : Int32) (l2 : Int32) (l3 : Int32) (l4 : Int32) (l5 : Int32), (3100 - l5.toInt).toNat = n → zF wr_183 m0 m → zV m → (l2.toInt = nn.toInt) → (0 ≤ l5.toInt) → (l5.toInt ≤ 3100) → (0 ≤ l4.toInt) → (l4.toInt ≤ 1500) → (0 ≤ l2.toInt) → (l2.toInt ≤ 60) → (0 ≤ l3.toInt) → (l3.toInt ≤ 15) → (0 ≤ l1.toInt) → (l1.toInt ≤ 17) → (T + 1 ≤ 512) → (16 ≤ l1.toInt ∨ l1.toInt < (m 94 7).toInt) → (zW (m 94 7) (m 98) (m 101) (m 102) (m 108)) → (zGW T (m 94 55) (m 109)) → (zGU T (m 94 46) (m 99)) → (zOw (m 99) (m 103) (m 111)) → (zGG (m 94 58) (m 94 56) (m 94 57) (m 106)) → ((m 94 10).toInt = 1 ∧ (m 94 58).toInt = 0) → ((m 94 8).toInt = 1) → (qRB (m 99) (m 100) (m 98) (m 101) (m 102) (m 103) (m 107) (m 108) (m 109) (m 111) (m 112) (m 113) (m 114) (m 94 55) (m 94 46) (m 94 11) 0 (m 94 59) 0 1 (lFt aa (nn + (1 : Int32)) l4)) → (qI (lFt aa (nn + (1 : Int32)) l4)) → (qMG (m 94 58) (m 106) (m 115) (m 94 57) (m 94 56) (m 99) (m 100) (lFt aa (nn + (1 : Int32)) l4)) → ((lFt aa (nn + (1 : Int32)) l4) 87 8 = (m 94 58)) → ((m 94 45).toInt = sm (zbU (m 99)) (m 102) 3100) → (∀ j : Nat, (j : Int) < l5.toInt → (m 99) j ≠ 0) → (l1 = kk) → (l2 = nn) → (l3 = r1) → (qEq l4.toInt (lRp aa (nn + (1 : Int32)).toInt)) → (∀ j : Nat, (j : Int) < nn.toInt → (zbit LL (Int32.ofNat j) ≠ 0 ↔ (kk = 16 ∨ (kk < 16 ∧ (((m 98) kk.toNatClampNeg >>> (Int32.ofNat j &&& 31)) &&& 1) = 1)))) → ((aa 69 6).toInt < 512) → (qI (lRs aa (nn + (1 : Int32)).toInt)) → (qTp (lRs aa (nn + (1 : Int32)).toInt)) → zm X 9 198 183 19 [(0, .inr (.inr (some 94))), (1, .inl l1), (2, .inl l2), (3, .inl l3), (4, .inl l4), (5, .inl l5)] m P := by
  intro n
  induction n using Nat.strongRecOn with
  | _ n IH =>
    intro m l1 l2 l3 l4 l5 hmu hF hV hi0 hi1 hi2 hi3 hi4 hi5 hi6 hi7 hi8 hi9 hi10 hi11 hi12 r_W r_GW r_GU r_OW r_GG hi18 hi19 r_RB r_QI r_MG r_MK r_WTS r_AU r_L1k r_L2n r_L3r r_PLq r_BTS r_N6 r_QIs r_TPb
    refine g_183_19 l1 l2 l3 l4 l5 ?_
    have f1 : 0 ≤ (m 94 7).toInt ∧ (m 94 7).toInt ≤ 16 := rs_94_7 (m := m) hV
    have f2 : 0 ≤ (m 94 10).toInt ∧ (m 94 10).toInt ≤ 6 := rs_94_10 (m := m) hV
    have f3 : 0 ≤ (m 94 58).toInt ∧ (m 94 58).toInt ≤ 1 := rs_94_58 (m := m) hV
    have f4 : 0 ≤ (m 94 8).toInt ∧ (m 94 8).toInt ≤ 1 := rs_94_8 (m := m) hV
    have b5 := i_bd l5
    try have gk := AU_room r_AU r_GU (by omega)
    have hg6 : (0 ≤ l5 ∧ l5.toNatClampNeg < 3100) := i_ix (by omega) (by omega)
    refine ⟨hg6, ?_⟩
    first | have f7 : 0 ≤ (m 99 l5.toNatClampNeg).toInt ∧ (m 99 l5.toNatClampNeg).toInt ≤ 1 := ra_99 (m := m) hV (k := l5.toNatClampNeg) (i_ix (n := 3100) (by omega) (by omega)).2 | have b8 := i_bd (m 99 l5.toNatClampNeg)
    have li9 : (0 : Int32).toInt = 0 := rfl
    refine zd (fun (h10 : (m 99 l5.toNatClampNeg) = (0 : Int32)) => ?_) (fun (h10 : ¬ (m 99 l5.toNatClampNeg) = (0 : Int32)) => ?_)
    · skip
      have g11 := i_eq h10
      try have gk := AU_room r_AU r_GU (by omega)
      have hg12 : (0 ≤ l5 ∧ l5.toNatClampNeg < 3100) := i_ix (by omega) (by omega)
      refine ⟨hg12, ?_⟩
      have hg13 : (0 ≤ l5 ∧ l5.toNatClampNeg < 3100) := i_ix (by omega) (by omega)
      refine ⟨hg13, ?_⟩
      have hg14 : (0 ≤ l5 ∧ l5.toNatClampNeg < 3100) := i_ix (by omega) (by omega)
      refine ⟨hg14, ?_⟩
      have hg15 : (0 ≤ l5 ∧ l5.toNatClampNeg < 3100) := i_ix (by omega) (by omega)
      refine ⟨hg15, ?_⟩
      have hg16 : (0 ≤ l5 ∧ l5.toNatClampNeg < 3100) := i_ix (by omega) (by omega)
      refine ⟨hg16, ?_⟩
      have b17 := i_bd l4
      have hg18 : (0 ≤ l4 ∧ l4.toNatClampNeg < 4600) := i_ix (by omega) (by omega)
      refine ⟨hg18, ?_⟩
      try have gk := AU_room r_AU r_GU (by omega)
      try have e21 : (l2 + (1 : Int32)).toInt = l2.toInt + 1 := i_addk rfl (by omega) (by omega)
      try have gun := GU_nu r_GU
      have li20 : (1 : Int32).toInt = 1 := rfl
      have hV19 : zV (ma_u m 99 l5.toNatClampNeg (1 : Int32)) := ua_99 hV (by omega) (by omega)
      have f22 : 0 ≤ (m 94 46).toInt ∧ (m 94 46).toInt ≤ 100000 := rs_94_46 (m := m) hV
      have hV21 : zV (ma_u (ma_u m 99 l5.toNatClampNeg (1 : Int32)) 100 l5.toNatClampNeg (m 94 46)) := ua_100 hV19 (by omega) (by omega)
      have b24 := i_bd l1
      have hV23 : zV (ma_u (ma_u (ma_u m 99 l5.toNatClampNeg (1 : Int32)) 100 l5.toNatClampNeg (m 94 46)) 101 l5.toNatClampNeg l1) := ua_101 hV21 (by omega) (by omega)
      have b26 := i_bd l2
      have hV25 : zV (ma_u (ma_u (ma_u (ma_u m 99 l5.toNatClampNeg (1 : Int32)) 100 l5.toNatClampNeg (m 94 46)) 101 l5.toNatClampNeg l1) 102 l5.toNatClampNeg l2) := ua_102 hV23 (by omega) (by omega)
      have hV27 : zV (ma_u (ma_u (ma_u (ma_u (ma_u m 99 l5.toNatClampNeg (1 : Int32)) 100 l5.toNatClampNeg (m 94 46)) 101 l5.toNatClampNeg l1) 102 l5.toNatClampNeg l2) 103 l5.toNatClampNeg l4) := ua_103 hV25 (by omega) (by omega)
      have hV28 : zV (ma_u (ma_u (ma_u (ma_u (ma_u (ma_u m 99 l5.toNatClampNeg (1 : Int32)) 100 l5.toNatClampNeg (m 94 46)) 101 l5.toNatClampNeg l1) 102 l5.toNatClampNeg l2) 103 l5.toNatClampNeg l4) 111 l4.toNatClampNeg l5) := ua_111 hV27 (by omega) (by omega)
      have b29 := i_bd l3
      have q30 : ((ma_u m 102 l5.toNatClampNeg l2) 102 l5.toNatClampNeg).toInt = l2.toInt := congrArg Int32.toInt mu_self
      first | have f31 : 0 ≤ ((ma_u m 102 l5.toNatClampNeg l2) 102 l5.toNatClampNeg).toInt ∧ ((ma_u m 102 l5.toNatClampNeg l2) 102 l5.toNatClampNeg).toInt ≤ 60 := ra_102 (m := (ma_u (ma_u (ma_u (ma_u m 99 l5.toNatClampNeg (1 : Int32)) 100 l5.toNatClampNeg (m 94 46)) 101 l5.toNatClampNeg l1) 102 l5.toNatClampNeg l2)) hV25 (k := l5.toNatClampNeg) (i_ix (n := 3100) (by omega) (by omega)).2 | have b32 := i_bd ((ma_u m 102 l5.toNatClampNeg l2) 102 l5.toNatClampNeg)
      exact lp_183rl_88 (kk := kk) (nn := nn) (r1 := r1) h0 K _ _ (l2) (l3) (l4) (l5) rfl (zF_u (zF_u (zF_u (zF_u (zF_u (zF_u hF rfl) rfl) rfl) rfl) rfl) rfl) hV28 (by omega) (by omega) (by omega) (by omega) (by omega) (by omega) (by omega) (by omega) (by omega) (by omega) (show (m 94 10).toInt = 1 ∧ (m 94 58).toInt = 0 from by omega) (show (m 94 8).toInt = 1 from by omega) (show (m 94 46).toInt ≤ 511 from by omega) r_L2n r_L3r r_PLq (show ((ma_u m 102 l5.toNatClampNeg l2) 102 l5.toNatClampNeg).toInt = l2.toInt from by omega) (show ((ma_u m 99 l5.toNatClampNeg (1 : Int32)) 99) l5.toNatClampNeg ≠ 0 from by first | (rw [mu_self]; decide; done) | (exfalso; omega; done) | (exfalso; contradiction; done)) (show zGUp T (m 94 46) ((ma_u m 99 l5.toNatClampNeg (1 : Int32)) 99) from by first | (exact GUp_0 r_GU (by omega)) | (exfalso; omega; done) | (exfalso; contradiction; done)) (show zOw ((ma_u m 99 l5.toNatClampNeg (1 : Int32)) 99) ((ma_u m 103 l5.toNatClampNeg l4) 103) ((ma_u m 111 l4.toNatClampNeg l5) 111) from by first | (exact Ow_new r_OW (by assumption) (fun t ht => mu_ne ht) (by rw [mu_self]; decide) (fun t ht => mu_ne ht) mu_self (by omega) (fun t ht => mu_ne ht) (by rw [mu_self])) | (exact Ow_rm r_OW (by decide) (tn_cast (by omega)).symm) | (exfalso; omega; done) | (exfalso; contradiction; done)) r_GG (show qI (lFt aa (nn + (1 : Int32)) l4) from by first | (exact r_QI) | (exfalso; omega; done) | (exfalso; contradiction; done)) (show qNs ((ma_u m 99 l5.toNatClampNeg (1 : Int32)) 99) ((ma_u m 100 l5.toNatClampNeg (m 94 46)) 100) (m 98) ((ma_u m 101 l5.toNatClampNeg l1) 101) ((ma_u m 102 l5.toNatClampNeg l2) 102) ((ma_u m 103 l5.toNatClampNeg l4) 103) (m 107) (m 108) (m 109) ((ma_u m 111 l4.toNatClampNeg l5) 111) (m 112) (m 113) (m 114) (m 94 55) (m 94 46) (m 94 11) 0 (m 94 59) 0 1 (lFt aa (nn + (1 : Int32)) l4) l5.toNatClampNeg (m 94 46) kk nn l4 from by first | (exact NS_0 r_RB r_QI (z := nn.toInt + 1) (by omega) (Ne_l r_QI r_TPb r_QIs r_PLq (by omega) (by omega) (by omega) r_RB.2.2.2.2.2.2.2.1 (by have gun := GU_nu r_GU; omega)).2.2.2.2 (by assumption) (by rw [mu_self]; decide) (fun t ht => mu_ne ht) mu_self (fun t ht => mu_ne ht) (mu_self.trans r_L1k) (fun t ht => mu_ne ht) (mu_self.trans r_L2n) (fun t ht => mu_ne ht) mu_self (fun t ht => mu_ne ht) (mu_self.trans (ofN_tn (by omega)).symm) (fun t ht => mu_ne ht)) | (exfalso; omega; done) | (exfalso; contradiction; done)) (show qMG (m 94 58) (m 106) (m 115) (m 94 57) (m 94 56) (zmk ((ma_u m 99 l5.toNatClampNeg (1 : Int32)) 99) l5.toNatClampNeg) ((ma_u m 100 l5.toNatClampNeg (m 94 46)) 100) (lFt aa (nn + (1 : Int32)) l4) from by first | (exact MG_0 r_MG (by assumption) (fun t ht => mu_ne ht) (fun t ht => mu_ne ht) (fun _ _ => rfl)) | (exfalso; omega; done) | (exfalso; contradiction; done)) (show (lFt aa (nn + (1 : Int32)) l4) 87 8 = (m 94 58) from by first | (exact r_MK) | (exfalso; omega; done) | (exfalso; contradiction; done)) (show (m 94 45).toInt = sm (zbU (zmk ((ma_u m 99 l5.toNatClampNeg (1 : Int32)) 99) l5.toNatClampNeg)) ((ma_u m 102 l5.toNatClampNeg l2) 102) 3100 from by first | (exact WT_0 r_WTS (by assumption) (fun t ht => mu_ne ht) (fun t ht => mu_ne ht)) | (exfalso; omega; done) | (exfalso; contradiction; done)) r_BTS r_N6 (show zWn (m 94 7) (m 98) ((ma_u m 101 l5.toNatClampNeg l1) 101) ((ma_u m 102 l5.toNatClampNeg l2) 102) (m 108) l5.toNatClampNeg (0 : Int32).toNatClampNeg from by first | (exact Wn_0 r_W (fun t ht => mu_ne ht) (fun t ht => mu_ne ht) (by rw [mu_self]; assumption) rfl) | (exfalso; omega; done) | (exfalso; contradiction; done)) r_GW r_QIs r_TPb
    · skip
      have g33 := i_ne h10
      try have gk := AU_room r_AU r_GU (by omega)
      try have e21 : (l2 + (1 : Int32)).toInt = l2.toInt + 1 := i_addk rfl (by omega) (by omega)
      try have gun := GU_nu r_GU
      have b34 := i_bd l1
      have b35 := i_bd l2
      have b36 := i_bd l3
      have b37 := i_bd l4
      first | have e38 : (l5 + (1 : Int32)).toInt = l5.toInt + (1) := i_addk rfl (by omega) (by omega) | have b39 := i_bd (l5 + (1 : Int32))
      exact IH (3100 - (l5 + (1 : Int32)).toInt).toNat (by omega) _ (l1) (l2) (l3) (l4) ((l5 + (1 : Int32))) rfl hF hV (by omega) (by omega) (by omega) (by omega) (by omega) (by omega) (by omega) (by omega) (by omega) (by omega) (by omega) (by omega) (show 16 ≤ l1.toInt ∨ l1.toInt < (m 94 7).toInt from by omega) r_W r_GW r_GU r_OW r_GG (show (m 94 10).toInt = 1 ∧ (m 94 58).toInt = 0 from by omega) (show (m 94 8).toInt = 1 from by omega) r_RB r_QI r_MG r_MK r_WTS (show ∀ j : Nat, (j : Int) < (l5 + (1 : Int32)).toInt → (m 99) j ≠ 0 from by first | (exact AU_step r_AU (by omega) (by assumption) (by omega)) | (exfalso; omega; done) | (exfalso; contradiction; done)) r_L1k r_L2n r_L3r r_PLq r_BTS r_N6 r_QIs r_TPb
set_option maxHeartbeats 8000000 in
theorem sp_183rl {X : Nat × (Nat → Int32)} {P : Option ma_V → (Nat → Nat → Int32) → Prop} {T : Nat} {aa : Nat→Nat→Int32} {LL : Int64} {m : Nat → Nat → Int32} (kk : Int32) (nn : Int32) (r1 : Int32) (hV : zV m) (hpre0 : 0 ≤ nn.toInt) (hpre1 : nn.toInt ≤ 60) (hpre2 : 0 ≤ r1.toInt) (hpre3 : r1.toInt ≤ 15) (hpre4 : 0 ≤ kk.toInt) (hpre5 : kk.toInt ≤ 17) (hpre6 : T + 1 ≤ 512) (hpre7 : 16 ≤ kk.toInt ∨ kk.toInt < (m 94 7).toInt) (hpre8 : T ≤ 512) (r_W : zW (m 94 7) (m 98) (m 101) (m 102) (m 108)) (r_GW : zGW T (m 94 55) (m 109)) (r_GU : zGU T (m 94 46) (m 99)) (r_OW : zOw (m 99) (m 103) (m 111)) (r_GG : zGG (m 94 58) (m 94 56) (m 94 57) (m 106)) (hpre14 : (m 94 10).toInt = 1 ∧ (m 94 58).toInt = 0) (hpre15 : (m 94 8).toInt = 1) (r_RB : qRB (m 99) (m 100) (m 98) (m 101) (m 102) (m 103) (m 107) (m 108) (m 109) (m 111) (m 112) (m 113) (m 114) (m 94 55) (m 94 46) (m 94 11) 0 (m 94 59) 0 1 aa) (r_QI : qI aa) (r_TP : qTp aa) (r_MG : qMG (m 94 58) (m 106) (m 115) (m 94 57) (m 94 56) (m 99) (m 100) aa) (r_MK : aa 87 8 = (m 94 58)) (r_WTS : (m 94 45).toInt = sm (zbU (m 99)) (m 102) 3100) (r_BTS : ∀ j : Nat, (j : Int) < nn.toInt → (zbit LL (Int32.ofNat j) ≠ 0 ↔ (kk = 16 ∨ (kk < 16 ∧ (((m 98) kk.toNatClampNeg >>> (Int32.ofNat j &&& 31)) &&& 1) = 1)))) (KZ : ∀ v m₉, zV (zov wr_183 m m₉) → (zW (m 94 7) (m 98) (m₉ 101) (m₉ 102) (m₉ 108)) → (zGW (T + 1) (m₉ 94 55) (m₉ 109)) → (zGU (T + 1) (m₉ 94 46) (m₉ 99)) → (zOw (m₉ 99) (m₉ 103) (m₉ 111)) → (zGG (m₉ 94 58) (m₉ 94 56) (m₉ 94 57) (m₉ 106)) → (qRB (m₉ 99) (m₉ 100) (m 98) (m₉ 101) (m₉ 102) (m₉ 103) (m₉ 107) (m₉ 108) (m₉ 109) (m₉ 111) (m₉ 112) (m₉ 113) (m₉ 114) (m₉ 94 55) (m₉ 94 46) (m 94 11) 0 (m₉ 94 59) 0 1 (lMk aa kk nn LL r1)) → (qI (lMk aa kk nn LL r1)) → (qMG (m₉ 94 58) (m₉ 106) (m₉ 115) (m₉ 94 57) (m₉ 94 56) (m₉ 99) (m₉ 100) (lMk aa kk nn LL r1)) → ((lMk aa kk nn LL r1) 87 8 = (m₉ 94 58)) → ((m₉ 94 45).toInt = sm (zbU (m₉ 99)) (m₉ 102) 3100) → ((m₉ 94 58).toInt = 0) → (v = lMn aa nn) → (qTp (lMk aa kk nn LL r1)) → P (some (.inl v)) (zov wr_183 m m₉)) : zm X 9 198 183 0 [(0, .inr (.inr (some 94))), (1, .inl kk), (2, .inl nn), (3, .inl r1)] m P := by
  have K : ∀ v m₉, zF wr_183 m m₉ → zV m₉ → (zW (m₉ 94 7) (m₉ 98) (m₉ 101) (m₉ 102) (m₉ 108)) → (zGW (T + 1) (m₉ 94 55) (m₉ 109)) → (zGU (T + 1) (m₉ 94 46) (m₉ 99)) → (zOw (m₉ 99) (m₉ 103) (m₉ 111)) → (zGG (m₉ 94 58) (m₉ 94 56) (m₉ 94 57) (m₉ 106)) → (qRB (m₉ 99) (m₉ 100) (m₉ 98) (m₉ 101) (m₉ 102) (m₉ 103) (m₉ 107) (m₉ 108) (m₉ 109) (m₉ 111) (m₉ 112) (m₉ 113) (m₉ 114) (m₉ 94 55) (m₉ 94 46) (m₉ 94 11) 0 (m₉ 94 59) 0 1 (lMk aa kk nn LL r1)) → (qI (lMk aa kk nn LL r1)) → (qMG (m₉ 94 58) (m₉ 106) (m₉ 115) (m₉ 94 57) (m₉ 94 56) (m₉ 99) (m₉ 100) (lMk aa kk nn LL r1)) → ((lMk aa kk nn LL r1) 87 8 = (m₉ 94 58)) → ((m₉ 94 45).toInt = sm (zbU (m₉ 99)) (m₉ 102) 3100) → ((m₉ 94 58).toInt = 0) → (v = lMn aa nn) → (qTp (lMk aa kk nn LL r1)) → P (some (.inl v)) m₉ := by
    intro v m₉ hf z q0 q1 q2 q3 q4 q5 q6 q7 q8 q9 q10 q11 q12
    have e := zov_eq hf
    rw [e] at z ⊢
    try rw [e] at q0
    try rw [e] at q1
    try rw [e] at q2
    try rw [e] at q3
    try rw [e] at q4
    try rw [e] at q5
    try rw [e] at q6
    try rw [e] at q7
    try rw [e] at q8
    try rw [e] at q9
    try rw [e] at q10
    try rw [e] at q11
    try rw [e] at q12
    exact KZ v m₉ z q0 q1 q2 q3 q4 q5 q6 q7 q8 q9 q10 q11 q12
  refine g_183_0 kk nn r1 ?_
  have f1 : 0 ≤ (m 94 7).toInt ∧ (m 94 7).toInt ≤ 16 := rs_94_7 (m := m) hV
  have f2 : 0 ≤ (m 94 10).toInt ∧ (m 94 10).toInt ≤ 6 := rs_94_10 (m := m) hV
  have f3 : 0 ≤ (m 94 58).toInt ∧ (m 94 58).toInt ≤ 1 := rs_94_58 (m := m) hV
  have f4 : 0 ≤ (m 94 8).toInt ∧ (m 94 8).toInt ≤ 1 := rs_94_8 (m := m) hV
  have b5 := i_bd nn
  first | have e6 : (nn + (1 : Int32)).toInt = nn.toInt + (1) := i_addk rfl (by omega) (by omega) | have b7 := i_bd (nn + (1 : Int32))
  refine sp_184rl (aa := aa) ((nn + (1 : Int32))) hV (by omega) (by omega) (by omega) r_W r_GW r_GU r_OW r_GG (show (m 94 10).toInt = 1 ∧ (m 94 58).toInt = 0 from by omega) r_RB r_QI r_TP r_MG r_MK r_WTS (fun v2 m1 hV_m1 p0_m1 p1_m1 p2_m1 p3_m1 p4_m1 p5_m1 p6_m1 p7_m1 p8_m1 p9_m1 p10_m1 p11_m1 p12_m1 p13_m1 => zmi_n ?_)
  have p0_m1 : zGW T (m1 94 55) (m1 109) := p0_m1
  have p1_m1 : zGU T (m 94 46) (m1 99) := p1_m1
  have p2_m1 : zOw (m1 99) (m1 103) (m1 111) := p2_m1
  have p3_m1 : zGG (m1 94 58) (m1 94 56) (m1 94 57) (m1 106) := p3_m1
  have p4_m1 : -1 ≤ v2.toInt ∧ v2.toInt ≤ 1500 := p4_m1
  have p5_m1 : qRB (m1 99) (m 100) (m 98) (m 101) (m 102) (m1 103) (m 107) (m 108) (m1 109) (m1 111) (m 112) (m1 113) (m1 114) (m1 94 55) (m 94 46) (m 94 11) 0 (m1 94 59) 0 1 (lFt aa (nn + (1 : Int32)) v2) := p5_m1
  have p6_m1 : qI (lFt aa (nn + (1 : Int32)) v2) := p6_m1
  have p7_m1 : qMG (m1 94 58) (m1 106) (m1 115) (m1 94 57) (m1 94 56) (m1 99) (m 100) (lFt aa (nn + (1 : Int32)) v2) := p7_m1
  have p8_m1 : (lFt aa (nn + (1 : Int32)) v2) 87 8 = (m1 94 58) := p8_m1
  have p9_m1 : (m1 94 45).toInt = sm (zbU (m1 99)) (m 102) 3100 := p9_m1
  have p10_m1 : qEq v2.toInt (lRp aa (nn + (1 : Int32)).toInt) := p10_m1
  have p11_m1 : qI (lRs aa (nn + (1 : Int32)).toInt) := p11_m1
  have p12_m1 : qTp (lRs aa (nn + (1 : Int32)).toInt) := p12_m1
  have p13_m1 : (m1 94 58).toInt = 0 := p13_m1
  have f8 : 0 ≤ (m1 94 58).toInt ∧ (m1 94 58).toInt ≤ 1 := rs_94_58 (m := (zov wr_184 m m1)) hV_m1
  have li9 : (0 : Int32).toInt = 0 := rfl
  have b10 := i_bd v2
  refine zd (fun (h11 : (0 : Int32) ≤ v2) => ?_) (fun (h11 : ¬ (0 : Int32) ≤ v2) => ?_)
  · skip
    have g12 := i_le h11
    try have e21 : (l2 + (1 : Int32)).toInt = l2.toInt + 1 := i_addk rfl (by omega) (by omega)
    try have gun := GU_nu p1_m1
    have b13 := i_bd kk
    have b14 := i_bd r1
    exact lp_183rl_19 (kk := kk) (nn := nn) (r1 := r1) hV K _ _ (kk) (nn) (r1) (v2) ((0 : Int32)) rfl (zF_zov zF_rfl ws_184_183) hV_m1 (by omega) (by omega) (by omega) (by omega) (by omega) (by omega) (by omega) (by omega) (by omega) (by omega) (by omega) (by omega) (show 16 ≤ kk.toInt ∨ kk.toInt < (m 94 7).toInt from by omega) r_W p0_m1 p1_m1 p2_m1 p3_m1 (show (m 94 10).toInt = 1 ∧ (m1 94 58).toInt = 0 from by omega) (show (m 94 8).toInt = 1 from by omega) p5_m1 p6_m1 p7_m1 p8_m1 p9_m1 (show ∀ j : Nat, (j : Int) < (0 : Int32).toInt → (m1 99) j ≠ 0 from by first | (intro j hj; omega; done) | (exfalso; omega; done) | (exfalso; contradiction; done)) (show kk = kk from by first | (exact rfl) | (exfalso; omega; done) | (exfalso; contradiction; done)) (show nn = nn from by first | (exact rfl) | (exfalso; omega; done) | (exfalso; contradiction; done)) (show r1 = r1 from by first | (exact rfl) | (exfalso; omega; done) | (exfalso; contradiction; done)) (show qEq v2.toInt (lRp aa (nn + (1 : Int32)).toInt) from by first | (exact p10_m1) | (exfalso; omega; done) | (exfalso; contradiction; done)) r_BTS (show (aa 69 6).toInt < 512 from by first | (exact (show (aa 69 6).toInt < 512 from by rw [r_RB.2.2.2.2.2.2.2.1]; have gun := GU_nu r_GU; omega)) | (exfalso; omega; done) | (exfalso; contradiction; done)) p11_m1 p12_m1
  · skip
    have g15 := i_nle h11
    try have e21 : (l2 + (1 : Int32)).toInt = l2.toInt + 1 := i_addk rfl (by omega) (by omega)
    try have gun := GU_nu p1_m1
    have li16 : (-1 : Int32).toInt = -1 := rfl
    exact K ((-1 : Int32)) _ (zF_zov zF_rfl ws_184_183) hV_m1 r_W (show zGW (T + 1) (m1 94 55) (m1 109) from by first | (exact GW_up p0_m1 (by omega)) | (exfalso; omega; done) | (exfalso; contradiction; done)) (show zGU (T + 1) (m 94 46) (m1 99) from by first | (exact GU_up p1_m1 (by omega)) | (exact GU_0 p1_m1) | (exfalso; omega; done) | (exfalso; contradiction; done)) p2_m1 p3_m1 (show qRB (m1 99) (m 100) (m 98) (m 101) (m 102) (m1 103) (m 107) (m 108) (m1 109) (m1 111) (m 112) (m1 113) (m1 114) (m1 94 55) (m 94 46) (m 94 11) 0 (m1 94 59) 0 1 (lMk aa kk nn LL r1) from by first | (have q := p5_m1; rw [lFt_n (by omega)] at q; rw [(lMk_1 (a := aa) (kd := kk) (wd := nn) (rt := r1) (L := LL) (show (aa 69 6).toInt < 512 from by rw [r_RB.2.2.2.2.2.2.2.1]; have gun := GU_nu r_GU; omega) ((qE p10_m1).symm.trans (by omega))).1]; exact q; done) | (exfalso; omega; done) | (exfalso; contradiction; done)) (show qI (lMk aa kk nn LL r1) from by first | (have q := p6_m1; rw [lFt_n (by omega)] at q; rw [(lMk_1 (a := aa) (kd := kk) (wd := nn) (rt := r1) (L := LL) (show (aa 69 6).toInt < 512 from by rw [r_RB.2.2.2.2.2.2.2.1]; have gun := GU_nu r_GU; omega) ((qE p10_m1).symm.trans (by omega))).1]; exact q; done) | (exfalso; omega; done) | (exfalso; contradiction; done)) (show qMG (m1 94 58) (m1 106) (m1 115) (m1 94 57) (m1 94 56) (m1 99) (m 100) (lMk aa kk nn LL r1) from by first | (have q := p7_m1; rw [lFt_n (by omega)] at q; rw [(lMk_1 (a := aa) (kd := kk) (wd := nn) (rt := r1) (L := LL) (show (aa 69 6).toInt < 512 from by rw [r_RB.2.2.2.2.2.2.2.1]; have gun := GU_nu r_GU; omega) ((qE p10_m1).symm.trans (by omega))).1]; exact q; done) | (exfalso; omega; done) | (exfalso; contradiction; done)) (show (lMk aa kk nn LL r1) 87 8 = (m1 94 58) from by first | (have q := p8_m1; rw [lFt_n (by omega)] at q; rw [(lMk_1 (a := aa) (kd := kk) (wd := nn) (rt := r1) (L := LL) (show (aa 69 6).toInt < 512 from by rw [r_RB.2.2.2.2.2.2.2.1]; have gun := GU_nu r_GU; omega) ((qE p10_m1).symm.trans (by omega))).1]; exact q; done) | (exfalso; omega; done) | (exfalso; contradiction; done)) p9_m1 (show (m1 94 58).toInt = 0 from by omega) (show (-1 : Int32) = lMn aa nn from by first | (exact (lMk_1 (a := aa) (kd := kk) (wd := nn) (rt := r1) (L := LL) (show (aa 69 6).toInt < 512 from by rw [r_RB.2.2.2.2.2.2.2.1]; have gun := GU_nu r_GU; omega) ((qE p10_m1).symm.trans (by omega))).2.symm) | (exfalso; omega; done) | (exfalso; contradiction; done)) (show qTp (lMk aa kk nn LL r1) from by first | (rw [(lMk_1 (a := aa) (kd := kk) (wd := nn) (rt := r1) (L := LL) (show (aa 69 6).toInt < 512 from by rw [r_RB.2.2.2.2.2.2.2.1]; have gun := GU_nu r_GU; omega) ((qE p10_m1).symm.trans (by omega))).1]; exact p12_m1; done) | (exact r_TP) | (exfalso; omega; done) | (exfalso; contradiction; done))

/-! from 95.r14 -/
/-! the reference where it moves (written by wip/tools/gen15r.py) -/
set_option maxHeartbeats 8000000 in
theorem sp_181rl {X : Nat × (Nat → Int32)} {P : Option ma_V → (Nat → Nat → Int32) → Prop} {T : Nat} {aa : Nat→Nat→Int32} {LL : Int64} {m : Nat → Nat → Int32} (kk : Int32) (r1 : Int32) (hV : zV m) (hpre0 : T + 1 ≤ 512) (hpre1 : T ≤ 512) (r_W : zW (m 94 7) (m 98) (m 101) (m 102) (m 108)) (r_GW : zGW T (m 94 55) (m 109)) (r_GU : zGU T (m 94 46) (m 99)) (r_OW : zOw (m 99) (m 103) (m 111)) (r_GG : zGG (m 94 58) (m 94 56) (m 94 57) (m 106)) (hpre7 : (m 94 10).toInt = 1 ∧ (m 94 58).toInt = 0) (hpre8 : (m 94 8).toInt = 1) (r_RB : qRB (m 99) (m 100) (m 98) (m 101) (m 102) (m 103) (m 107) (m 108) (m 109) (m 111) (m 112) (m 113) (m 114) (m 94 55) (m 94 46) (m 94 11) 0 (m 94 59) 0 1 aa) (r_QI : qI aa) (r_TP : qTp aa) (r_MG : qMG (m 94 58) (m 106) (m 115) (m 94 57) (m 94 56) (m 99) (m 100) aa) (r_MK : aa 87 8 = (m 94 58)) (r_WTS : (m 94 45).toInt = sm (zbU (m 99)) (m 102) 3100) (r_BT1 : (0 ≤ kk.toInt ∧ kk.toInt < (m 94 7).toInt) → ∀ j : Nat, (j : Int) < ((m 97) kk.toNatClampNeg).toInt → (zbit LL (Int32.ofNat j) ≠ 0 ↔ (kk = 16 ∨ (kk < 16 ∧ (((m 98) kk.toNatClampNeg >>> (Int32.ofNat j &&& 31)) &&& 1) = 1)))) (KZ : ∀ v m₉, zV (zov wr_181 m m₉) → (zW (m 94 7) (m 98) (m₉ 101) (m₉ 102) (m₉ 108)) → (zGW (T + 1) (m₉ 94 55) (m₉ 109)) → (zGU (T + 1) (m₉ 94 46) (m₉ 99)) → (zOw (m₉ 99) (m₉ 103) (m₉ 111)) → (zGG (m₉ 94 58) (m₉ 94 56) (m₉ 94 57) (m₉ 106)) → (qRB (m₉ 99) (m₉ 100) (m 98) (m₉ 101) (m₉ 102) (m₉ 103) (m₉ 107) (m₉ 108) (m₉ 109) (m₉ 111) (m₉ 112) (m₉ 113) (m₉ 114) (m₉ 94 55) (m₉ 94 46) (m 94 11) 0 (m₉ 94 59) 0 1 (qIf (0 ≤ kk.toInt ∧ kk.toInt < (m 94 7).toInt ∧ zSl r1) (lMk aa kk ((m 97) kk.toNatClampNeg) LL r1) aa)) → (qI (qIf (0 ≤ kk.toInt ∧ kk.toInt < (m 94 7).toInt ∧ zSl r1) (lMk aa kk ((m 97) kk.toNatClampNeg) LL r1) aa)) → (qMG (m₉ 94 58) (m₉ 106) (m₉ 115) (m₉ 94 57) (m₉ 94 56) (m₉ 99) (m₉ 100) (qIf (0 ≤ kk.toInt ∧ kk.toInt < (m 94 7).toInt ∧ zSl r1) (lMk aa kk ((m 97) kk.toNatClampNeg) LL r1) aa)) → ((qIf (0 ≤ kk.toInt ∧ kk.toInt < (m 94 7).toInt ∧ zSl r1) (lMk aa kk ((m 97) kk.toNatClampNeg) LL r1) aa) 87 8 = (m₉ 94 58)) → ((m₉ 94 45).toInt = sm (zbU (m₉ 99)) (m₉ 102) 3100) → ((m₉ 94 58).toInt = 0) → (qTp (qIf (0 ≤ kk.toInt ∧ kk.toInt < (m 94 7).toInt ∧ zSl r1) (lMk aa kk ((m 97) kk.toNatClampNeg) LL r1) aa)) → P (some (.inl v)) (zov wr_181 m m₉)) : zm X 10 224 181 0 [(0, .inr (.inr (some 94))), (1, .inl kk), (2, .inl r1)] m P := by
  have K : ∀ v m₉, zF wr_181 m m₉ → zV m₉ → (zW (m₉ 94 7) (m₉ 98) (m₉ 101) (m₉ 102) (m₉ 108)) → (zGW (T + 1) (m₉ 94 55) (m₉ 109)) → (zGU (T + 1) (m₉ 94 46) (m₉ 99)) → (zOw (m₉ 99) (m₉ 103) (m₉ 111)) → (zGG (m₉ 94 58) (m₉ 94 56) (m₉ 94 57) (m₉ 106)) → (qRB (m₉ 99) (m₉ 100) (m₉ 98) (m₉ 101) (m₉ 102) (m₉ 103) (m₉ 107) (m₉ 108) (m₉ 109) (m₉ 111) (m₉ 112) (m₉ 113) (m₉ 114) (m₉ 94 55) (m₉ 94 46) (m₉ 94 11) 0 (m₉ 94 59) 0 1 (qIf (0 ≤ kk.toInt ∧ kk.toInt < (m₉ 94 7).toInt ∧ zSl r1) (lMk aa kk ((m₉ 97) kk.toNatClampNeg) LL r1) aa)) → (qI (qIf (0 ≤ kk.toInt ∧ kk.toInt < (m₉ 94 7).toInt ∧ zSl r1) (lMk aa kk ((m₉ 97) kk.toNatClampNeg) LL r1) aa)) → (qMG (m₉ 94 58) (m₉ 106) (m₉ 115) (m₉ 94 57) (m₉ 94 56) (m₉ 99) (m₉ 100) (qIf (0 ≤ kk.toInt ∧ kk.toInt < (m₉ 94 7).toInt ∧ zSl r1) (lMk aa kk ((m₉ 97) kk.toNatClampNeg) LL r1) aa)) → ((qIf (0 ≤ kk.toInt ∧ kk.toInt < (m₉ 94 7).toInt ∧ zSl r1) (lMk aa kk ((m₉ 97) kk.toNatClampNeg) LL r1) aa) 87 8 = (m₉ 94 58)) → ((m₉ 94 45).toInt = sm (zbU (m₉ 99)) (m₉ 102) 3100) → ((m₉ 94 58).toInt = 0) → (qTp (qIf (0 ≤ kk.toInt ∧ kk.toInt < (m₉ 94 7).toInt ∧ zSl r1) (lMk aa kk ((m₉ 97) kk.toNatClampNeg) LL r1) aa)) → P (some (.inl v)) m₉ := by
    intro v m₉ hf z q0 q1 q2 q3 q4 q5 q6 q7 q8 q9 q10 q11
    have e := zov_eq hf
    rw [e] at z ⊢
    try rw [e] at q0
    try rw [e] at q1
    try rw [e] at q2
    try rw [e] at q3
    try rw [e] at q4
    try rw [e] at q5
    try rw [e] at q6
    try rw [e] at q7
    try rw [e] at q8
    try rw [e] at q9
    try rw [e] at q10
    try rw [e] at q11
    exact KZ v m₉ z q0 q1 q2 q3 q4 q5 q6 q7 q8 q9 q10 q11
  refine g_181_0 kk r1 ?_
  have f1 : 0 ≤ (m 94 10).toInt ∧ (m 94 10).toInt ≤ 6 := rs_94_10 (m := m) hV
  have f2 : 0 ≤ (m 94 58).toInt ∧ (m 94 58).toInt ≤ 1 := rs_94_58 (m := m) hV
  have f3 : 0 ≤ (m 94 8).toInt ∧ (m 94 8).toInt ≤ 1 := rs_94_8 (m := m) hV
  have b4 := i_bd kk
  have li5 : (0 : Int32).toInt = 0 := rfl
  refine zd (fun (h6 : kk < (0 : Int32)) => ?_) (fun (h6 : ¬ kk < (0 : Int32)) => ?_)
  · skip
    have g7 := i_lt h6
    have hV8 : zV (ma_u m 94 0 (1 : Int32)) := uf_94_0 hV
    exact K ((0 : Int32)) _ (zF_u zF_rfl rfl) hV8 r_W (show zGW (T + 1) (m 94 55) (m 109) from by first | (exact GW_up r_GW (by omega)) | (exfalso; omega; done) | (exfalso; contradiction; done)) (show zGU (T + 1) (m 94 46) (m 99) from by first | (exact GU_up r_GU (by omega)) | (exact GU_0 r_GU) | (exfalso; omega; done) | (exfalso; contradiction; done)) r_OW r_GG (show qRB (m 99) (m 100) (m 98) (m 101) (m 102) (m 103) (m 107) (m 108) (m 109) (m 111) (m 112) (m 113) (m 114) (m 94 55) (m 94 46) (m 94 11) 0 (m 94 59) 0 1 (qIf (0 ≤ kk.toInt ∧ kk.toInt < (m 94 7).toInt ∧ zSl r1) (lMk aa kk ((m 97) kk.toNatClampNeg) LL r1) aa) from by first | (rw [qIf_n (fun w => by have w1 := w.1; have w2 := w.2.1; have w3 := w.2.2.1; have w4 := w.2.2.2; omega)]; exact r_RB; done) | (exfalso; omega; done) | (exfalso; contradiction; done)) (show qI (qIf (0 ≤ kk.toInt ∧ kk.toInt < (m 94 7).toInt ∧ zSl r1) (lMk aa kk ((m 97) kk.toNatClampNeg) LL r1) aa) from by first | (rw [qIf_n (fun w => by have w1 := w.1; have w2 := w.2.1; have w3 := w.2.2.1; have w4 := w.2.2.2; omega)]; exact r_QI; done) | (exfalso; omega; done) | (exfalso; contradiction; done)) (show qMG (m 94 58) (m 106) (m 115) (m 94 57) (m 94 56) (m 99) (m 100) (qIf (0 ≤ kk.toInt ∧ kk.toInt < (m 94 7).toInt ∧ zSl r1) (lMk aa kk ((m 97) kk.toNatClampNeg) LL r1) aa) from by first | (rw [qIf_n (fun w => by have w1 := w.1; have w2 := w.2.1; have w3 := w.2.2.1; have w4 := w.2.2.2; omega)]; exact r_MG; done) | (exfalso; omega; done) | (exfalso; contradiction; done)) (show (qIf (0 ≤ kk.toInt ∧ kk.toInt < (m 94 7).toInt ∧ zSl r1) (lMk aa kk ((m 97) kk.toNatClampNeg) LL r1) aa) 87 8 = (m 94 58) from by first | (rw [qIf_n (fun w => by have w1 := w.1; have w2 := w.2.1; have w3 := w.2.2.1; have w4 := w.2.2.2; omega)]; exact r_MK; done) | (exfalso; omega; done) | (exfalso; contradiction; done)) r_WTS (show (m 94 58).toInt = 0 from by omega) (show qTp (qIf (0 ≤ kk.toInt ∧ kk.toInt < (m 94 7).toInt ∧ zSl r1) (lMk aa kk ((m 97) kk.toNatClampNeg) LL r1) aa) from by first | (rw [qIf_n (fun w => by have w1 := w.1; have w2 := w.2.1; have w3 := w.2.2.1; have w4 := w.2.2.2; omega)]; exact r_TP; done) | (exact r_TP) | (exfalso; omega; done) | (exfalso; contradiction; done))
  · skip
    have g9 := i_nlt h6
    have f10 : 0 ≤ (m 94 7).toInt ∧ (m 94 7).toInt ≤ 16 := rs_94_7 (m := m) hV
    refine zd (fun (h11 : (m 94 7) ≤ kk) => ?_) (fun (h11 : ¬ (m 94 7) ≤ kk) => ?_)
    · skip
      have g12 := i_le h11
      have hV13 : zV (ma_u m 94 0 (1 : Int32)) := uf_94_0 hV
      exact K ((0 : Int32)) _ (zF_u zF_rfl rfl) hV13 r_W (show zGW (T + 1) (m 94 55) (m 109) from by first | (exact GW_up r_GW (by omega)) | (exfalso; omega; done) | (exfalso; contradiction; done)) (show zGU (T + 1) (m 94 46) (m 99) from by first | (exact GU_up r_GU (by omega)) | (exact GU_0 r_GU) | (exfalso; omega; done) | (exfalso; contradiction; done)) r_OW r_GG (show qRB (m 99) (m 100) (m 98) (m 101) (m 102) (m 103) (m 107) (m 108) (m 109) (m 111) (m 112) (m 113) (m 114) (m 94 55) (m 94 46) (m 94 11) 0 (m 94 59) 0 1 (qIf (0 ≤ kk.toInt ∧ kk.toInt < (m 94 7).toInt ∧ zSl r1) (lMk aa kk ((m 97) kk.toNatClampNeg) LL r1) aa) from by first | (rw [qIf_n (fun w => by have w1 := w.1; have w2 := w.2.1; have w3 := w.2.2.1; have w4 := w.2.2.2; omega)]; exact r_RB; done) | (exfalso; omega; done) | (exfalso; contradiction; done)) (show qI (qIf (0 ≤ kk.toInt ∧ kk.toInt < (m 94 7).toInt ∧ zSl r1) (lMk aa kk ((m 97) kk.toNatClampNeg) LL r1) aa) from by first | (rw [qIf_n (fun w => by have w1 := w.1; have w2 := w.2.1; have w3 := w.2.2.1; have w4 := w.2.2.2; omega)]; exact r_QI; done) | (exfalso; omega; done) | (exfalso; contradiction; done)) (show qMG (m 94 58) (m 106) (m 115) (m 94 57) (m 94 56) (m 99) (m 100) (qIf (0 ≤ kk.toInt ∧ kk.toInt < (m 94 7).toInt ∧ zSl r1) (lMk aa kk ((m 97) kk.toNatClampNeg) LL r1) aa) from by first | (rw [qIf_n (fun w => by have w1 := w.1; have w2 := w.2.1; have w3 := w.2.2.1; have w4 := w.2.2.2; omega)]; exact r_MG; done) | (exfalso; omega; done) | (exfalso; contradiction; done)) (show (qIf (0 ≤ kk.toInt ∧ kk.toInt < (m 94 7).toInt ∧ zSl r1) (lMk aa kk ((m 97) kk.toNatClampNeg) LL r1) aa) 87 8 = (m 94 58) from by first | (rw [qIf_n (fun w => by have w1 := w.1; have w2 := w.2.1; have w3 := w.2.2.1; have w4 := w.2.2.2; omega)]; exact r_MK; done) | (exfalso; omega; done) | (exfalso; contradiction; done)) r_WTS (show (m 94 58).toInt = 0 from by omega) (show qTp (qIf (0 ≤ kk.toInt ∧ kk.toInt < (m 94 7).toInt ∧ zSl r1) (lMk aa kk ((m 97) kk.toNatClampNeg) LL r1) aa) from by first | (rw [qIf_n (fun w => by have w1 := w.1; have w2 := w.2.1; have w3 := w.2.2.1; have w4 := w.2.2.2; omega)]; exact r_TP; done) | (exact r_TP) | (exfalso; omega; done) | (exfalso; contradiction; done))
    · skip
      have g14 := i_nle h11
      have b15 := i_bd r1
      refine zd (fun (h16 : r1 < (0 : Int32)) => ?_) (fun (h16 : ¬ r1 < (0 : Int32)) => ?_)
      · skip
        have g17 := i_lt h16
        have hV18 : zV (ma_u m 94 0 (1 : Int32)) := uf_94_0 hV
        exact K ((0 : Int32)) _ (zF_u zF_rfl rfl) hV18 r_W (show zGW (T + 1) (m 94 55) (m 109) from by first | (exact GW_up r_GW (by omega)) | (exfalso; omega; done) | (exfalso; contradiction; done)) (show zGU (T + 1) (m 94 46) (m 99) from by first | (exact GU_up r_GU (by omega)) | (exact GU_0 r_GU) | (exfalso; omega; done) | (exfalso; contradiction; done)) r_OW r_GG (show qRB (m 99) (m 100) (m 98) (m 101) (m 102) (m 103) (m 107) (m 108) (m 109) (m 111) (m 112) (m 113) (m 114) (m 94 55) (m 94 46) (m 94 11) 0 (m 94 59) 0 1 (qIf (0 ≤ kk.toInt ∧ kk.toInt < (m 94 7).toInt ∧ zSl r1) (lMk aa kk ((m 97) kk.toNatClampNeg) LL r1) aa) from by first | (rw [qIf_n (fun w => by have w1 := w.1; have w2 := w.2.1; have w3 := w.2.2.1; have w4 := w.2.2.2; omega)]; exact r_RB; done) | (exfalso; omega; done) | (exfalso; contradiction; done)) (show qI (qIf (0 ≤ kk.toInt ∧ kk.toInt < (m 94 7).toInt ∧ zSl r1) (lMk aa kk ((m 97) kk.toNatClampNeg) LL r1) aa) from by first | (rw [qIf_n (fun w => by have w1 := w.1; have w2 := w.2.1; have w3 := w.2.2.1; have w4 := w.2.2.2; omega)]; exact r_QI; done) | (exfalso; omega; done) | (exfalso; contradiction; done)) (show qMG (m 94 58) (m 106) (m 115) (m 94 57) (m 94 56) (m 99) (m 100) (qIf (0 ≤ kk.toInt ∧ kk.toInt < (m 94 7).toInt ∧ zSl r1) (lMk aa kk ((m 97) kk.toNatClampNeg) LL r1) aa) from by first | (rw [qIf_n (fun w => by have w1 := w.1; have w2 := w.2.1; have w3 := w.2.2.1; have w4 := w.2.2.2; omega)]; exact r_MG; done) | (exfalso; omega; done) | (exfalso; contradiction; done)) (show (qIf (0 ≤ kk.toInt ∧ kk.toInt < (m 94 7).toInt ∧ zSl r1) (lMk aa kk ((m 97) kk.toNatClampNeg) LL r1) aa) 87 8 = (m 94 58) from by first | (rw [qIf_n (fun w => by have w1 := w.1; have w2 := w.2.1; have w3 := w.2.2.1; have w4 := w.2.2.2; omega)]; exact r_MK; done) | (exfalso; omega; done) | (exfalso; contradiction; done)) r_WTS (show (m 94 58).toInt = 0 from by omega) (show qTp (qIf (0 ≤ kk.toInt ∧ kk.toInt < (m 94 7).toInt ∧ zSl r1) (lMk aa kk ((m 97) kk.toNatClampNeg) LL r1) aa) from by first | (rw [qIf_n (fun w => by have w1 := w.1; have w2 := w.2.1; have w3 := w.2.2.1; have w4 := w.2.2.2; omega)]; exact r_TP; done) | (exact r_TP) | (exfalso; omega; done) | (exfalso; contradiction; done))
      · skip
        have g19 := i_nlt h16
        have li20 : (16 : Int32).toInt = 16 := rfl
        refine zd (fun (h21 : (16 : Int32) ≤ r1) => ?_) (fun (h21 : ¬ (16 : Int32) ≤ r1) => ?_)
        · skip
          have g22 := i_le h21
          have hV23 : zV (ma_u m 94 0 (1 : Int32)) := uf_94_0 hV
          exact K ((0 : Int32)) _ (zF_u zF_rfl rfl) hV23 r_W (show zGW (T + 1) (m 94 55) (m 109) from by first | (exact GW_up r_GW (by omega)) | (exfalso; omega; done) | (exfalso; contradiction; done)) (show zGU (T + 1) (m 94 46) (m 99) from by first | (exact GU_up r_GU (by omega)) | (exact GU_0 r_GU) | (exfalso; omega; done) | (exfalso; contradiction; done)) r_OW r_GG (show qRB (m 99) (m 100) (m 98) (m 101) (m 102) (m 103) (m 107) (m 108) (m 109) (m 111) (m 112) (m 113) (m 114) (m 94 55) (m 94 46) (m 94 11) 0 (m 94 59) 0 1 (qIf (0 ≤ kk.toInt ∧ kk.toInt < (m 94 7).toInt ∧ zSl r1) (lMk aa kk ((m 97) kk.toNatClampNeg) LL r1) aa) from by first | (rw [qIf_n (fun w => by have w1 := w.1; have w2 := w.2.1; have w3 := w.2.2.1; have w4 := w.2.2.2; omega)]; exact r_RB; done) | (exfalso; omega; done) | (exfalso; contradiction; done)) (show qI (qIf (0 ≤ kk.toInt ∧ kk.toInt < (m 94 7).toInt ∧ zSl r1) (lMk aa kk ((m 97) kk.toNatClampNeg) LL r1) aa) from by first | (rw [qIf_n (fun w => by have w1 := w.1; have w2 := w.2.1; have w3 := w.2.2.1; have w4 := w.2.2.2; omega)]; exact r_QI; done) | (exfalso; omega; done) | (exfalso; contradiction; done)) (show qMG (m 94 58) (m 106) (m 115) (m 94 57) (m 94 56) (m 99) (m 100) (qIf (0 ≤ kk.toInt ∧ kk.toInt < (m 94 7).toInt ∧ zSl r1) (lMk aa kk ((m 97) kk.toNatClampNeg) LL r1) aa) from by first | (rw [qIf_n (fun w => by have w1 := w.1; have w2 := w.2.1; have w3 := w.2.2.1; have w4 := w.2.2.2; omega)]; exact r_MG; done) | (exfalso; omega; done) | (exfalso; contradiction; done)) (show (qIf (0 ≤ kk.toInt ∧ kk.toInt < (m 94 7).toInt ∧ zSl r1) (lMk aa kk ((m 97) kk.toNatClampNeg) LL r1) aa) 87 8 = (m 94 58) from by first | (rw [qIf_n (fun w => by have w1 := w.1; have w2 := w.2.1; have w3 := w.2.2.1; have w4 := w.2.2.2; omega)]; exact r_MK; done) | (exfalso; omega; done) | (exfalso; contradiction; done)) r_WTS (show (m 94 58).toInt = 0 from by omega) (show qTp (qIf (0 ≤ kk.toInt ∧ kk.toInt < (m 94 7).toInt ∧ zSl r1) (lMk aa kk ((m 97) kk.toNatClampNeg) LL r1) aa) from by first | (rw [qIf_n (fun w => by have w1 := w.1; have w2 := w.2.1; have w3 := w.2.2.1; have w4 := w.2.2.2; omega)]; exact r_TP; done) | (exact r_TP) | (exfalso; omega; done) | (exfalso; contradiction; done))
        · skip
          have g24 := i_nle h21
          refine zd (fun (h25 : (m 94 8) = (0 : Int32)) => ?_) (fun (h25 : ¬ (m 94 8) = (0 : Int32)) => ?_)
          · skip
            have g26 := i_eq h25
            exfalso; omega
          · skip
            have g27 := i_ne h25
            have hg28 : (0 ≤ kk ∧ kk.toNatClampNeg < 16) := i_ix (by omega) (by omega)
            refine ⟨hg28, ?_⟩
            first | have f29 : 0 ≤ (m 97 kk.toNatClampNeg).toInt ∧ (m 97 kk.toNatClampNeg).toInt ≤ 8 := ra_97 (m := m) hV (k := kk.toNatClampNeg) (i_ix (n := 16) (by omega) (by omega)).2 | have b30 := i_bd (m 97 kk.toNatClampNeg)
            have hV31 : zV (ma_u m 94 0 (0 : Int32)) := uf_94_0 hV
            refine sp_183rl (LL := LL) (kk) ((m 97 kk.toNatClampNeg)) (r1) hV31 (by omega) (by omega) (by omega) (by omega) (by omega) (by omega) (by omega) (show 16 ≤ kk.toInt ∨ kk.toInt < (m 94 7).toInt from by omega) (by omega) r_W r_GW r_GU r_OW r_GG (show (m 94 10).toInt = 1 ∧ (m 94 58).toInt = 0 from by omega) (show (m 94 8).toInt = 1 from by omega) r_RB r_QI r_TP r_MG r_MK r_WTS (show ∀ j : Nat, (j : Int) < (m 97 kk.toNatClampNeg).toInt → (zbit LL (Int32.ofNat j) ≠ 0 ↔ (kk = 16 ∨ (kk < 16 ∧ (((m 98) kk.toNatClampNeg >>> (Int32.ofNat j &&& 31)) &&& 1) = 1))) from by first | (exact r_BT1 ⟨by omega, by omega⟩) | (exfalso; omega; done) | (exfalso; contradiction; done)) (fun v2 m1 hV_m1 p0_m1 p1_m1 p2_m1 p3_m1 p4_m1 p5_m1 p6_m1 p7_m1 p8_m1 p9_m1 p10_m1 p11_m1 p12_m1 => zmi_n ?_)
            have p0_m1 : zW (m 94 7) (m 98) (m1 101) (m1 102) (m1 108) := p0_m1
            have p1_m1 : zGW (T + 1) (m1 94 55) (m1 109) := p1_m1
            have p2_m1 : zGU (T + 1) (m1 94 46) (m1 99) := p2_m1
            have p3_m1 : zOw (m1 99) (m1 103) (m1 111) := p3_m1
            have p4_m1 : zGG (m1 94 58) (m1 94 56) (m1 94 57) (m1 106) := p4_m1
            have p5_m1 : qRB (m1 99) (m1 100) (m 98) (m1 101) (m1 102) (m1 103) (m1 107) (m1 108) (m1 109) (m1 111) (m1 112) (m1 113) (m1 114) (m1 94 55) (m1 94 46) (m 94 11) 0 (m1 94 59) 0 1 (lMk aa kk (m 97 kk.toNatClampNeg) LL r1) := p5_m1
            have p6_m1 : qI (lMk aa kk (m 97 kk.toNatClampNeg) LL r1) := p6_m1
            have p7_m1 : qMG (m1 94 58) (m1 106) (m1 115) (m1 94 57) (m1 94 56) (m1 99) (m1 100) (lMk aa kk (m 97 kk.toNatClampNeg) LL r1) := p7_m1
            have p8_m1 : (lMk aa kk (m 97 kk.toNatClampNeg) LL r1) 87 8 = (m1 94 58) := p8_m1
            have p9_m1 : (m1 94 45).toInt = sm (zbU (m1 99)) (m1 102) 3100 := p9_m1
            have p10_m1 : (m1 94 58).toInt = 0 := p10_m1
            have p11_m1 : v2 = lMn aa (m 97 kk.toNatClampNeg) := p11_m1
            have p12_m1 : qTp (lMk aa kk (m 97 kk.toNatClampNeg) LL r1) := p12_m1
            have f32 : 0 ≤ (m1 94 58).toInt ∧ (m1 94 58).toInt ≤ 1 := rs_94_58 (m := (zov wr_183 (ma_u m 94 0 (0 : Int32)) m1)) hV_m1
            have b33 := i_bd v2
            exact K (v2) _ (zF_zov (zF_u zF_rfl rfl) ws_183_181) hV_m1 p0_m1 p1_m1 p2_m1 p3_m1 p4_m1 (show qRB (m1 99) (m1 100) (m 98) (m1 101) (m1 102) (m1 103) (m1 107) (m1 108) (m1 109) (m1 111) (m1 112) (m1 113) (m1 114) (m1 94 55) (m1 94 46) (m 94 11) 0 (m1 94 59) 0 1 (qIf (0 ≤ kk.toInt ∧ kk.toInt < (m 94 7).toInt ∧ zSl r1) (lMk aa kk ((m 97) kk.toNatClampNeg) LL r1) aa) from by first | (rw [qIf_y ⟨by omega, by omega, by omega, by omega⟩]; exact p5_m1; done) | (exfalso; omega; done) | (exfalso; contradiction; done)) (show qI (qIf (0 ≤ kk.toInt ∧ kk.toInt < (m 94 7).toInt ∧ zSl r1) (lMk aa kk ((m 97) kk.toNatClampNeg) LL r1) aa) from by first | (rw [qIf_y ⟨by omega, by omega, by omega, by omega⟩]; exact p6_m1; done) | (exfalso; omega; done) | (exfalso; contradiction; done)) (show qMG (m1 94 58) (m1 106) (m1 115) (m1 94 57) (m1 94 56) (m1 99) (m1 100) (qIf (0 ≤ kk.toInt ∧ kk.toInt < (m 94 7).toInt ∧ zSl r1) (lMk aa kk ((m 97) kk.toNatClampNeg) LL r1) aa) from by first | (rw [qIf_y ⟨by omega, by omega, by omega, by omega⟩]; exact p7_m1; done) | (exfalso; omega; done) | (exfalso; contradiction; done)) (show (qIf (0 ≤ kk.toInt ∧ kk.toInt < (m 94 7).toInt ∧ zSl r1) (lMk aa kk ((m 97) kk.toNatClampNeg) LL r1) aa) 87 8 = (m1 94 58) from by first | (rw [qIf_y ⟨by omega, by omega, by omega, by omega⟩]; exact p8_m1; done) | (exfalso; omega; done) | (exfalso; contradiction; done)) p9_m1 (show (m1 94 58).toInt = 0 from by omega) (show qTp (qIf (0 ≤ kk.toInt ∧ kk.toInt < (m 94 7).toInt ∧ zSl r1) (lMk aa kk ((m 97) kk.toNatClampNeg) LL r1) aa) from by first | (rw [qIf_y ⟨by omega, by omega, by omega, by omega⟩]; exact p12_m1; done) | (exact p12_m1) | (exfalso; omega; done) | (exfalso; contradiction; done))

/-! from 95.r15 -/
/-! the reference where it moves (written by wip/tools/gen15r.py) -/
set_option maxHeartbeats 8000000 in
theorem sp_243rl {X : Nat × (Nat → Int32)} {P : Option ma_V → (Nat → Nat → Int32) → Prop} {T : Nat} {aa : Nat→Nat→Int32} {m : Nat → Nat → Int32} (rf : Int32) (nn : Int32) (r1 : Int32) (hV : zV m) (hpre0 : T + 1 ≤ 512) (hpre1 : 0 ≤ rf.toInt) (hpre2 : rf.toInt ≤ 1) (hpre3 : T ≤ 512) (r_W : zW (m 94 7) (m 98) (m 101) (m 102) (m 108)) (r_GW : zGW T (m 94 55) (m 109)) (r_GU : zGU T (m 94 46) (m 99)) (r_OW : zOw (m 99) (m 103) (m 111)) (r_GG : zGG (m 94 58) (m 94 56) (m 94 57) (m 106)) (hpre9 : (m 94 10).toInt = 1 ∧ (m 94 58).toInt = 0) (hpre10 : (m 94 8).toInt = 1) (r_RB : qRB (m 99) (m 100) (m 98) (m 101) (m 102) (m 103) (m 107) (m 108) (m 109) (m 111) (m 112) (m 113) (m 114) (m 94 55) (m 94 46) (m 94 11) 0 (m 94 59) 0 1 aa) (r_QI : qI aa) (r_TP : qTp aa) (r_MG : qMG (m 94 58) (m 106) (m 115) (m 94 57) (m 94 56) (m 99) (m 100) aa) (r_MK : aa 87 8 = (m 94 58)) (r_WTS : (m 94 45).toInt = sm (zbU (m 99)) (m 102) 3100) (KZ : ∀ v m₉, zV (zov wr_243 m m₉) → (zW (m 94 7) (m 98) (m₉ 101) (m₉ 102) (m₉ 108)) → (zGW (T + 1) (m₉ 94 55) (m₉ 109)) → (zGU (T + 1) (m₉ 94 46) (m₉ 99)) → (zOw (m₉ 99) (m₉ 103) (m₉ 111)) → (zGG (m₉ 94 58) (m₉ 94 56) (m₉ 94 57) (m₉ 106)) → (qRB (m₉ 99) (m₉ 100) (m 98) (m₉ 101) (m₉ 102) (m₉ 103) (m₉ 107) (m₉ 108) (m₉ 109) (m₉ 111) (m₉ 112) (m₉ 113) (m₉ 114) (m₉ 94 55) (m₉ 94 46) (m 94 11) 0 (m₉ 94 59) 0 1 (qIf (0 ≤ nn.toInt ∧ nn.toInt ≤ 60 ∧ zSl r1) (if rf = 0 then lMk aa 17 nn 0 r1 else lMk aa 16 nn (-1) r1) aa)) → (qI (qIf (0 ≤ nn.toInt ∧ nn.toInt ≤ 60 ∧ zSl r1) (if rf = 0 then lMk aa 17 nn 0 r1 else lMk aa 16 nn (-1) r1) aa)) → (qMG (m₉ 94 58) (m₉ 106) (m₉ 115) (m₉ 94 57) (m₉ 94 56) (m₉ 99) (m₉ 100) (qIf (0 ≤ nn.toInt ∧ nn.toInt ≤ 60 ∧ zSl r1) (if rf = 0 then lMk aa 17 nn 0 r1 else lMk aa 16 nn (-1) r1) aa)) → ((qIf (0 ≤ nn.toInt ∧ nn.toInt ≤ 60 ∧ zSl r1) (if rf = 0 then lMk aa 17 nn 0 r1 else lMk aa 16 nn (-1) r1) aa) 87 8 = (m₉ 94 58)) → ((m₉ 94 45).toInt = sm (zbU (m₉ 99)) (m₉ 102) 3100) → ((m₉ 94 58).toInt = 0) → (qTp (qIf (0 ≤ nn.toInt ∧ nn.toInt ≤ 60 ∧ zSl r1) (if rf = 0 then lMk aa 17 nn 0 r1 else lMk aa 16 nn (-1) r1) aa)) → P (some (.inl v)) (zov wr_243 m m₉)) : zm X 10 224 243 0 [(0, .inr (.inr (some 94))), (1, .inl rf), (2, .inl nn), (3, .inl r1)] m P := by
  have K : ∀ v m₉, zF wr_243 m m₉ → zV m₉ → (zW (m₉ 94 7) (m₉ 98) (m₉ 101) (m₉ 102) (m₉ 108)) → (zGW (T + 1) (m₉ 94 55) (m₉ 109)) → (zGU (T + 1) (m₉ 94 46) (m₉ 99)) → (zOw (m₉ 99) (m₉ 103) (m₉ 111)) → (zGG (m₉ 94 58) (m₉ 94 56) (m₉ 94 57) (m₉ 106)) → (qRB (m₉ 99) (m₉ 100) (m₉ 98) (m₉ 101) (m₉ 102) (m₉ 103) (m₉ 107) (m₉ 108) (m₉ 109) (m₉ 111) (m₉ 112) (m₉ 113) (m₉ 114) (m₉ 94 55) (m₉ 94 46) (m₉ 94 11) 0 (m₉ 94 59) 0 1 (qIf (0 ≤ nn.toInt ∧ nn.toInt ≤ 60 ∧ zSl r1) (if rf = 0 then lMk aa 17 nn 0 r1 else lMk aa 16 nn (-1) r1) aa)) → (qI (qIf (0 ≤ nn.toInt ∧ nn.toInt ≤ 60 ∧ zSl r1) (if rf = 0 then lMk aa 17 nn 0 r1 else lMk aa 16 nn (-1) r1) aa)) → (qMG (m₉ 94 58) (m₉ 106) (m₉ 115) (m₉ 94 57) (m₉ 94 56) (m₉ 99) (m₉ 100) (qIf (0 ≤ nn.toInt ∧ nn.toInt ≤ 60 ∧ zSl r1) (if rf = 0 then lMk aa 17 nn 0 r1 else lMk aa 16 nn (-1) r1) aa)) → ((qIf (0 ≤ nn.toInt ∧ nn.toInt ≤ 60 ∧ zSl r1) (if rf = 0 then lMk aa 17 nn 0 r1 else lMk aa 16 nn (-1) r1) aa) 87 8 = (m₉ 94 58)) → ((m₉ 94 45).toInt = sm (zbU (m₉ 99)) (m₉ 102) 3100) → ((m₉ 94 58).toInt = 0) → (qTp (qIf (0 ≤ nn.toInt ∧ nn.toInt ≤ 60 ∧ zSl r1) (if rf = 0 then lMk aa 17 nn 0 r1 else lMk aa 16 nn (-1) r1) aa)) → P (some (.inl v)) m₉ := by
    intro v m₉ hf z q0 q1 q2 q3 q4 q5 q6 q7 q8 q9 q10 q11
    have e := zov_eq hf
    rw [e] at z ⊢
    try rw [e] at q0
    try rw [e] at q1
    try rw [e] at q2
    try rw [e] at q3
    try rw [e] at q4
    try rw [e] at q5
    try rw [e] at q6
    try rw [e] at q7
    try rw [e] at q8
    try rw [e] at q9
    try rw [e] at q10
    try rw [e] at q11
    exact KZ v m₉ z q0 q1 q2 q3 q4 q5 q6 q7 q8 q9 q10 q11
  refine g_243_0 rf nn r1 ?_
  have f1 : 0 ≤ (m 94 10).toInt ∧ (m 94 10).toInt ≤ 6 := rs_94_10 (m := m) hV
  have f2 : 0 ≤ (m 94 58).toInt ∧ (m 94 58).toInt ≤ 1 := rs_94_58 (m := m) hV
  have f3 : 0 ≤ (m 94 8).toInt ∧ (m 94 8).toInt ≤ 1 := rs_94_8 (m := m) hV
  have b4 := i_bd nn
  have li5 : (0 : Int32).toInt = 0 := rfl
  refine zd (fun (h6 : nn < (0 : Int32)) => ?_) (fun (h6 : ¬ nn < (0 : Int32)) => ?_)
  · skip
    have g7 := i_lt h6
    have hV8 : zV (ma_u m 94 0 (1 : Int32)) := uf_94_0 hV
    exact K ((0 : Int32)) _ (zF_u zF_rfl rfl) hV8 r_W (show zGW (T + 1) (m 94 55) (m 109) from by first | (exact GW_up r_GW (by omega)) | (exfalso; omega; done) | (exfalso; contradiction; done)) (show zGU (T + 1) (m 94 46) (m 99) from by first | (exact GU_up r_GU (by omega)) | (exact GU_0 r_GU) | (exfalso; omega; done) | (exfalso; contradiction; done)) r_OW r_GG (show qRB (m 99) (m 100) (m 98) (m 101) (m 102) (m 103) (m 107) (m 108) (m 109) (m 111) (m 112) (m 113) (m 114) (m 94 55) (m 94 46) (m 94 11) 0 (m 94 59) 0 1 (qIf (0 ≤ nn.toInt ∧ nn.toInt ≤ 60 ∧ zSl r1) (if rf = 0 then lMk aa 17 nn 0 r1 else lMk aa 16 nn (-1) r1) aa) from by first | (rw [qIf_n (fun w => by have w1 := w.1; have w2 := w.2.1; have w3 := w.2.2.1; have w4 := w.2.2.2; omega)]; exact r_RB; done) | (exfalso; omega; done) | (exfalso; contradiction; done)) (show qI (qIf (0 ≤ nn.toInt ∧ nn.toInt ≤ 60 ∧ zSl r1) (if rf = 0 then lMk aa 17 nn 0 r1 else lMk aa 16 nn (-1) r1) aa) from by first | (rw [qIf_n (fun w => by have w1 := w.1; have w2 := w.2.1; have w3 := w.2.2.1; have w4 := w.2.2.2; omega)]; exact r_QI; done) | (exfalso; omega; done) | (exfalso; contradiction; done)) (show qMG (m 94 58) (m 106) (m 115) (m 94 57) (m 94 56) (m 99) (m 100) (qIf (0 ≤ nn.toInt ∧ nn.toInt ≤ 60 ∧ zSl r1) (if rf = 0 then lMk aa 17 nn 0 r1 else lMk aa 16 nn (-1) r1) aa) from by first | (rw [qIf_n (fun w => by have w1 := w.1; have w2 := w.2.1; have w3 := w.2.2.1; have w4 := w.2.2.2; omega)]; exact r_MG; done) | (exfalso; omega; done) | (exfalso; contradiction; done)) (show (qIf (0 ≤ nn.toInt ∧ nn.toInt ≤ 60 ∧ zSl r1) (if rf = 0 then lMk aa 17 nn 0 r1 else lMk aa 16 nn (-1) r1) aa) 87 8 = (m 94 58) from by first | (rw [qIf_n (fun w => by have w1 := w.1; have w2 := w.2.1; have w3 := w.2.2.1; have w4 := w.2.2.2; omega)]; exact r_MK; done) | (exfalso; omega; done) | (exfalso; contradiction; done)) r_WTS (show (m 94 58).toInt = 0 from by omega) (show qTp (qIf (0 ≤ nn.toInt ∧ nn.toInt ≤ 60 ∧ zSl r1) (if rf = 0 then lMk aa 17 nn 0 r1 else lMk aa 16 nn (-1) r1) aa) from by first | (rw [qIf_n (fun w => by have w1 := w.1; have w2 := w.2.1; have w3 := w.2.2.1; have w4 := w.2.2.2; omega)]; exact r_TP; done) | (exact r_TP) | (exfalso; omega; done) | (exfalso; contradiction; done))
  · skip
    have g9 := i_nlt h6
    have li10 : (60 : Int32).toInt = 60 := rfl
    refine zd (fun (h11 : (60 : Int32) < nn) => ?_) (fun (h11 : ¬ (60 : Int32) < nn) => ?_)
    · skip
      have g12 := i_lt h11
      have hV13 : zV (ma_u m 94 0 (1 : Int32)) := uf_94_0 hV
      exact K ((0 : Int32)) _ (zF_u zF_rfl rfl) hV13 r_W (show zGW (T + 1) (m 94 55) (m 109) from by first | (exact GW_up r_GW (by omega)) | (exfalso; omega; done) | (exfalso; contradiction; done)) (show zGU (T + 1) (m 94 46) (m 99) from by first | (exact GU_up r_GU (by omega)) | (exact GU_0 r_GU) | (exfalso; omega; done) | (exfalso; contradiction; done)) r_OW r_GG (show qRB (m 99) (m 100) (m 98) (m 101) (m 102) (m 103) (m 107) (m 108) (m 109) (m 111) (m 112) (m 113) (m 114) (m 94 55) (m 94 46) (m 94 11) 0 (m 94 59) 0 1 (qIf (0 ≤ nn.toInt ∧ nn.toInt ≤ 60 ∧ zSl r1) (if rf = 0 then lMk aa 17 nn 0 r1 else lMk aa 16 nn (-1) r1) aa) from by first | (rw [qIf_n (fun w => by have w1 := w.1; have w2 := w.2.1; have w3 := w.2.2.1; have w4 := w.2.2.2; omega)]; exact r_RB; done) | (exfalso; omega; done) | (exfalso; contradiction; done)) (show qI (qIf (0 ≤ nn.toInt ∧ nn.toInt ≤ 60 ∧ zSl r1) (if rf = 0 then lMk aa 17 nn 0 r1 else lMk aa 16 nn (-1) r1) aa) from by first | (rw [qIf_n (fun w => by have w1 := w.1; have w2 := w.2.1; have w3 := w.2.2.1; have w4 := w.2.2.2; omega)]; exact r_QI; done) | (exfalso; omega; done) | (exfalso; contradiction; done)) (show qMG (m 94 58) (m 106) (m 115) (m 94 57) (m 94 56) (m 99) (m 100) (qIf (0 ≤ nn.toInt ∧ nn.toInt ≤ 60 ∧ zSl r1) (if rf = 0 then lMk aa 17 nn 0 r1 else lMk aa 16 nn (-1) r1) aa) from by first | (rw [qIf_n (fun w => by have w1 := w.1; have w2 := w.2.1; have w3 := w.2.2.1; have w4 := w.2.2.2; omega)]; exact r_MG; done) | (exfalso; omega; done) | (exfalso; contradiction; done)) (show (qIf (0 ≤ nn.toInt ∧ nn.toInt ≤ 60 ∧ zSl r1) (if rf = 0 then lMk aa 17 nn 0 r1 else lMk aa 16 nn (-1) r1) aa) 87 8 = (m 94 58) from by first | (rw [qIf_n (fun w => by have w1 := w.1; have w2 := w.2.1; have w3 := w.2.2.1; have w4 := w.2.2.2; omega)]; exact r_MK; done) | (exfalso; omega; done) | (exfalso; contradiction; done)) r_WTS (show (m 94 58).toInt = 0 from by omega) (show qTp (qIf (0 ≤ nn.toInt ∧ nn.toInt ≤ 60 ∧ zSl r1) (if rf = 0 then lMk aa 17 nn 0 r1 else lMk aa 16 nn (-1) r1) aa) from by first | (rw [qIf_n (fun w => by have w1 := w.1; have w2 := w.2.1; have w3 := w.2.2.1; have w4 := w.2.2.2; omega)]; exact r_TP; done) | (exact r_TP) | (exfalso; omega; done) | (exfalso; contradiction; done))
    · skip
      have g14 := i_nlt h11
      have b15 := i_bd r1
      refine zd (fun (h16 : r1 < (0 : Int32)) => ?_) (fun (h16 : ¬ r1 < (0 : Int32)) => ?_)
      · skip
        have g17 := i_lt h16
        have hV18 : zV (ma_u m 94 0 (1 : Int32)) := uf_94_0 hV
        exact K ((0 : Int32)) _ (zF_u zF_rfl rfl) hV18 r_W (show zGW (T + 1) (m 94 55) (m 109) from by first | (exact GW_up r_GW (by omega)) | (exfalso; omega; done) | (exfalso; contradiction; done)) (show zGU (T + 1) (m 94 46) (m 99) from by first | (exact GU_up r_GU (by omega)) | (exact GU_0 r_GU) | (exfalso; omega; done) | (exfalso; contradiction; done)) r_OW r_GG (show qRB (m 99) (m 100) (m 98) (m 101) (m 102) (m 103) (m 107) (m 108) (m 109) (m 111) (m 112) (m 113) (m 114) (m 94 55) (m 94 46) (m 94 11) 0 (m 94 59) 0 1 (qIf (0 ≤ nn.toInt ∧ nn.toInt ≤ 60 ∧ zSl r1) (if rf = 0 then lMk aa 17 nn 0 r1 else lMk aa 16 nn (-1) r1) aa) from by first | (rw [qIf_n (fun w => by have w1 := w.1; have w2 := w.2.1; have w3 := w.2.2.1; have w4 := w.2.2.2; omega)]; exact r_RB; done) | (exfalso; omega; done) | (exfalso; contradiction; done)) (show qI (qIf (0 ≤ nn.toInt ∧ nn.toInt ≤ 60 ∧ zSl r1) (if rf = 0 then lMk aa 17 nn 0 r1 else lMk aa 16 nn (-1) r1) aa) from by first | (rw [qIf_n (fun w => by have w1 := w.1; have w2 := w.2.1; have w3 := w.2.2.1; have w4 := w.2.2.2; omega)]; exact r_QI; done) | (exfalso; omega; done) | (exfalso; contradiction; done)) (show qMG (m 94 58) (m 106) (m 115) (m 94 57) (m 94 56) (m 99) (m 100) (qIf (0 ≤ nn.toInt ∧ nn.toInt ≤ 60 ∧ zSl r1) (if rf = 0 then lMk aa 17 nn 0 r1 else lMk aa 16 nn (-1) r1) aa) from by first | (rw [qIf_n (fun w => by have w1 := w.1; have w2 := w.2.1; have w3 := w.2.2.1; have w4 := w.2.2.2; omega)]; exact r_MG; done) | (exfalso; omega; done) | (exfalso; contradiction; done)) (show (qIf (0 ≤ nn.toInt ∧ nn.toInt ≤ 60 ∧ zSl r1) (if rf = 0 then lMk aa 17 nn 0 r1 else lMk aa 16 nn (-1) r1) aa) 87 8 = (m 94 58) from by first | (rw [qIf_n (fun w => by have w1 := w.1; have w2 := w.2.1; have w3 := w.2.2.1; have w4 := w.2.2.2; omega)]; exact r_MK; done) | (exfalso; omega; done) | (exfalso; contradiction; done)) r_WTS (show (m 94 58).toInt = 0 from by omega) (show qTp (qIf (0 ≤ nn.toInt ∧ nn.toInt ≤ 60 ∧ zSl r1) (if rf = 0 then lMk aa 17 nn 0 r1 else lMk aa 16 nn (-1) r1) aa) from by first | (rw [qIf_n (fun w => by have w1 := w.1; have w2 := w.2.1; have w3 := w.2.2.1; have w4 := w.2.2.2; omega)]; exact r_TP; done) | (exact r_TP) | (exfalso; omega; done) | (exfalso; contradiction; done))
      · skip
        have g19 := i_nlt h16
        have li20 : (16 : Int32).toInt = 16 := rfl
        refine zd (fun (h21 : (16 : Int32) ≤ r1) => ?_) (fun (h21 : ¬ (16 : Int32) ≤ r1) => ?_)
        · skip
          have g22 := i_le h21
          have hV23 : zV (ma_u m 94 0 (1 : Int32)) := uf_94_0 hV
          exact K ((0 : Int32)) _ (zF_u zF_rfl rfl) hV23 r_W (show zGW (T + 1) (m 94 55) (m 109) from by first | (exact GW_up r_GW (by omega)) | (exfalso; omega; done) | (exfalso; contradiction; done)) (show zGU (T + 1) (m 94 46) (m 99) from by first | (exact GU_up r_GU (by omega)) | (exact GU_0 r_GU) | (exfalso; omega; done) | (exfalso; contradiction; done)) r_OW r_GG (show qRB (m 99) (m 100) (m 98) (m 101) (m 102) (m 103) (m 107) (m 108) (m 109) (m 111) (m 112) (m 113) (m 114) (m 94 55) (m 94 46) (m 94 11) 0 (m 94 59) 0 1 (qIf (0 ≤ nn.toInt ∧ nn.toInt ≤ 60 ∧ zSl r1) (if rf = 0 then lMk aa 17 nn 0 r1 else lMk aa 16 nn (-1) r1) aa) from by first | (rw [qIf_n (fun w => by have w1 := w.1; have w2 := w.2.1; have w3 := w.2.2.1; have w4 := w.2.2.2; omega)]; exact r_RB; done) | (exfalso; omega; done) | (exfalso; contradiction; done)) (show qI (qIf (0 ≤ nn.toInt ∧ nn.toInt ≤ 60 ∧ zSl r1) (if rf = 0 then lMk aa 17 nn 0 r1 else lMk aa 16 nn (-1) r1) aa) from by first | (rw [qIf_n (fun w => by have w1 := w.1; have w2 := w.2.1; have w3 := w.2.2.1; have w4 := w.2.2.2; omega)]; exact r_QI; done) | (exfalso; omega; done) | (exfalso; contradiction; done)) (show qMG (m 94 58) (m 106) (m 115) (m 94 57) (m 94 56) (m 99) (m 100) (qIf (0 ≤ nn.toInt ∧ nn.toInt ≤ 60 ∧ zSl r1) (if rf = 0 then lMk aa 17 nn 0 r1 else lMk aa 16 nn (-1) r1) aa) from by first | (rw [qIf_n (fun w => by have w1 := w.1; have w2 := w.2.1; have w3 := w.2.2.1; have w4 := w.2.2.2; omega)]; exact r_MG; done) | (exfalso; omega; done) | (exfalso; contradiction; done)) (show (qIf (0 ≤ nn.toInt ∧ nn.toInt ≤ 60 ∧ zSl r1) (if rf = 0 then lMk aa 17 nn 0 r1 else lMk aa 16 nn (-1) r1) aa) 87 8 = (m 94 58) from by first | (rw [qIf_n (fun w => by have w1 := w.1; have w2 := w.2.1; have w3 := w.2.2.1; have w4 := w.2.2.2; omega)]; exact r_MK; done) | (exfalso; omega; done) | (exfalso; contradiction; done)) r_WTS (show (m 94 58).toInt = 0 from by omega) (show qTp (qIf (0 ≤ nn.toInt ∧ nn.toInt ≤ 60 ∧ zSl r1) (if rf = 0 then lMk aa 17 nn 0 r1 else lMk aa 16 nn (-1) r1) aa) from by first | (rw [qIf_n (fun w => by have w1 := w.1; have w2 := w.2.1; have w3 := w.2.2.1; have w4 := w.2.2.2; omega)]; exact r_TP; done) | (exact r_TP) | (exfalso; omega; done) | (exfalso; contradiction; done))
        · skip
          have g24 := i_nle h21
          refine zd (fun (h25 : (m 94 8) = (0 : Int32)) => ?_) (fun (h25 : ¬ (m 94 8) = (0 : Int32)) => ?_)
          · skip
            have g26 := i_eq h25
            exfalso; omega
          · skip
            have g27 := i_ne h25
            have b28 := i_bd rf
            refine zd (fun (h29 : rf = (0 : Int32)) => ?_) (fun (h29 : ¬ rf = (0 : Int32)) => ?_)
            · skip
              have g30 := i_eq h29
              have li31 : (17 : Int32).toInt = 17 := rfl
              have hV32 : zV (ma_u m 94 0 (0 : Int32)) := uf_94_0 hV
              have f33 : 0 ≤ (m 94 7).toInt ∧ (m 94 7).toInt ≤ 16 := rs_94_7 (m := m) hV
              refine sp_183rl (LL := (0 : Int64)) ((17 : Int32)) (nn) (r1) hV32 (by omega) (by omega) (by omega) (by omega) (by omega) (by omega) (by omega) (show 16 ≤ (17 : Int32).toInt ∨ (17 : Int32).toInt < (m 94 7).toInt from by omega) (by omega) r_W r_GW r_GU r_OW r_GG (show (m 94 10).toInt = 1 ∧ (m 94 58).toInt = 0 from by omega) (show (m 94 8).toInt = 1 from by omega) r_RB r_QI r_TP r_MG r_MK r_WTS (show ∀ j : Nat, (j : Int) < nn.toInt → (zbit (0 : Int64) (Int32.ofNat j) ≠ 0 ↔ ((17 : Int32) = 16 ∨ ((17 : Int32) < 16 ∧ (((m 98) (17 : Int32).toNatClampNeg >>> (Int32.ofNat j &&& 31)) &&& 1) = 1))) from by first | (exact fun j hj => ⟨fun _ => Or.inl rfl, fun _ => zb_all j (by omega)⟩) | (exact fun j hj => ⟨fun w => absurd (zb_non j (by omega)) w, fun w => w.elim (fun z => absurd z (by decide)) (fun z => absurd z.1 (by decide))⟩) | (exfalso; omega; done) | (exfalso; contradiction; done)) (fun v2 m1 hV_m1 p0_m1 p1_m1 p2_m1 p3_m1 p4_m1 p5_m1 p6_m1 p7_m1 p8_m1 p9_m1 p10_m1 p11_m1 p12_m1 => zmi_n ?_)
              have p0_m1 : zW (m 94 7) (m 98) (m1 101) (m1 102) (m1 108) := p0_m1
              have p1_m1 : zGW (T + 1) (m1 94 55) (m1 109) := p1_m1
              have p2_m1 : zGU (T + 1) (m1 94 46) (m1 99) := p2_m1
              have p3_m1 : zOw (m1 99) (m1 103) (m1 111) := p3_m1
              have p4_m1 : zGG (m1 94 58) (m1 94 56) (m1 94 57) (m1 106) := p4_m1
              have p5_m1 : qRB (m1 99) (m1 100) (m 98) (m1 101) (m1 102) (m1 103) (m1 107) (m1 108) (m1 109) (m1 111) (m1 112) (m1 113) (m1 114) (m1 94 55) (m1 94 46) (m 94 11) 0 (m1 94 59) 0 1 (lMk aa (17 : Int32) nn (0 : Int64) r1) := p5_m1
              have p6_m1 : qI (lMk aa (17 : Int32) nn (0 : Int64) r1) := p6_m1
              have p7_m1 : qMG (m1 94 58) (m1 106) (m1 115) (m1 94 57) (m1 94 56) (m1 99) (m1 100) (lMk aa (17 : Int32) nn (0 : Int64) r1) := p7_m1
              have p8_m1 : (lMk aa (17 : Int32) nn (0 : Int64) r1) 87 8 = (m1 94 58) := p8_m1
              have p9_m1 : (m1 94 45).toInt = sm (zbU (m1 99)) (m1 102) 3100 := p9_m1
              have p10_m1 : (m1 94 58).toInt = 0 := p10_m1
              have p11_m1 : v2 = lMn aa nn := p11_m1
              have p12_m1 : qTp (lMk aa (17 : Int32) nn (0 : Int64) r1) := p12_m1
              have f34 : 0 ≤ (m1 94 58).toInt ∧ (m1 94 58).toInt ≤ 1 := rs_94_58 (m := (zov wr_183 (ma_u m 94 0 (0 : Int32)) m1)) hV_m1
              have b35 := i_bd v2
              exact K (v2) _ (zF_zov (zF_u zF_rfl rfl) ws_183_243) hV_m1 p0_m1 p1_m1 p2_m1 p3_m1 p4_m1 (show qRB (m1 99) (m1 100) (m 98) (m1 101) (m1 102) (m1 103) (m1 107) (m1 108) (m1 109) (m1 111) (m1 112) (m1 113) (m1 114) (m1 94 55) (m1 94 46) (m 94 11) 0 (m1 94 59) 0 1 (qIf (0 ≤ nn.toInt ∧ nn.toInt ≤ 60 ∧ zSl r1) (if rf = 0 then lMk aa 17 nn 0 r1 else lMk aa 16 nn (-1) r1) aa) from by first | (rw [qIf_y ⟨by omega, by omega, by omega, by omega⟩, if_pos (i_zer (by omega))]; exact p5_m1; done) | (exfalso; omega; done) | (exfalso; contradiction; done)) (show qI (qIf (0 ≤ nn.toInt ∧ nn.toInt ≤ 60 ∧ zSl r1) (if rf = 0 then lMk aa 17 nn 0 r1 else lMk aa 16 nn (-1) r1) aa) from by first | (rw [qIf_y ⟨by omega, by omega, by omega, by omega⟩, if_pos (i_zer (by omega))]; exact p6_m1; done) | (exfalso; omega; done) | (exfalso; contradiction; done)) (show qMG (m1 94 58) (m1 106) (m1 115) (m1 94 57) (m1 94 56) (m1 99) (m1 100) (qIf (0 ≤ nn.toInt ∧ nn.toInt ≤ 60 ∧ zSl r1) (if rf = 0 then lMk aa 17 nn 0 r1 else lMk aa 16 nn (-1) r1) aa) from by first | (rw [qIf_y ⟨by omega, by omega, by omega, by omega⟩, if_pos (i_zer (by omega))]; exact p7_m1; done) | (exfalso; omega; done) | (exfalso; contradiction; done)) (show (qIf (0 ≤ nn.toInt ∧ nn.toInt ≤ 60 ∧ zSl r1) (if rf = 0 then lMk aa 17 nn 0 r1 else lMk aa 16 nn (-1) r1) aa) 87 8 = (m1 94 58) from by first | (rw [qIf_y ⟨by omega, by omega, by omega, by omega⟩, if_pos (i_zer (by omega))]; exact p8_m1; done) | (exfalso; omega; done) | (exfalso; contradiction; done)) p9_m1 (show (m1 94 58).toInt = 0 from by omega) (show qTp (qIf (0 ≤ nn.toInt ∧ nn.toInt ≤ 60 ∧ zSl r1) (if rf = 0 then lMk aa 17 nn 0 r1 else lMk aa 16 nn (-1) r1) aa) from by first | (rw [qIf_y ⟨by omega, by omega, by omega, by omega⟩, if_pos (i_zer (by omega))]; exact p12_m1; done) | (exact p12_m1) | (exfalso; omega; done) | (exfalso; contradiction; done))
            · skip
              have g36 := i_ne h29
              have hV37 : zV (ma_u m 94 0 (0 : Int32)) := uf_94_0 hV
              have f38 : 0 ≤ (m 94 7).toInt ∧ (m 94 7).toInt ≤ 16 := rs_94_7 (m := m) hV
              refine sp_183rl (LL := (-1 : Int64)) ((16 : Int32)) (nn) (r1) hV37 (by omega) (by omega) (by omega) (by omega) (by omega) (by omega) (by omega) (show 16 ≤ (16 : Int32).toInt ∨ (16 : Int32).toInt < (m 94 7).toInt from by omega) (by omega) r_W r_GW r_GU r_OW r_GG (show (m 94 10).toInt = 1 ∧ (m 94 58).toInt = 0 from by omega) (show (m 94 8).toInt = 1 from by omega) r_RB r_QI r_TP r_MG r_MK r_WTS (show ∀ j : Nat, (j : Int) < nn.toInt → (zbit (-1 : Int64) (Int32.ofNat j) ≠ 0 ↔ ((16 : Int32) = 16 ∨ ((16 : Int32) < 16 ∧ (((m 98) (16 : Int32).toNatClampNeg >>> (Int32.ofNat j &&& 31)) &&& 1) = 1))) from by first | (exact fun j hj => ⟨fun _ => Or.inl rfl, fun _ => zb_all j (by omega)⟩) | (exact fun j hj => ⟨fun w => absurd (zb_non j (by omega)) w, fun w => w.elim (fun z => absurd z (by decide)) (fun z => absurd z.1 (by decide))⟩) | (exfalso; omega; done) | (exfalso; contradiction; done)) (fun v4 m3 hV_m3 p0_m3 p1_m3 p2_m3 p3_m3 p4_m3 p5_m3 p6_m3 p7_m3 p8_m3 p9_m3 p10_m3 p11_m3 p12_m3 => zmi_n ?_)
              have p0_m3 : zW (m 94 7) (m 98) (m3 101) (m3 102) (m3 108) := p0_m3
              have p1_m3 : zGW (T + 1) (m3 94 55) (m3 109) := p1_m3
              have p2_m3 : zGU (T + 1) (m3 94 46) (m3 99) := p2_m3
              have p3_m3 : zOw (m3 99) (m3 103) (m3 111) := p3_m3
              have p4_m3 : zGG (m3 94 58) (m3 94 56) (m3 94 57) (m3 106) := p4_m3
              have p5_m3 : qRB (m3 99) (m3 100) (m 98) (m3 101) (m3 102) (m3 103) (m3 107) (m3 108) (m3 109) (m3 111) (m3 112) (m3 113) (m3 114) (m3 94 55) (m3 94 46) (m 94 11) 0 (m3 94 59) 0 1 (lMk aa (16 : Int32) nn (-1 : Int64) r1) := p5_m3
              have p6_m3 : qI (lMk aa (16 : Int32) nn (-1 : Int64) r1) := p6_m3
              have p7_m3 : qMG (m3 94 58) (m3 106) (m3 115) (m3 94 57) (m3 94 56) (m3 99) (m3 100) (lMk aa (16 : Int32) nn (-1 : Int64) r1) := p7_m3
              have p8_m3 : (lMk aa (16 : Int32) nn (-1 : Int64) r1) 87 8 = (m3 94 58) := p8_m3
              have p9_m3 : (m3 94 45).toInt = sm (zbU (m3 99)) (m3 102) 3100 := p9_m3
              have p10_m3 : (m3 94 58).toInt = 0 := p10_m3
              have p11_m3 : v4 = lMn aa nn := p11_m3
              have p12_m3 : qTp (lMk aa (16 : Int32) nn (-1 : Int64) r1) := p12_m3
              have f39 : 0 ≤ (m3 94 58).toInt ∧ (m3 94 58).toInt ≤ 1 := rs_94_58 (m := (zov wr_183 (ma_u m 94 0 (0 : Int32)) m3)) hV_m3
              have b40 := i_bd v4
              exact K (v4) _ (zF_zov (zF_u zF_rfl rfl) ws_183_243) hV_m3 p0_m3 p1_m3 p2_m3 p3_m3 p4_m3 (show qRB (m3 99) (m3 100) (m 98) (m3 101) (m3 102) (m3 103) (m3 107) (m3 108) (m3 109) (m3 111) (m3 112) (m3 113) (m3 114) (m3 94 55) (m3 94 46) (m 94 11) 0 (m3 94 59) 0 1 (qIf (0 ≤ nn.toInt ∧ nn.toInt ≤ 60 ∧ zSl r1) (if rf = 0 then lMk aa 17 nn 0 r1 else lMk aa 16 nn (-1) r1) aa) from by first | (rw [qIf_y ⟨by omega, by omega, by omega, by omega⟩, if_neg (i_nz2 (by omega))]; exact p5_m3; done) | (exfalso; omega; done) | (exfalso; contradiction; done)) (show qI (qIf (0 ≤ nn.toInt ∧ nn.toInt ≤ 60 ∧ zSl r1) (if rf = 0 then lMk aa 17 nn 0 r1 else lMk aa 16 nn (-1) r1) aa) from by first | (rw [qIf_y ⟨by omega, by omega, by omega, by omega⟩, if_neg (i_nz2 (by omega))]; exact p6_m3; done) | (exfalso; omega; done) | (exfalso; contradiction; done)) (show qMG (m3 94 58) (m3 106) (m3 115) (m3 94 57) (m3 94 56) (m3 99) (m3 100) (qIf (0 ≤ nn.toInt ∧ nn.toInt ≤ 60 ∧ zSl r1) (if rf = 0 then lMk aa 17 nn 0 r1 else lMk aa 16 nn (-1) r1) aa) from by first | (rw [qIf_y ⟨by omega, by omega, by omega, by omega⟩, if_neg (i_nz2 (by omega))]; exact p7_m3; done) | (exfalso; omega; done) | (exfalso; contradiction; done)) (show (qIf (0 ≤ nn.toInt ∧ nn.toInt ≤ 60 ∧ zSl r1) (if rf = 0 then lMk aa 17 nn 0 r1 else lMk aa 16 nn (-1) r1) aa) 87 8 = (m3 94 58) from by first | (rw [qIf_y ⟨by omega, by omega, by omega, by omega⟩, if_neg (i_nz2 (by omega))]; exact p8_m3; done) | (exfalso; omega; done) | (exfalso; contradiction; done)) p9_m3 (show (m3 94 58).toInt = 0 from by omega) (show qTp (qIf (0 ≤ nn.toInt ∧ nn.toInt ≤ 60 ∧ zSl r1) (if rf = 0 then lMk aa 17 nn 0 r1 else lMk aa 16 nn (-1) r1) aa) from by first | (rw [qIf_y ⟨by omega, by omega, by omega, by omega⟩, if_neg (i_nz2 (by omega))]; exact p12_m3; done) | (exact p12_m3) | (exfalso; omega; done) | (exfalso; contradiction; done))

/-! from 95.r16 -/
/-! the reference where it moves (written by wip/tools/gen15r.py) -/
/-! COPYING IN THE REFERENCE: who came (kp, the row ca, cat of cm done), held against a walk's queue -/
/-- no more in the queue than came -/
def zWk (c : Nat → Nat → Int32) : Prop := (c 75 4).toInt ≤ (cnt (c 77) 512 : Int) ∧ xFp c
def qCQ (kp ca us nr : Nat → Int32) (cat cm : Int32) (c : Nat → Nat → Int32) : Prop := (c 75 3 = cat ∧ c 75 4 = cm) ∧ zFQ c ∧ zWk c ∧ (∀ s, s < 3100 → kp s ≠ 0 → us s ≠ 0) ∧ (∀ s, s < 3100 → us s ≠ 0 → (kp s ≠ 0 ↔ c 77 (nr s).toNatClampNeg ≠ 0)) ∧ ∀ j : Nat, (j : Int) < cm.toInt → (0 ≤ (ca j).toInt ∧ (ca j).toInt < 3100 ∧ us (ca j).toNatClampNeg ≠ 0) ∧ c 76 j = nr (ca j).toNatClampNeg
/-- where they are: those that came one behind another from st on (to is next), the others where they were (AT), within ot and r words -/
def qCP (us kp ca at2 ow2 AT : Nat → Int32) (cm to : Int32) (st ot r : Int) (c : Nat → Nat → Int32) : Prop := (∀ j : Nat, (j : Int) < cm.toInt → (at2 (ca j).toNatClampNeg).toInt = zPs c st j) ∧ to.toInt = zPs c st cm.toInt.toNat ∧ (∀ s, s < 3100 → us s ≠ 0 → kp s = 0 → at2 s = AT s) ∧ qR7 us at2 ow2 ∧ (0 ≤ st ∧ 0 ≤ r ∧ st + r ≤ 3000 ∧ (ot + r ≤ st ∨ st + r ≤ ot)) ∧ (∀ n, xAl c n → ot ≤ (c 130 n).toInt ∧ (c 130 n).toInt + (c 128 n).toInt ≤ ot + r) ∧ qSu c 512 ≤ r
def qHB (us nr kr kd ws AT ho wd wi OW rt wk wl : Nat → Int32) (wm nu ro fo le ra pi : Int32) (kp ca : Nat → Int32) (cat cm : Int32) (at2 ow2 : Nat → Int32) (to : Int32) (st ot r : Int) (c : Nat → Nat → Int32) : Prop := qRB us nr kr kd ws AT ho wd wi OW rt wk wl wm nu ro fo le ra pi c ∧ qI c ∧ qCQ kp ca us nr cat cm c ∧ qCP us kp ca at2 ow2 AT cm to st ot r c
section F9
variable {a b c d : Nat → Nat → Int32} {us nr kr kd ws AT at2 at3 ho wd wi OW ow2 ow3 rt wk wl kp kp₉ ca ca₉ : Nat → Int32} {wm nu ro fo le ra pi cat cm cm₉ to to₉ s x y i l : Int32} {st ot r : Int} {j k n f : Nat}
theorem Sj_le (hI : qI c) (h : zFQ c) (hk : n < 512) (ha : c 126 n ≠ 0) (hn : c 77 n = 0) : zSj c (c 75 4).toInt.toNat 512 + (c 128 n).toInt ≤ qSu c 512 := by
  have g : ∀ N, N ≤ 512 → zSj c (c 75 4).toInt.toNat N + (if n < N then (c 128 n).toInt else 0) ≤ qSu c N := by
    intro N
    induction N with
    | zero =>
      intro _
      rw [if_neg (by omega)]
      exact Int.le_refl _
    | succ N ih =>
      intro hN
      have q := ih (by omega)
      show zSj c (c 75 4).toInt.toNat N + _ + _ ≤ qSu c N + (if c 126 N ≠ 0 then (c 128 N).toInt else 0)
      by_cases w : N = n
      · have no : ¬ zIn c (c 75 4).toInt.toNat N := by
          rintro ⟨i, hi, e⟩
          have z := h.1 i (by omega)
          have t := tn_of (x := N) (by omega)
          rw [e, t, w] at z
          exact z.2.2.1 hn
        rw [if_neg (by omega)] at q
        rw [if_neg (dc_n no), if_pos (by omega), if_pos (by rw [w]; exact ha), w]
        rw [w] at q
        omega
      · have e2 : (if n < N + 1 then (c 128 n).toInt else 0) = (if n < N then (c 128 n).toInt else 0) := by
          by_cases z : n < N
          · rw [if_pos z, if_pos (by omega)]
          · rw [if_neg z, if_neg (by omega)]
        rw [e2]
        by_cases z : zIn c (c 75 4).toInt.toNat N
        · have al : c 126 N ≠ 0 := by
            obtain ⟨i, hi, e⟩ := z
            have g := h.1 i (by omega)
            rw [e, tn_of (by omega)] at g
            exact g.2.2.2
          rw [if_pos (dc_y z), if_pos al]
          omega
        · rw [if_neg (dc_n z)]
          by_cases al : c 126 N ≠ 0
          · rw [if_pos al]
            have := (hI.1 N ⟨by omega, al⟩).2.1.1
            omega
          · rw [if_neg al]
            omega
  have q := g 512 (by omega)
  rw [if_pos hk] at q
  exact q
theorem cc_of2 (h : zWk c) (h0 : 0 ≤ y.toInt) (h1 : y.toInt < 512) (ha : c 126 y.toNatClampNeg ≠ 0) (hw : c 77 y.toNatClampNeg = 0) : aCc c y := by
  have hn : y.toNatClampNeg < 512 := by
    have := tn_cast h0
    omega
  have ct := cnt_lt (r := c 77) hn hw
  have p := h.2.2 _ ⟨hn, ha⟩
  have f := h.2.1
  have q := h.1
  exact ⟨h0, h1, ha, by omega, by omega, hw⟩
theorem Wk_cm (h : zWk c) : zWk (aCm c y) := by
  by_cases hc : aCc c y
  · have e7 : aCm c y 77 = ma_u c 77 y.toNatClampNeg 1 77 := by
      rw [aCm_y hc, ma_u_ne _ _ _ (by decide), ma_u_ne _ _ _ (by decide)]
    have e4 : aCm c y 75 4 = c 75 4 + 1 := by
      rw [aCm_y hc]
      exact xu_s
    have hn : y.toNatClampNeg < 512 := by
      have := tn_cast hc.1
      have := hc.2.1
      omega
    have u := cnt_up (m := c) (c := 77) (x := (1 : Int32)) hn hc.2.2.2.2.2 (by decide)
    have b := i_bd (c 75 4)
    have l := hc.2.2.2.2.1
    have e1 : (c 75 4 + 1).toInt = (c 75 4).toInt + 1 := i_p1 (by omega)
    refine ⟨?_, ?_, fun x hx => ?_⟩
    · rw [e7, e4, e1, u]
      have := h.1
      omega
    · rw [aCm_y hc, xu_o (by omega), xu_o (by omega), xu_o (by omega)]
      exact h.2.1
    · rw [aCm_o ⟨by decide, by decide, by decide⟩]
      exact h.2.2 x ((Of_al cm_of).mp hx)
  · rw [aCm_n hc]
    exact h
theorem Wk_of (h : zWQ c) : zWk c := ⟨h.1.2.2, h.2.2.2.2.2⟩
theorem cm_r (h : aCc c y) : aCm c y 75 3 = c 75 3 ∧ aCm c y 75 4 = c 75 4 + 1 ∧ (∀ j, j ≠ (c 75 4).toNatClampNeg → aCm c y 76 j = c 76 j) ∧ aCm c y 76 (c 75 4).toNatClampNeg = y ∧ (∀ x, x ≠ y.toNatClampNeg → aCm c y 77 x = c 77 x) ∧ aCm c y 77 y.toNatClampNeg = 1 := by
  rw [aCm_y h]
  exact ⟨by rw [xu_o (by omega), xu_o (by omega), xu_o (by omega)], xu_s, fun j w => by rw [xu_o (by omega), xu_o (fun z => w z.2), xu_o (by omega)], by rw [xu_o (by omega), xu_s], fun x w => by rw [xu_o (by omega), xu_o (by omega), xu_o (fun z => w z.2)], by rw [xu_o (by omega), xu_o (by omega), xu_s]⟩
theorem CQ_cc (h : qCQ kp ca us nr cat cm c) (hR : qR1 us nr ws AT ho c) (h0 : 0 ≤ s.toInt) (h3 : s.toInt ≤ 3099) (hu : us s.toNatClampNeg ≠ 0) (hk : kp s.toNatClampNeg = 0) : aCc c (nr s.toNatClampNeg) ∧ c 77 (nr s.toNatClampNeg).toNatClampNeg = 0 := by
  have q := hR.1 _ (tn_lt h0 (by omega)) hu
  have w : c 77 (nr s.toNatClampNeg).toNatClampNeg = 0 := by
    by_cases z : c 77 (nr s.toNatClampNeg).toNatClampNeg = 0
    · exact z
    · exact absurd ((h.2.2.2.2.1 _ (tn_lt h0 (by omega)) hu).mpr z) (fun z => z hk)
  exact ⟨cc_of2 h.2.2.1 q.1.1 q.1.2 q.2.1 w, w⟩
theorem kQ_push (h : qCQ kp ca us nr cat cm c) (hR : qR1 us nr ws AT ho c) (h0 : 0 ≤ s.toInt) (h3 : s.toInt ≤ 3099) (hu : us s.toNatClampNeg ≠ 0) (hk : kp s.toNatClampNeg = 0) (e1 : ∀ t, kp₉ t = if t = s.toNatClampNeg then 1 else kp t) (e2 : ∀ t, ca₉ t = if t = cm.toNatClampNeg then s else ca t) (e3 : cm₉ = cm + 1) : qCQ kp₉ ca₉ us nr cat cm₉ (aCm c (nr s.toNatClampNeg)) := by
  have cc := CQ_cc h hR h0 h3 hu hk
  have r := cm_r cc.1
  obtain ⟨⟨q1, q2⟩, q3, q4, q5, q6, q7⟩ := h
  have q44 := q3.2.2.2
  rw [q2] at q44 r
  have sl := tn_lt h0 (by omega : s.toInt < 3100)
  have ecm : (cm + 1).toInt = cm.toInt + 1 := i_p1 (by omega)
  have tc := tn_cast (x := cm) (by omega)
  have n5 := hR.1 _ sl hu
  refine ⟨⟨r.1.trans q1, by rw [r.2.1, e3]⟩, FQ_cm q3, Wk_cm q4, fun t ht w => ?_, fun t ht hut => ?_, fun j hj => ?_⟩
  · by_cases z : t = s.toNatClampNeg
    · rw [z]
      exact hu
    · rw [e1 t, if_neg z] at w
      exact q5 t ht w
  · by_cases z : t = s.toNatClampNeg
    · rw [e1 t, if_pos z, z, r.2.2.2.2.2]
    · have ne : (nr t).toNatClampNeg ≠ (nr s.toNatClampNeg).toNatClampNeg := fun w => z (R1_in hR ht sl hut hu w)
      rw [e1 t, if_neg z, r.2.2.2.2.1 _ ne]
      exact q6 t ht hut
  · rw [e3, ecm] at hj
    by_cases z : j = cm.toNatClampNeg
    · rw [e2 j, if_pos z, z, r.2.2.2.1]
      exact ⟨⟨h0, by omega, hu⟩, rfl⟩
    · rw [e2 j, if_neg z, r.2.2.1 j z]
      exact q7 j (by omega)
theorem kQ_skip (h : qCQ kp ca us nr cat cm c) (hR : qR1 us nr ws AT ho c) (hs : s.toInt < 0 ∨ (0 ≤ s.toInt ∧ s.toInt ≤ 3099 ∧ us s.toNatClampNeg ≠ 0 ∧ kp s.toNatClampNeg ≠ 0)) : aCm c (qNo nr s) = c := by
  refine aCm_n (fun z => ?_)
  rcases hs with w | ⟨h0, h3, hu, hk⟩
  · have z1 := z.1
    rw [No_n w] at z1
    exact absurd z1 (by decide)
  · have z6 := z.2.2.2.2.2
    rw [No_y h0] at z6
    exact (h.2.2.2.2.1 _ (tn_lt h0 (by omega)) hu).mp hk z6
theorem Ps_push (h : ∀ k, k < j → b 76 k = a 76 k) (e2 : b 128 = a 128) : ∀ i, i ≤ j → zPs b st i = zPs a st i := by
  intro i
  induction i with
  | zero => intro _; rfl
  | succ i ih =>
    intro hi
    unfold zPs
    rw [ih (by omega), h i (by omega), e2]
theorem CP_to (h : qCP us kp ca at2 ow2 AT cm to st ot r c) (hQ : qCQ kp ca us nr cat cm c) (hI : qI c) (hR : qR1 us nr ws AT ho c) (h0 : 0 ≤ s.toInt) (h3 : s.toInt ≤ 3099) (hu : us s.toNatClampNeg ≠ 0) (hk : kp s.toNatClampNeg = 0) : st ≤ to.toInt ∧ to.toInt + (ws s.toNatClampNeg).toInt + 1 ≤ st + r := by
  have cc := CQ_cc hQ hR h0 h3 hu hk
  have q := hR.1 _ (tn_lt h0 (by omega)) hu
  have n5 := tn_cast q.1.1
  have l := Sj_le hI hQ.2.1 (n := (nr s.toNatClampNeg).toNatClampNeg) (by omega) q.2.1 cc.2
  have sz : (c 128 (nr s.toNatClampNeg).toNatClampNeg).toInt = (ws s.toNatClampNeg).toInt + 1 := by
    rw [q.2.2.1]
    exact i_addk rfl (by have := q.2.2.2.2.2.1; omega) (by have := q.2.2.2.2.2.1; omega)
  have q44 := hQ.2.1.2.2.2
  have p := Ps_sj (st := st) hQ.2.1 (c 75 4).toInt.toNat (by omega)
  have g := Ps_le (st := st) hI hQ.2.1 (c 75 4).toInt.toNat (by omega) 0 (by omega)
  have g2 : st ≤ zPs c st (c 75 4).toInt.toNat := g
  have e := h.2.1
  rw [← hQ.1.2] at e
  have su := h.2.2.2.2.2.2
  omega
theorem kP_push (h : qCP us kp ca at2 ow2 AT cm to st ot r c) (hQ : qCQ kp ca us nr cat cm c) (hI : qI c) (hR : qR1 us nr ws AT ho c) (h0 : 0 ≤ s.toInt) (h3 : s.toInt ≤ 3099) (hu : us s.toNatClampNeg ≠ 0) (hk : kp s.toNatClampNeg = 0) (e1 : ∀ t, kp₉ t = if t = s.toNatClampNeg then 1 else kp t) (e2 : ∀ t, ca₉ t = if t = cm.toNatClampNeg then s else ca t) (e3 : cm₉ = cm + 1) (hm : zmov s to at2 ow2 at3 ow3) (e4 : to₉.toInt = to.toInt + ((ws s.toNatClampNeg).toInt + 1)) : qCP us kp₉ ca₉ at3 ow3 AT cm₉ to₉ st ot r (aCm c (nr s.toNatClampNeg)) := by
  have bt := CP_to h hQ hI hR h0 h3 hu hk
  have cc := CQ_cc hQ hR h0 h3 hu hk
  have rr := cm_r cc.1
  obtain ⟨⟨q1, q2⟩, q3, q4, q5, q6, q7⟩ := hQ
  have q44 := q3.2.2.2
  rw [q2] at q44 rr
  have sl := tn_lt h0 (by omega : s.toInt < 3100)
  have ecm : (cm + 1).toInt = cm.toInt + 1 := i_p1 (by omega)
  have tc := tn_cast (x := cm) (by omega)
  have rs := hR.1 _ sl hu
  have sz : (c 128 (nr s.toNatClampNeg).toNatClampNeg).toInt = (ws s.toNatClampNeg).toInt + 1 := by
    rw [rs.2.2.1]
    exact i_addk rfl (by have := rs.2.2.2.2.2.1; omega) (by have := rs.2.2.2.2.2.1; omega)
  obtain ⟨p1, p2, p3, p4, p5, p6, p7⟩ := h
  have q2i := congrArg Int32.toInt q2
  have p2c : to.toInt = zPs c st cm.toNatClampNeg := p2
  have o8 : aCm c (nr s.toNatClampNeg) 128 = c 128 := funext (fun k => aCm_o ⟨by decide, by decide, by decide⟩)
  have o6 : aCm c (nr s.toNatClampNeg) 126 = c 126 := funext (fun k => aCm_o ⟨by decide, by decide, by decide⟩)
  have o3 : aCm c (nr s.toNatClampNeg) 130 = c 130 := funext (fun k => aCm_o ⟨by decide, by decide, by decide⟩)
  have ps : ∀ i, i ≤ cm.toNatClampNeg → zPs (aCm c (nr s.toNatClampNeg)) st i = zPs c st i := Ps_push (fun k hk => rr.2.2.1 k (by omega)) o8
  have cn : cm.toInt.toNat = cm.toNatClampNeg := rfl
  have a3 : (at3 s.toNatClampNeg).toInt = to.toInt := mv_s hm
  have ao : ∀ t, t ≠ s.toNatClampNeg → at3 t = at2 t := fun t ht => by
    rcases hm with ⟨w, _, _⟩ | ⟨w, _, _⟩
    · rw [w]
    · rw [w t, if_neg ht]
  have ca_ne : ∀ j : Nat, (j : Int) < cm.toInt → (ca j).toNatClampNeg ≠ s.toNatClampNeg := fun j hj z => by
    have g := (q3.1 j (by rw [q2]; exact hj)).2.2.1
    rw [(q7 j hj).2, z] at g
    exact g cc.2
  have al := fun n => (Of_al (x := n) (cm_of (a := c) (y := nr s.toNatClampNeg)))
  refine ⟨fun j hj => ?_, ?_, fun t ht hut hkt => ?_, fun t ht hut => ?_, p5, fun n hn => ?_, ?_⟩
  · rw [e3, ecm] at hj
    by_cases z : j = cm.toNatClampNeg
    · rw [e2 j, if_pos z, a3, z, ps _ (by omega), p2, cn]
    · rw [e2 j, if_neg z, ao _ (ca_ne j (by omega)), ps j (by omega)]
      exact p1 j (by omega)
  · rw [e4, e3, show (cm + 1).toInt.toNat = cm.toNatClampNeg + 1 from by omega]
    show _ = zPs (aCm c (nr s.toNatClampNeg)) st cm.toNatClampNeg + _
    rw [ps _ (by omega), rr.2.2.2.1, o8, sz, p2, cn]
  · have z : t ≠ s.toNatClampNeg := fun z => by
      rw [e1 t, if_pos z] at hkt
      exact absurd hkt (by decide)
    rw [e1 t, if_neg z] at hkt
    rw [ao t z]
    exact p3 t ht hut hkt
  · rcases hm with ⟨w1, w2, _⟩ | ⟨w1, w2, w3⟩
    · rw [w1, w2]
      exact p4 t ht hut
    · by_cases z : t = s.toNatClampNeg
      · rw [w1 t, if_pos z, w2, z]
        exact (ofN_tn h0).symm
      · rw [w1 t, if_neg z]
        have rt := hR.1 t ht hut
        have ne : ((at2 t).toNatClampNeg : Int) ≠ (to.toNatClampNeg : Int) := by
          have t0 := tn_cast (x := to) (by omega)
          by_cases kk : kp t = 0
          · have g := p6 _ (R1_al hR ht hut)
            rw [rt.2.2.2.1] at g
            have sz2 := (hI.1 _ (R1_al hR ht hut)).2.1.1
            have e5 := p3 t ht hut kk
            rw [e5]
            have t1 := tn_cast (x := AT t) rt.2.2.2.2.2.2
            omega
          · obtain ⟨j, hj, e⟩ := q3.2.2.1 _ (by have := tn_cast rt.1.1; omega) ((q6 t ht hut).mp kk)
            rw [q2] at hj
            have ej := q7 j hj
            have et : (ca j).toNatClampNeg = t := by
              refine R1_in hR (by have := tn_cast ej.1.1; omega) ht ej.1.2.2 hut ?_
              rw [← ej.2, e]
              exact tn_of (by have := tn_cast rt.1.1; omega)
            have pj := p1 j hj
            rw [et] at pj
            have l1 := Ps_le (st := st) hI q3 cm.toNatClampNeg (by omega) (j + 1) (by omega)
            have l2 : zPs c st (j + 1) = zPs c st j + (c 128 (c 76 j).toNatClampNeg).toInt := rfl
            have l3 := (hI.1 _ (FQ_al q3 (j := j) (by rw [q2]; exact hj)).1).2.1.1
            have l4 := Ps_le (st := st) hI q3 j (by omega) 0 (by omega)
            have l5 : st ≤ zPs c st j := l4
            have t1 := tn_cast (x := at2 t) (by omega)
            omega
        rcases w3 (at2 t).toNatClampNeg (fun z2 => ne (by rw [z2])) with g | g
        · rw [g]
          exact p4 t ht hut
        · have g2 := p4 t ht hut
          rw [g.2.1] at g2
          have g3 := congrArg Int32.toInt g2
          rw [ofN_s ht] at g3
          exact absurd (by have := tn_cast h0; omega) z
  · rw [o3, o8]
    exact p6 n ((al n).mp hn)
  · rw [Su_cg o6 o8]
    exact p7
theorem HB_push (h : qHB us nr kr kd ws AT ho wd wi OW rt wk wl wm nu ro fo le ra pi kp ca cat cm at2 ow2 to st ot r c) (h0 : 0 ≤ s.toInt) (h3 : s.toInt ≤ 3099) (hu : us s.toNatClampNeg ≠ 0) (hk : kp s.toNatClampNeg = 0) (e1 : ∀ t, kp₉ t = if t = s.toNatClampNeg then 1 else kp t) (e2 : ∀ t, ca₉ t = if t = cm.toNatClampNeg then s else ca t) (e3 : cm₉ = cm + 1) (hm : zmov s to at2 ow2 at3 ow3) (e4 : to₉.toInt = to.toInt + ((ws s.toNatClampNeg).toInt + 1)) : qHB us nr kr kd ws AT ho wd wi OW rt wk wl wm nu ro fo le ra pi kp₉ ca₉ cat cm₉ at3 ow3 to₉ st ot r (aCm c (qNo nr s)) := by
  rw [No_y h0]
  exact ⟨RB_of h.1 cm_of, qI_of h.2.1 cm_of, kQ_push h.2.2.1 h.1.1 h0 h3 hu hk e1 e2 e3, kP_push h.2.2.2 h.2.2.1 h.2.1 h.1.1 h0 h3 hu hk e1 e2 e3 hm e4⟩
theorem HB_skip (h : qHB us nr kr kd ws AT ho wd wi OW rt wk wl wm nu ro fo le ra pi kp ca cat cm at2 ow2 to st ot r c) (hs : s.toInt < 0 ∨ (0 ≤ s.toInt ∧ s.toInt ≤ 3099 ∧ us s.toNatClampNeg ≠ 0 ∧ kp s.toNatClampNeg ≠ 0)) : qHB us nr kr kd ws AT ho wd wi OW rt wk wl wm nu ro fo le ra pi kp ca cat cm at2 ow2 to st ot r (aCm c (qNo nr s)) := by
  rw [kQ_skip h.2.2.1 h.1.1 hs]
  exact h
theorem HB_b (h : qHB us nr kr kd ws AT ho wd wi OW rt wk wl wm nu ro fo le ra pi kp ca cat cm at2 ow2 to st ot r c) : (0 ≤ cat.toInt ∧ cat.toInt ≤ cm.toInt ∧ cm.toInt ≤ 512) ∧ 0 ≤ st ∧ st ≤ to.toInt := by
  have q := h.2.2.1.2.1.2.2.2
  rw [h.2.2.1.1.1, h.2.2.1.1.2] at q
  have g := Ps_le (st := st) h.2.1 h.2.2.1.2.1 cm.toInt.toNat (by rw [h.2.2.1.1.2]; omega) 0 (by omega)
  have g2 : st ≤ zPs c st cm.toInt.toNat := g
  have e := h.2.2.2.2.1
  have p := h.2.2.2.2.2.2.2.1
  exact ⟨q, p.1, by omega⟩
theorem HB_to (h : qHB us nr kr kd ws AT ho wd wi OW rt wk wl wm nu ro fo le ra pi kp ca cat cm at2 ow2 to st ot r c) (h0 : 0 ≤ s.toInt) (h3 : s.toInt ≤ 3099) (hu : us s.toNatClampNeg ≠ 0) (hk : kp s.toNatClampNeg = 0) : 0 ≤ to.toInt ∧ to.toInt + (ws s.toNatClampNeg).toInt + 1 ≤ 3000 ∧ to.toInt ≤ 2999 := by
  have g := CP_to h.2.2.2 h.2.2.1 h.2.1 h.1.1 h0 h3 hu hk
  have w0 := (h.1.1.1 _ (tn_lt h0 (by omega)) hu).2.2.2.2.2.1
  have p := h.2.2.2.2.2.2.2.1
  omega
/-! all that came -/
def qHS (us nr kr kd ws AT ho wd wi OW rt wk wl : Nat → Int32) (wm nu ro fo le ra pi : Int32) (kp ca : Nat → Int32) (cat cm : Int32) (at2 ow2 : Nat → Int32) (to : Int32) (st ot r : Int) (T : Nat → Nat → Int32) : Prop := ∃ (c : Nat → Nat → Int32) (f : Nat), qHB us nr kr kd ws AT ho wd wi OW rt wk wl wm nu ro fo le ra pi kp ca cat cm at2 ow2 to st ot r c ∧ aSp f c = T ∧ 512 ≤ (f : Int) + cat.toInt
def qHW (us nr kr kd ws AT ho wd wi OW rt wk wl : Nat → Int32) (wm nu ro fo le ra pi : Int32) (kp ca : Nat → Int32) (cat cm : Int32) (at2 ow2 : Nat → Int32) (to : Int32) (st ot r : Int) (s i : Int32) (T : Nat → Nat → Int32) : Prop := ∃ (c : Nat → Nat → Int32) (f : Nat), (qHB us nr kr kd ws AT ho wd wi OW rt wk wl wm nu ro fo le ra pi kp ca cat cm at2 ow2 to st ot r c ∧ aSp f (aCw c (nr s.toNatClampNeg).toNatClampNeg i) = T ∧ 512 ≤ (f : Int) + cat.toInt) ∧ 0 ≤ s.toInt ∧ s.toInt ≤ 3099 ∧ us s.toNatClampNeg ≠ 0
theorem HS_0 (h : qHB us nr kr kd ws AT ho wd wi OW rt wk wl wm nu ro fo le ra pi kp ca cat cm at2 ow2 to st ot r c) : qHS us nr kr kd ws AT ho wd wi OW rt wk wl wm nu ro fo le ra pi kp ca cat cm at2 ow2 to st ot r (aSp 512 c) := ⟨c, 512, h, rfl, by have := (HB_b h).1; omega⟩
theorem HS_b (h : qHS us nr kr kd ws AT ho wd wi OW rt wk wl wm nu ro fo le ra pi kp ca cat cm at2 ow2 to st ot r d) : (0 ≤ cat.toInt ∧ cat.toInt ≤ cm.toInt ∧ cm.toInt ≤ 512) ∧ 0 ≤ st ∧ st ≤ to.toInt := by
  obtain ⟨c, f, hB, _, _⟩ := h
  exact HB_b hB
theorem HS_end (h : qHS us nr kr kd ws AT ho wd wi OW rt wk wl wm nu ro fo le ra pi kp ca cat cm at2 ow2 to st ot r d) (hl : ¬ cat.toInt < cm.toInt) : qHB us nr kr kd ws AT ho wd wi OW rt wk wl wm nu ro fo le ra pi kp ca cat cm at2 ow2 to st ot r d := by
  obtain ⟨c, f, hB, hT, _⟩ := h
  have e : aSp f c = c := by
    cases f with
    | zero => rfl
    | succ f =>
      show (if (c 75 3).toInt < (c 75 4).toInt then _ else c) = c
      rw [hB.2.2.1.1.1, hB.2.2.1.1.2, if_neg hl]
  rw [← hT, e]
  exact hB
theorem HB_hd (h : qHB us nr kr kd ws AT ho wd wi OW rt wk wl wm nu ro fo le ra pi kp ca cat cm at2 ow2 to st ot r c) (hl : cat.toInt < cm.toInt) : qHB us nr kr kd ws AT ho wd wi OW rt wk wl wm nu ro fo le ra pi kp ca (cat + 1) cm at2 ow2 to st ot r (ma_u (ma_u c 75 3 (c 75 3 + 1)) 77 (c 76 (c 75 3).toNatClampNeg).toNatClampNeg 2) := by
  obtain ⟨hR, hI, ⟨⟨q1, q2⟩, q3, q4, q5, q6, q7⟩, p1, p2, p3, p4, p5, p6, p7⟩ := h
  have q44 := q3.2.2.2
  have e1 : (c 75 3 + 1).toInt = (c 75 3).toInt + 1 := i_p1 (by omega)
  have t := tn_cast (x := c 75 3) q44.1
  have hq := q3.1 (c 75 3).toNatClampNeg (by rw [q2, t, q1]; exact hl)
  generalize hz : (c 76 (c 75 3).toNatClampNeg).toNatClampNeg = z at *
  have of : zOf c (ma_u (ma_u c 75 3 (c 75 3 + 1)) 77 z 2) := fun c₉ k h1 h2 h3 => by rw [xu_o (fun w => h3 w.1), xu_o (fun w => h1 w.1)]
  have r3 : (ma_u (ma_u c 75 3 (c 75 3 + 1)) 77 z 2) 75 3 = c 75 3 + 1 := by rw [xu_o (by omega), xu_s]
  have r4 : (ma_u (ma_u c 75 3 (c 75 3 + 1)) 77 z 2) 75 4 = c 75 4 := by rw [xu_o (by omega), xu_o (by omega)]
  have r5 : (ma_u (ma_u c 75 3 (c 75 3 + 1)) 77 z 2) 75 5 = c 75 5 := by rw [xu_o (by omega), xu_o (by omega)]
  have r6 : (ma_u (ma_u c 75 3 (c 75 3 + 1)) 77 z 2) 76 = c 76 := by rw [ma_u_ne _ _ _ (by decide), ma_u_ne _ _ _ (by decide)]
  have rc : (ma_u (ma_u c 75 3 (c 75 3 + 1)) 77 z 2) 77 = ma_u c 77 z 2 77 := by
    funext k
    show (if (77 : Nat) = 77 ∧ k = z then (2 : Int32) else ma_u c 75 3 _ 77 k) = (if (77 : Nat) = 77 ∧ k = z then (2 : Int32) else c 77 k)
    rw [xu_o (by omega)]
  have r7 : ∀ x, (ma_u (ma_u c 75 3 (c 75 3 + 1)) 77 z 2) 77 x ≠ 0 ↔ c 77 x ≠ 0 := fun x => by
    rw [rc]
    by_cases w : x = z
    · rw [w, xu_s]
      exact ⟨fun _ => hq.2.2.1, fun _ => by decide⟩
    · rw [xu_o (fun y => w y.2)]
  have r26 : (ma_u (ma_u c 75 3 (c 75 3 + 1)) 77 z 2) 126 = c 126 := by rw [ma_u_ne _ _ _ (by decide), ma_u_ne _ _ _ (by decide)]
  have r28 : (ma_u (ma_u c 75 3 (c 75 3 + 1)) 77 z 2) 128 = c 128 := by rw [ma_u_ne _ _ _ (by decide), ma_u_ne _ _ _ (by decide)]
  have r30 : (ma_u (ma_u c 75 3 (c 75 3 + 1)) 77 z 2) 130 = c 130 := by rw [ma_u_ne _ _ _ (by decide), ma_u_ne _ _ _ (by decide)]
  have ps := Ps_cg (st := st) r6 r28
  generalize ma_u (ma_u c 75 3 (c 75 3 + 1)) 77 z 2 = B at *
  have al : ∀ x, xAl B x ↔ xAl c x := fun x => Of_al of
  refine ⟨RB_of hR of, qI_of hI of, ⟨⟨by rw [r3, q1], r4.trans q2⟩, ⟨?_, ?_, ?_, ?_⟩, ⟨?_, ?_, ?_⟩, q5, fun t ht hu => (q6 t ht hu).trans (r7 _).symm, fun j hj => by rw [r6]; exact q7 j hj⟩, fun j hj => by rw [ps]; exact p1 j hj, by rw [ps]; exact p2, p3, p4, p5, fun n hn => by rw [r30, r28]; exact p6 n ((al n).mp hn), by rw [Su_cg r26 r28]; exact p7⟩
  · intro j hj
    rw [r4] at hj
    have g := q3.1 j hj
    rw [r6, r26]
    exact ⟨g.1, g.2.1, (r7 _).mpr g.2.2.1, g.2.2.2⟩
  · intro j j₉ h1 h2
    rw [r4] at h2
    rw [r6]
    exact q3.2.1 j j₉ h1 h2
  · intro x hx w
    rw [r4, r6]
    exact q3.2.2.1 x hx ((r7 x).mp w)
  · rw [r3, r4, e1]
    rw [q1, q2] at *
    omega
  · rw [r4, rc]
    have w := cnt_u1 (m := c) (c := 77) (k := z) (x := (2 : Int32)) (n := 512) (by decide)
    have := q4.1
    omega
  · rw [r5]
    exact q4.2.1
  · intro x hx
    rw [r30]
    exact q4.2.2 x ((al x).mp hx)
theorem HS_go (h : qHS us nr kr kd ws AT ho wd wi OW rt wk wl wm nu ro fo le ra pi kp ca cat cm at2 ow2 to st ot r d) (hl : cat.toInt < cm.toInt) (hs : s = ca cat.toNatClampNeg) (hx : x = cat + 1) : qHW us nr kr kd ws AT ho wd wi OW rt wk wl wm nu ro fo le ra pi kp ca x cm at2 ow2 to st ot r s 0 d := by
  obtain ⟨c, f, hB, hT, hf⟩ := h
  have b := (HB_b hB).1
  have t := tn_cast (x := cat) b.1
  have g := hB.2.2.1.2.2.2.2.2 cat.toNatClampNeg (by omega)
  have e1 : (cat + 1).toInt = cat.toInt + 1 := i_p1 (by omega)
  have q := hB.1.1.1 _ (tn_lt g.1.1 g.1.2.1) g.1.2.2
  have hd := HB_hd hB hl
  cases f with
  | zero => omega
  | succ f =>
    have e2 : aSp (f + 1) c = aSp f (aPop c) := by
      show (if (c 75 3).toInt < (c 75 4).toInt then aSp f (aPop c) else c) = _
      rw [hB.2.2.1.1.1, hB.2.2.1.1.2, if_pos hl]
    have e3 : c 76 (c 75 3).toNatClampNeg = nr s.toNatClampNeg := by
      rw [hB.2.2.1.1.1, g.2, hs]
    rw [← hs] at g q
    have e4 := aPop_y e3 q.1.1 q.1.2 q.2.1
    rw [e3] at hd
    rw [hx]
    exact ⟨_, f, ⟨hd, by rw [← e4, ← e2]; exact hT, by omega⟩, g.1.1, by have := g.1.2.1; omega, g.1.2.2⟩
/-- the word i of s comes -/
theorem HW_rf (h : qHB us nr kr kd ws AT ho wd wi OW rt wk wl wm nu ro fo le ra pi kp ca cat cm at2 ow2 to st ot r c) (h0 : 0 ≤ s.toInt) (h3 : s.toInt ≤ 3099) (hu : us s.toNatClampNeg ≠ 0) (hi : 0 ≤ i.toInt) (hw : i.toInt < (ws s.toNatClampNeg).toInt) (hx : zrf kr kd wd s.toNatClampNeg i.toNatClampNeg = x) : qU us x ∧ aCw c (nr s.toNatClampNeg).toNatClampNeg i = aCw (aCm c (qNo nr x)) (nr s.toNatClampNeg).toNatClampNeg (i + 1) := by
  have t := tn_cast hi
  have q := h.1.2.1 _ (tn_lt h0 (by omega)) hu i.toNatClampNeg (by omega)
  have r := h.1.1.1 _ (tn_lt h0 (by omega)) hu
  have sz : (c 128 (nr s.toNatClampNeg).toNatClampNeg).toInt = (ws s.toNatClampNeg).toInt + 1 := by
    rw [r.2.2.1]
    exact i_addk rfl (by have := r.2.2.2.2.2.1; omega) (by have := r.2.2.2.2.2.1; omega)
  rw [hx] at q
  refine ⟨q.1, ?_⟩
  rw [aCw_go (by omega), ← q.2.1, ofN_tn hi]
theorem HW_end (h : qHW us nr kr kd ws AT ho wd wi OW rt wk wl wm nu ro fo le ra pi kp ca cat cm at2 ow2 to st ot r s i d) (hi : 0 ≤ i.toInt) (hw : ¬ i.toInt < (ws s.toNatClampNeg).toInt) : qHS us nr kr kd ws AT ho wd wi OW rt wk wl wm nu ro fo le ra pi kp ca cat cm at2 ow2 to st ot r d := by
  obtain ⟨c, f, ⟨hB, hT, hf⟩, h0, h3, hu⟩ := h
  have r := hB.1.1.1 _ (tn_lt h0 (by omega)) hu
  have sz : (c 128 (nr s.toNatClampNeg).toNatClampNeg).toInt = (ws s.toNatClampNeg).toInt + 1 := by
    rw [r.2.2.1]
    exact i_addk rfl (by have := r.2.2.2.2.2.1; omega) (by have := r.2.2.2.2.2.1; omega)
  rw [aCw_st (by omega)] at hT
  exact ⟨c, f, hB, hT, hf⟩
end F9

/-! from 95.r17 -/
/-! the reference where it moves (written by wip/tools/gen15r.py) -/
/-! COPYING IN THE REFERENCE: ROOTS, WISHES, wishers, the end -/
def qHR (us nr kr kd ws AT ho wd wi OW rt wk wl : Nat → Int32) (wm nu ro fo le ra pi : Int32) (kp ca : Nat → Int32) (cat cm : Int32) (at2 ow2 : Nat → Int32) (to : Int32) (st ot r : Int) (i : Int32) (T : Nat → Nat → Int32) : Prop := ∃ c, qHB us nr kr kd ws AT ho wd wi OW rt wk wl wm nu ro fo le ra pi kp ca cat cm at2 ow2 to st ot r c ∧ aRo c i = T
def qHX (us nr kr kd ws AT ho wd wi OW rt wk wl : Nat → Int32) (wm nu ro fo le ra pi : Int32) (kp ca : Nat → Int32) (cat cm : Int32) (at2 ow2 : Nat → Int32) (to : Int32) (st ot r : Int) (i : Int32) (T : Nat → Nat → Int32) : Prop := ∃ c, qHB us nr kr kd ws AT ho wd wi OW rt wk wl wm nu ro fo le ra pi kp ca cat cm at2 ow2 to st ot r c ∧ aWi c i = T
def qHG (us nr kr kd ws AT ho wd wi OW rt wk wl : Nat → Int32) (wm nu ro fo le ra pi : Int32) (kp ca : Nat → Int32) (cat cm : Int32) (at2 ow2 : Nat → Int32) (to : Int32) (st ot r : Int) (x : Int32) (T : Nat → Nat → Int32) : Prop := ∃ (b : Nat → Nat → Int32) (l : Int32), qHB us nr kr kd ws AT ho wd wi OW rt wk wl wm nu ro fo le ra pi kp ca cat cm at2 ow2 to st ot r b ∧ qE0 b ∧ qCl b ∧ (-1 ≤ l.toInt ∧ l.toInt + 1 ≤ (b 69 6).toInt) ∧ qMin (qCw us kp wi nr l) nr x 3100 ∧ aGw b (l + 1) = T
section F10
variable {cat₉ : Int32} {a b c d aa T : Nat → Nat → Int32} {us us₉ nr kr kd ws AT at2 at3 ho wd wi wi₉ OW ow2 ow3 rt wk wk₉ wl wl₉ kp kp₉ ca ca₉ : Nat → Int32} {wm wm₉ nu ro fo le ra pi cat cm cm₉ to to₉ s x y i l : Int32} {st ot r : Int} {j k n f : Nat}

/-- all WHITE: nobody came -/
theorem HB_wh (hR : qRB us nr kr kd ws AT ho wd wi OW rt wk wl wm nu ro fo le ra pi a) (hv : qHv a) (hk : ∀ s, s < 3100 → kp s = 0) (h1 : cat.toInt = 0) (h2 : cm.toInt = 0) (ht : to.toInt = (a 87 5 - a 87 3).toInt) : qHB us nr kr kd ws AT ho wd wi OW rt wk wl wm nu ro fo le ra pi kp ca cat cm AT OW to (a 87 5 - a 87 3).toInt (a 87 3).toInt (a 87 5).toInt (aWh a 0) := by
  obtain ⟨hI, g2, ⟨g3, g4, g5⟩, g6, ⟨g7, g8⟩, g9, g10⟩ := hv
  have w := WQ_wh (fun x hx => (hI.1 x hx).1.2)
  have o := w.2.1
  have s : (a 87 5 - a 87 3).toInt = (a 87 5).toInt - (a 87 3).toInt := i_sub (by omega) (by omega)
  have c0 : cat = 0 := Int32.toInt_inj.mp (by rw [h1]; rfl)
  have m0 : cm = 0 := Int32.toInt_inj.mp (by rw [h2]; rfl)
  have r3 : aWh a 0 75 3 = 0 := by
    unfold aWh
    rw [xu_o (by omega), xu_o (by omega), xu_s]
  have r4 : aWh a 0 75 4 = 0 := by
    unfold aWh
    rw [xu_o (by omega), xu_s]
  refine ⟨RB_of hR o, qI_of hI o, ⟨⟨by rw [r3, c0], by rw [r4, m0]⟩, FQ_wh (by decide), Wk_of w.1, fun s hs z => absurd (hk s hs) z, fun s hs hu => ⟨fun z => absurd (hk s hs) z, fun z => ?_⟩, fun j hj => absurd hj (by omega)⟩, fun j hj => absurd hj (by omega), ?_, fun _ _ _ _ => rfl, hR.2.2.2.2.2.2.1, ⟨by omega, by omega, by omega, by omega⟩, fun n hn => ?_, ?_⟩
  · have q := hR.1.1 s hs hu
    exact absurd ⟨by have := tn_cast q.1.1; omega, z⟩ (w.2.2 (nr s).toNatClampNeg)
  · rw [ht, h2]
    rfl
  · rw [← o 130 n (by decide) (by decide) (by decide), ← o 128 n (by decide) (by decide) (by decide)]
    have := g9 n ((Of_al o).mp hn)
    omega
  · rw [← Su_of o]
    omega
theorem HR_0 (h : qHB us nr kr kd ws AT ho wd wi OW rt wk wl wm nu ro fo le ra pi kp ca cat cm at2 ow2 to st ot r c) (hi : i.toInt = 0) : qHR us nr kr kd ws AT ho wd wi OW rt wk wl wm nu ro fo le ra pi kp ca cat cm at2 ow2 to st ot r i (aRo c 0) := ⟨c, h, by rw [show i = 0 from Int32.toInt_inj.mp (by rw [hi]; rfl)]⟩
theorem HR_rt (h : qHB us nr kr kd ws AT ho wd wi OW rt wk wl wm nu ro fo le ra pi kp ca cat cm at2 ow2 to st ot r c) (hi : 0 ≤ i.toInt) (h6 : i.toInt < 16) (hx : x = rt i.toNatClampNeg) : qU us x ∧ aRo c i = aRo (aCm c (qNo nr x)) (i + 1) := by
  have t := tn_cast hi
  have q := h.1.2.2.1 i.toNatClampNeg (by omega)
  rw [aRo_go h6, q.2, hx]
  exact ⟨q.1, rfl⟩
theorem HX_wl (h : qHB us nr kr kd ws AT ho wd wi OW rt wk wl wm nu ro fo le ra pi kp ca cat cm at2 ow2 to st ot r c) (hi : 0 ≤ i.toInt) (h6 : i.toInt < wm.toInt) (hx : x = wl i.toNatClampNeg) : (0 ≤ x.toInt ∧ qU us x) ∧ aWi c i = aWi (aCm c (qNo nr x)) (i + 1) := by
  have t := tn_cast hi
  have q := h.1.2.2.2.2.1
  have g := q.2 i.toNatClampNeg (by omega)
  rw [hx]
  refine ⟨⟨g.1.1, Or.inr ⟨g.1.2.1, g.1.2.2⟩⟩, ?_⟩
  rw [aWi_go (by rw [q.1]; exact h6), g.2, No_y g.1.1]
theorem HR_end (h : qHR us nr kr kd ws AT ho wd wi OW rt wk wl wm nu ro fo le ra pi kp ca cat cm at2 ow2 to st ot r i T) (h6 : ¬ i.toInt < 16) (hx : x.toInt = 0) : qHX us nr kr kd ws AT ho wd wi OW rt wk wl wm nu ro fo le ra pi kp ca cat cm at2 ow2 to st ot r x T := by
  obtain ⟨c, hB, hT⟩ := h
  rw [aRo_st h6] at hT
  exact ⟨c, hB, by rw [show x = 0 from Int32.toInt_inj.mp (by rw [hx]; rfl)]; exact hT⟩
theorem Ho_0 : ∀ (f : Nat) (n : Int32) (c : Nat → Nat → Int32), (∀ x, xAl c x → c 133 x = 0) → aHf f n c = c := by
  intro f
  induction f with
  | zero => intro n c h; rfl
  | succ f ih =>
    intro n c h
    have e : (if 0 ≤ n.toInt ∧ n.toInt < 512 ∧ c 126 n.toNatClampNeg ≠ 0 ∧ 0 < (c 133 n.toNatClampNeg).toInt then aCm c n else c) = c := by
      refine if_neg (fun z => ?_)
      have t := tn_cast z.1
      have q := h n.toNatClampNeg ⟨by omega, z.2.2.1⟩
      have z4 := z.2.2.2
      rw [q] at z4
      exact absurd z4 (by decide)
    show aHf f (n + 1) _ = c
    rw [e]
    exact ih _ _ h
theorem HX_end (h : qHX us nr kr kd ws AT ho wd wi OW rt wk wl wm nu ro fo le ra pi kp ca cat cm at2 ow2 to st ot r i T) (h6 : ¬ i.toInt < wm.toInt) (hh : ∀ s, s < 3100 → us s ≠ 0 → ho s = 0) : qHB us nr kr kd ws AT ho wd wi OW rt wk wl wm nu ro fo le ra pi kp ca cat cm at2 ow2 to st ot r T := by
  obtain ⟨c, hB, hT⟩ := h
  rw [aWi_st (by rw [hB.1.2.2.2.2.1.1]; exact h6)] at hT
  have e : aHo c 0 = c := Ho_0 _ _ _ (fun x hx => by
    obtain ⟨s, hs, hu, e⟩ := hB.1.1.2.2 x hx.1 hx.2
    have q := (hB.1.1.1 s hs hu).2.2.2.2.1
    rw [e, tn_of hx.1] at q
    rw [q]
    exact hh s hs hu)
  rw [← hT, e]
  exact hB
theorem KB_cq (h : qCQ kp ca us nr cat cm c) (hR : qR1 us nr ws AT ho c) : qKB kp us nr c := ⟨h.2.2.2.1, fun s hs hu => (h.2.2.2.2.1 s hs hu).trans ⟨fun z => ⟨by have := tn_cast (hR.1 s hs hu).1.1; have := (hR.1 s hs hu).1.2; omega, z⟩, fun z => z.2⟩⟩
theorem HB_gr (hR : qRB us nr kr kd ws AT ho wd wi₉ OW rt wk₉ wl₉ wm₉ nu ro fo le ra pi (aGr b y)) (hI : qI (aGr b y)) (h : qHB us nr kr kd ws AT ho wd wi OW rt wk wl wm nu ro fo le ra pi kp ca cat cm at2 ow2 to st ot r b) : qHB us nr kr kd ws AT ho wd wi₉ OW rt wk₉ wl₉ wm₉ nu ro fo le ra pi kp ca cat cm at2 ow2 to st ot r (aGr b y) := by
  have g : ∀ c, c ≠ 73 → c ≠ 134 → c ≠ 74 → c ≠ 69 → aGr b y c = b c := fun c h1 h2 h3 h4 => gr_r h1 h2 h3 h4
  have e75 := g 75 (by decide) (by decide) (by decide) (by decide)
  have e76 := g 76 (by decide) (by decide) (by decide) (by decide)
  have e77 := g 77 (by decide) (by decide) (by decide) (by decide)
  have e26 := g 126 (by decide) (by decide) (by decide) (by decide)
  have e28 := g 128 (by decide) (by decide) (by decide) (by decide)
  have e30 := g 130 (by decide) (by decide) (by decide) (by decide)
  obtain ⟨_, _, ⟨q1, q3, q4, q5, q6, q7⟩, p1, p2, p3, p4, p5, p6, p7⟩ := h
  refine ⟨hR, hI, ⟨by rw [e75]; exact q1, FQ_gr q3, ?_, q5, by rw [e77]; exact q6, by rw [e76]; exact q7⟩, fun j hj => by rw [Ps_cg e76 e28]; exact p1 j hj, by rw [Ps_cg e76 e28]; exact p2, p3, p4, p5, ?_, by rw [Su_cg e26 e28]; exact p7⟩
  · unfold zWk xFp xAl at q4 ⊢
    rw [e75, e77, e26, e30]
    exact q4
  · unfold xAl at p6 ⊢
    rw [e26, e28, e30]
    exact p6
theorem HG_0 (h : qHB us nr kr kd ws AT ho wd wi OW rt wk wl wm nu ro fo le ra pi kp ca cat cm at2 ow2 to st ot r c) (hE : qE0 c) (hC : qCl c) (hM : qMin (qCw us kp wi nr (-1)) nr x 3100) : qHG us nr kr kd ws AT ho wd wi OW rt wk wl wm nu ro fo le ra pi kp ca cat cm at2 ow2 to st ot r x (aGw c 0) := ⟨c, -1, h, hE, hC, ⟨by decide, by have := h.2.1.2.2.2.1.1.1; have e1 : (-1 : Int32).toInt = -1 := rfl; omega⟩, hM, rfl⟩
theorem HG_end (h : qHG us nr kr kd ws AT ho wd wi OW rt wk wl wm nu ro fo le ra pi kp ca cat cm at2 ow2 to st ot r x T) (hx : x.toInt < 0) : qHB us nr kr kd ws AT ho wd wi OW rt wk wl wm nu ro fo le ra pi kp ca cat cm at2 ow2 to st ot r T ∧ qE0 T ∧ qCl T := by
  obtain ⟨b, l, hB, hE, hC, hl, hM, hT⟩ := h
  have e := GL_end hB.1 hB.2.1 (KB_cq hB.2.2.1 hB.1.1) hl.1 hl.2 hM hx hT
  rw [← e]
  exact ⟨hB, hE, hC⟩
/-- the next of the wishers came, and all behind it -/
theorem HG_nx (hB : qHB us nr kr kd ws AT ho wd wi OW rt wk wl wm nu ro fo le ra pi kp ca cat cm at2 ow2 to st ot r b) (hE : qE0 b) (hC : qCl b) (hl : -1 ≤ l.toInt ∧ l.toInt + 1 ≤ (b 69 6).toInt) (hM : qMin (qCw us kp wi nr l) nr x 3100) (hT : aGw b (l + 1) = T) (hx : 0 ≤ x.toInt) (hu : us x.toNatClampNeg ≠ 0) (hx3 : x.toInt ≤ 3099) (hm : wm.toInt < 512)
    (hB2 : qHB us nr kr kd ws AT ho wd wi₉ OW rt wk₉ wl₉ wm₉ nu ro fo le ra pi kp₉ ca₉ cat₉ cm₉ at3 ow3 to₉ st ot r (aSp 512 (aCm (aGr b (nr x.toNatClampNeg)) (qNo nr x)))) (hM2 : qMin (qCw us kp₉ wi₉ nr (nr x.toNatClampNeg)) nr y 3100) : qHG us nr kr kd ws AT ho wd wi₉ OW rt wk₉ wl₉ wm₉ nu ro fo le ra pi kp₉ ca₉ cat₉ cm₉ at3 ow3 to₉ st ot r y T := by
  have nx := GL_nx hB.1 hB.2.1 hE (KB_cq hB.2.2.1 hB.1.1) hl.1 hl.2 hM hx hT
  have sp := E0_sp (gr_cm (y := nr x.toNatClampNeg) (E0_gr (y := nr x.toNatClampNeg) hE).1).1
  rw [No_y hx] at hB2
  exact ⟨_, nr x.toNatClampNeg, hB2, sp.1, Cl_nx hC hE (by rw [hB.1.2.2.2.2.1.1]; exact hm) hB.2.1.2.2.2.1.2.1.1 (R1_al hB.1.1 (tn_lt hx (by omega)) hu) (hB.1.1.1 _ (tn_lt hx (by omega)) hu).1.1, ⟨nx.2.2, by rw [sp_6]; exact nx.2.1⟩, hM2, nx.1⟩
/-- those that did not come are gone; the rest is where it came to -/
theorem HB_fin (hB : qHB us nr kr kd ws AT ho wd wi OW rt wk wl wm nu ro fo le ra pi kp ca cat cm at2 ow2 to (aa 87 5 - aa 87 3).toInt ot r (aGw (aRA aa) 0)) (hE : qE0 (aGw (aRA aa) 0)) (hC : qCl (aGw (aRA aa) 0)) (hv : qHv aa) (hu : qUr wk wk₉ kp 16) (hm : zrm us us₉ kp 3100) (ho₉ : zowr ow2 ow3 us kp at2) : qRB us₉ nr kr kd ws at2 ho wd wi ow3 rt wk₉ wl wm nu ro fo le ra pi (hFo (aSw aa)).1 ∧ to.toInt = (hFo (aSw aa)).2 := by
  have hK := KB_cq hB.2.2.1 hB.1.1
  have R := RB_mv hB.1 hB.2.1 hK (CK_of hC hB.1 hK) hE.1.2.2.2.2.2.1 hu hm (fun p _ => Or.inl rfl : zowr OW OW us kp AT)
  have e : aMv (aGw (aRA aa) 0) 0 = aSw aa := rfl
  rw [e] at R
  have j := Jh_0 hv
  have q44 := j.2.1.2.2.2
  have md := Md_mv hB.2.1 hE.1.2.2.2.2.2.1
  rw [e] at md
  have r5 : aSw aa 75 = aGw (aRA aa) 0 75 := md.2.1.1 75 (by decide) (by decide) (by decide) (by decide)
  have r6 : aSw aa 76 = aGw (aRA aa) 0 76 := md.2.1.1 76 (by decide) (by decide) (by decide) (by decide)
  have hcm : aSw aa 75 4 = cm := by rw [r5, hB.2.2.1.1.2]
  have f := hMf_pl (aSw aa 75 4).toInt.toNat 0 (aSw aa) _ j (by omega)
  have eF : hMf (aSw aa 75 4).toInt.toNat 0 (aSw aa) (aa 87 5 - aa 87 3).toInt = hFo (aSw aa) := by
    unfold hFo
    rw [sw_87, sw_87]
  rw [eF, Nat.zero_add] at f
  obtain ⟨⟨q1, q2⟩, q3, q4, q5, q6, q7⟩ := hB.2.2.1
  obtain ⟨p1, p2, p3, p4, p5, p6, p7⟩ := hB.2.2.2
  have sz : ∀ j : Nat, (j : Int) < cm.toInt → aSw aa 128 (aSw aa 76 j).toNatClampNeg = aGw (aRA aa) 0 128 (aGw (aRA aa) 0 76 j).toNatClampNeg := fun j hj => by
    have g := q3.1 j (by rw [q2]; exact hj)
    have t := tn_cast g.1
    rw [r6]
    exact (Md_f md (by omega) g.2.2.1).1 128 (by decide) (by decide)
  have ps : ∀ i : Nat, (i : Int) ≤ cm.toInt → zPs (aSw aa) (aa 87 5 - aa 87 3).toInt i = zPs (aGw (aRA aa) 0) (aa 87 5 - aa 87 3).toInt i := by
    intro i
    induction i with
    | zero =>
      intro _
      unfold zPs
      rfl
    | succ i ih =>
      intro hi
      unfold zPs
      rw [ih (by omega), sz i (by omega)]
  rw [hcm] at f
  have rr : ∀ c, c ≠ 71 → c ≠ 130 → (hFo (aSw aa)).1 c = aSw aa c := fun c h1 h2 => funext (fun k => Fo_r h1 h2)
  have pos : ∀ s, s < 3100 → us₉ s ≠ 0 → (hFo (aSw aa)).1 130 (nr s).toNatClampNeg = at2 s ∧ us s ≠ 0 ∧ kp s ≠ 0 := fun s hs hu₉ => by
    have z := ((hm s hs).1 hs).mp hu₉
    have q := hB.1.1.1 s hs z.1
    have n5 := tn_cast q.1.1
    obtain ⟨k, hk, ek⟩ := q3.2.2.1 _ (by omega) ((q6 s hs z.1).mp z.2)
    rw [q2] at hk
    have g := q7 k hk
    have es : (ca k).toNatClampNeg = s := by
      refine R1_in hB.1.1 (tn_lt g.1.1 g.1.2.1) hs g.1.2.2 z.1 ?_
      rw [← g.2, ek]
      exact tn_of (by omega)
    have pk := p1 k hk
    rw [es] at pk
    have fk := f.2.1 k (by omega) (by omega)
    rw [r6, ek, tn_of (by omega), ps k (by omega), ← pk, Int32.ofInt_toInt] at fk
    exact ⟨fk, z⟩
  have cm0 : 0 ≤ cm.toInt := by
    rw [hcm] at q44
    omega
  refine ⟨⟨⟨fun s hs hu₉ => ?_, R.1.2.1, fun n hn h1 => ?_⟩, fun s hs hu₉ i hi => ?_, ?_, ?_, ?_, ?_, fun s hs hu₉ => ?_, ?_⟩, ?_⟩
  · have q := R.1.1 s hs hu₉
    rw [rr 126 (by decide) (by decide), rr 128 (by decide) (by decide), rr 133 (by decide) (by decide)]
    have w := pos s hs hu₉
    refine ⟨q.1, q.2.1, q.2.2.1, w.1, q.2.2.2.2.1, q.2.2.2.2.2.1, ?_⟩
    obtain ⟨k, hk, ek⟩ := q3.2.2.1 _ (by have := tn_cast q.1.1; omega) ((q6 s hs w.2.1).mp w.2.2)
    rw [q2] at hk
    have g := q7 k hk
    have es : (ca k).toNatClampNeg = s := by
      refine R1_in hB.1.1 (tn_lt g.1.1 g.1.2.1) hs g.1.2.2 w.2.1 ?_
      rw [← g.2, ek]
      exact tn_of (by have := tn_cast q.1.1; omega)
    have pk := p1 k hk
    rw [es] at pk
    have l := Ps_le (st := (aa 87 5 - aa 87 3).toInt) hB.2.1 q3 k (by rw [q2]; omega) 0 (by omega)
    have l2 : (aa 87 5 - aa 87 3).toInt ≤ zPs (aGw (aRA aa) 0) (aa 87 5 - aa 87 3).toInt k := l
    omega
  · rw [rr 126 (by decide) (by decide)] at h1
    exact R.1.2.2 n hn h1
  · have q := R.2.1 s hs hu₉ i hi
    have g := R.1.1 s hs hu₉
    have sz2 : (aSw aa 128 (nr s).toNatClampNeg).toInt = (ws s).toInt + 1 := by
      rw [g.2.2.1]
      exact i_addk rfl (by have := g.2.2.2.2.2.1; omega) (by have := g.2.2.2.2.2.1; omega)
    have ei : (Int32.ofNat i).toInt = (i : Int) := ofN_s (by have := g.2.2.2.2.2.1; omega)
    rw [f.2.2.2 _ _ (R1_al R.1 hs hu₉) (by omega) (by omega), rr (1000 + (nr s).toNatClampNeg) (by omega) (by omega)]
    exact q
  · unfold qR3
    rw [rr 72 (by decide) (by decide)]
    exact R.2.2.1
  · unfold qR3
    rw [rr 73 (by decide) (by decide)]
    exact R.2.2.2.1
  · unfold qR5
    rw [rr 69 (by decide) (by decide), rr 74 (by decide) (by decide)]
    exact R.2.2.2.2.1
  · unfold qR6
    rw [rr 134 (by decide) (by decide)]
    exact R.2.2.2.2.2.1
  · have w := pos s hs hu₉
    have o2 := p4 s hs w.2.1
    have b3 : (at2 s).toNatClampNeg < 4600 := by
      obtain ⟨k, hk, ek⟩ := q3.2.2.1 _ (by have := tn_cast (hB.1.1.1 s hs w.2.1).1.1; have := (hB.1.1.1 s hs w.2.1).1.2; omega) ((q6 s hs w.2.1).mp w.2.2)
      rw [q2] at hk
      have g := q7 k hk
      have es : (ca k).toNatClampNeg = s := by
        refine R1_in hB.1.1 (tn_lt g.1.1 g.1.2.1) hs g.1.2.2 w.2.1 ?_
        rw [← g.2, ek]
        exact tn_of (by have := tn_cast (hB.1.1.1 s hs w.2.1).1.1; have := (hB.1.1.1 s hs w.2.1).1.2; omega)
      have pk := p1 k hk
      rw [es] at pk
      have l := Ps_le (st := (aa 87 5 - aa 87 3).toInt) hB.2.1 q3 k (by rw [q2]; omega) 0 (by omega)
      have l2 : (aa 87 5 - aa 87 3).toInt ≤ zPs (aGw (aRA aa) 0) (aa 87 5 - aa 87 3).toInt k := l
      have l3 := Ps_le (st := (aa 87 5 - aa 87 3).toInt) hB.2.1 q3 cm.toInt.toNat (by rw [q2]; omega) k (by omega)
      have jt := j.2.2.2.2.1.2.2
      rw [hcm, ps _ (by omega)] at jt
      have vv := hv.2.2.1
      have v6 := hv.2.2.2.1
      have s5 : (aa 87 5 - aa 87 3).toInt = (aa 87 5).toInt - (aa 87 3).toInt := i_sub (by omega) (by omega)
      have t := tn_cast (x := at2 s) (by omega)
      omega
    rcases ho₉ _ b3 with g | ⟨_, t, ht, hut, hkt, hat⟩
    · rw [g]
      exact o2
    · have o3 := p4 t ht hut
      have e3 : (at2 t).toNatClampNeg = (at2 s).toNatClampNeg := by
        have t2 := tn_cast (x := at2 t) (by omega)
        omega
      rw [e3, o2] at o3
      have e4 := congrArg Int32.toInt o3
      rw [ofN_s hs, ofN_s ht] at e4
      exact absurd hkt (by rw [show t = s from by omega]; exact w.2.2)
  · unfold qR8
    rw [rr 69 (by decide) (by decide), rr 87 (by decide) (by decide)]
    exact R.2.2.2.2.2.2.2
  · rw [f.1, ps _ (by omega), p2]
/-- the reference's fields of HALVES: room, half, top -/
def qHL (a : Nat → Nat → Int32) (rm hf tp : Int32) : Prop := a 87 5 = rm ∧ (hf.toInt = 0 ∨ hf.toInt = 1) ∧ (hf.toInt = 0 → (a 87 3).toInt = 0) ∧ (hf.toInt = 1 → (a 87 3).toInt = rm.toInt) ∧ a 87 4 = tp
theorem RB_87k (h : qRB us nr kr kd ws AT ho wd wi OW rt wk wl wm nu ro fo le ra pi a) (k0 : k ≠ 0) (k1 : k ≠ 1) (k2 : k ≠ 2) (k6 : k ≠ 6) (k7 : k ≠ 7) : qRB us nr kr kd ws AT ho wd wi OW rt wk wl wm nu ro fo le ra pi (ma_u a 87 k x) := by
  have e : ∀ c, c ≠ 87 → ma_u a 87 k x c = a c := fun c hc => ma_u_ne _ _ _ hc
  have e2 : ∀ k₉, k₉ ≠ k → ma_u a 87 k x 87 k₉ = a 87 k₉ := fun k₉ hk => xu_o (fun z => hk z.2)
  have rf : ∀ n i, aRef (ma_u a 87 k x) n i = aRef a n i := fun n i => rf_cg (e _ (by omega)) (e _ (by decide)) (e _ (by decide))
  obtain ⟨h1, h2, h3, h4, h5, h6, h7, h8⟩ := h
  refine ⟨?_, fun s hs hu i hi => ?_, ?_, ?_, ?_, ?_, h7, ?_⟩
  · unfold qR1 at h1 ⊢
    rw [e 126 (by decide), e 128 (by decide), e 130 (by decide), e 133 (by decide)]
    exact h1
  · rw [rf, e (1000 + (nr s).toNatClampNeg) (by omega)]
    exact h2 s hs hu i hi
  · unfold qR3 at h3 ⊢
    rw [e 72 (by decide)]
    exact h3
  · unfold qR3 at h4 ⊢
    rw [e 73 (by decide)]
    exact h4
  · unfold qR5 at h5 ⊢
    rw [e 69 (by decide), e 74 (by decide)]
    exact h5
  · unfold qR6 at h6 ⊢
    rw [e 134 (by decide)]
    exact h6
  · unfold qR8 at h8 ⊢
    rw [e 69 (by decide), e2 0 (by omega), e2 1 (by omega), e2 2 (by omega), e2 6 (by omega), e2 7 (by omega)]
    exact h8
theorem RB_hcl (h : qRB us₉ nr kr kd ws at2 ho wd wi ow3 rt wk₉ wl wm nu ro fo le ra pi (hFo (aSw aa)).1 ∧ to.toInt = (hFo (aSw aa)).2) : qRB us₉ nr kr kd ws at2 ho wd wi ow3 rt wk₉ wl wm nu ro fo le ra pi (hCl aa) := RB_87k (RB_87k h.1 (by decide) (by decide) (by decide) (by decide) (by decide)) (by decide) (by decide) (by decide) (by decide) (by decide)
theorem HL_cl {rm hf hf₉ tp : Int32} (h : qHL aa rm hf tp) (hv : qHv aa) (ht : to.toInt = (hFo (aSw aa)).2) (hh : hf₉.toInt = 1 - hf.toInt) : qHL (hCl aa) rm hf₉ to := by
  obtain ⟨h1, h2, h3, h4, h5⟩ := h
  have g5 := hv.2.2.1
  have r3 : hCl aa 87 3 = aa 87 5 - aa 87 3 := by
    unfold hCl
    rw [xu_o (by decide), xu_s]
  have e5 := congrArg Int32.toInt h1
  have s : (aa 87 5 - aa 87 3).toInt = (aa 87 5).toInt - (aa 87 3).toInt := i_sub (by have := hv.2.2.2.1; omega) (by have := hv.2.2.2.1; omega)
  refine ⟨(cl_7 (by decide) (by decide)).trans h1, by omega, fun w => ?_, fun w => ?_, ?_⟩
  · rw [r3]
    omega
  · rw [r3]
    omega
  · show ma_u _ 87 4 (Int32.ofInt (hFo (aSw aa)).2) 87 4 = to
    rw [xu_s, ← ht, Int32.ofInt_toInt]
theorem HL_to {rm hf tp : Int32} (h : qHL aa rm hf tp) (hv : qHv aa) (ht : (hf.toInt = 0 → to.toInt = rm.toInt) ∧ (hf.toInt = 1 → to.toInt = 0)) : to.toInt = (aa 87 5 - aa 87 3).toInt := by
  obtain ⟨h1, h2, h3, h4, h5⟩ := h
  have g5 := hv.2.2.1
  have e5 := congrArg Int32.toInt h1
  have s : (aa 87 5 - aa 87 3).toInt = (aa 87 5).toInt - (aa 87 3).toInt := i_sub (by have := hv.2.2.2.1; omega) (by have := hv.2.2.2.1; omega)
  omega
theorem HL_tp {rm hf tp : Int32} (h : qHL a rm hf tp) : qHL a rm hf (a 87 4) := ⟨h.1, h.2.1, h.2.2.1, h.2.2.2.1, rfl⟩
theorem HV_ho (hv : qHv aa) (hR : qRB us nr kr kd ws AT ho wd wi OW rt wk wl wm nu ro fo le ra pi aa) : ∀ s, s < 3100 → us s ≠ 0 → ho s = 0 := fun s hs hu => by
  have q := hR.1.1 s hs hu
  rw [← q.2.2.2.2.1]
  exact hv.2.2.2.2.2.2 _ (R1_al hR.1 hs hu)
end F10
theorem sp_197rv {X : Nat × (Nat → Int32)} {P : Option ma_V → (Nat → Nat → Int32) → Prop} {T : Nat} {aa : Nat→Nat→Int32} {AT : Nat→Int32} {OW : Nat→Int32} {ro : Int32} {m : Nat → Nat → Int32} (s : Int32) (hV : zV m) (hpre0 : 0 ≤ s.toInt) (hpre1 : s.toInt ≤ 3099) (hpre2 : T ≤ 512) (hpre3 : (m 94 10).toInt ≠ 4) (r_WI : (m 109) s.toNatClampNeg ≠ 0) (r_USs : (m 99) s.toNatClampNeg ≠ 0) (r_GW : zGW T (m 94 55) (m 109)) (r_RB : qRB (m 99) (m 100) (m 98) (m 101) (m 102) AT (m 107) (m 108) (m 109) OW (m 112) (m 113) (m 114) (m 94 55) (m 94 46) ro 0 0 0 1 aa) (r_QI : qI aa) (KZ : ∀ m₉, zV (zov wr_197 m m₉) → (zGW T (m₉ 94 55) (m₉ 109)) → (zuw (m 113) (m₉ 113)) → (zwx (m 114) (m₉ 114) (m 94 55) s) → ((m₉ 94 55).toInt = (m 94 55).toInt + 1) → (qRB (m 99) (m 100) (m 98) (m 101) (m 102) AT (m 107) (m 108) (m₉ 109) OW (m 112) (m₉ 113) (m₉ 114) (m₉ 94 55) (m 94 46) ro 0 0 0 1 (aGr aa ((m 100) s.toNatClampNeg))) → (qI (aGr aa ((m 100) s.toNatClampNeg))) → P none (zov wr_197 m m₉)) : zm X 1 22 197 0 [(0, .inr (.inr (some 94))), (1, .inl s)] m P := by
  have K : ∀ m₉, zF wr_197 m m₉ → zV m₉ → (zGW T (m₉ 94 55) (m₉ 109)) → (zuw (m 113) (m₉ 113)) → (zwx (m 114) (m₉ 114) (m 94 55) s) → ((m₉ 94 55).toInt = (m 94 55).toInt + 1) → (qRB (m₉ 99) (m₉ 100) (m₉ 98) (m₉ 101) (m₉ 102) AT (m₉ 107) (m₉ 108) (m₉ 109) OW (m₉ 112) (m₉ 113) (m₉ 114) (m₉ 94 55) (m₉ 94 46) ro 0 0 0 1 (aGr aa ((m₉ 100) s.toNatClampNeg))) → (qI (aGr aa ((m₉ 100) s.toNatClampNeg))) → P none m₉ := by
    intro m₉ hf z q0 q1 q2 q3 q4 q5
    have e := zov_eq hf
    rw [e] at z ⊢
    try rw [e] at q0
    try rw [e] at q1
    try rw [e] at q2
    try rw [e] at q3
    try rw [e] at q4
    try rw [e] at q5
    exact KZ m₉ z q0 q1 q2 q3 q4 q5
  refine g_197_0 s ?_
  have f1 : 0 ≤ (m 94 10).toInt ∧ (m 94 10).toInt ≤ 6 := rs_94_10 (m := m) hV
  have b2 := i_bd s
  try have gwr := GW_512 r_GW r_WI (by omega) (by omega) (by omega)
  refine sp_198r (s) hV  (fun m1 hV_m1 p0_m1 p1_m1 => zmv_n ?_)
  have p0_m1 : zuw (m 113) (m1 113) := p0_m1
  have p1_m1 : qUn (m 113) (m1 113) s 16 := p1_m1
  try have gw := GW_room r_GW
  try have gwr := GW_512 r_GW r_WI (by omega) (by omega) (by omega)
  have hg3 : (0 ≤ s ∧ s.toNatClampNeg < 3100) := i_ix (by omega) (by omega)
  refine ⟨hg3, ?_⟩
  have f4 : 0 ≤ (m 94 55).toInt ∧ (m 94 55).toInt ≤ 3100 := rs_94_55 (m := m) hV
  try have gw := GW_room r_GW
  try have gwr := GW_512 r_GW r_WI (by omega) (by omega) (by omega)
  have hg5 : (0 ≤ (m 94 55) ∧ (m 94 55).toNatClampNeg < 3100) := i_ix (by omega) (by omega)
  refine ⟨hg5, ?_⟩
  have li6 : (4 : Int32).toInt = 4 := rfl
  refine zd (fun (h7 : (m 94 10) = (4 : Int32)) => ?_) (fun (h7 : ¬ (m 94 10) = (4 : Int32)) => ?_)
  · skip
    have g8 := i_eq h7
    have hg9 : (0 ≤ s ∧ s.toNatClampNeg < 3100) := i_ix (by omega) (by omega)
    refine ⟨hg9, ?_⟩
    have hg10 : (0 ≤ s ∧ s.toNatClampNeg < 3100) := i_ix (by omega) (by omega)
    refine ⟨hg10, ?_⟩
    try have gwr := GW_512 r_GW r_WI (by omega) (by omega) (by omega)
    have li12 : (0 : Int32).toInt = 0 := rfl
    have hV11 : zV (ma_u (zov wr_198 m m1) 109 s.toNatClampNeg (0 : Int32)) := ua_109 hV_m1 (by omega) (by omega)
    have hV13 : zV (ma_u (ma_u (zov wr_198 m m1) 109 s.toNatClampNeg (0 : Int32)) 114 (m 94 55).toNatClampNeg s) := ua_114 hV11 (by omega) (by omega)
    first | have e15 : ((m 94 55) + (1 : Int32)).toInt = (m 94 55).toInt + (1) := i_addk rfl (by omega) (by omega) | have b16 := i_bd ((m 94 55) + (1 : Int32))
    have hV14 : zV (ma_u (ma_u (ma_u (zov wr_198 m m1) 109 s.toNatClampNeg (0 : Int32)) 114 (m 94 55).toNatClampNeg s) 94 55 ((m 94 55) + (1 : Int32))) := us_94_55 hV13 (by omega) (by omega)
    have hV17 : zV (ma_u (ma_u (ma_u (ma_u (zov wr_198 m m1) 109 s.toNatClampNeg (0 : Int32)) 114 (m 94 55).toNatClampNeg s) 94 55 ((m 94 55) + (1 : Int32))) 105 s.toNatClampNeg ((m 105 s.toNatClampNeg) + (1 : Int32))) := ua_105 hV14
    exact K _ (zF_u (zF_u (zF_u (zF_u (zF_zov zF_rfl ws_198_197) rfl) rfl) rfl) rfl) hV17 (show zGW T ((m 94 55) + (1 : Int32)) ((ma_u m 109 s.toNatClampNeg (0 : Int32)) 109) from by first | (exact GW_take r_GW r_WI (by omega) (by omega)) | (exfalso; omega; done) | (exfalso; contradiction; done)) p0_m1 (show zwx (m 114) ((ma_u m 114 (m 94 55).toNatClampNeg s) 114) (m 94 55) s from by first | (exact ⟨fun k hk => mu_ne (by rw [tn_eq]; omega), mu_self⟩) | (exfalso; omega; done) | (exfalso; contradiction; done)) (show ((m 94 55) + (1 : Int32)).toInt = (m 94 55).toInt + 1 from by omega) (show qRB (m 99) (m 100) (m 98) (m 101) (m 102) AT (m 107) (m 108) ((ma_u m 109 s.toNatClampNeg (0 : Int32)) 109) OW (m 112) (m1 113) ((ma_u m 114 (m 94 55).toNatClampNeg s) 114) ((m 94 55) + (1 : Int32)) (m 94 46) ro 0 0 0 1 (aGr aa ((m 100) s.toNatClampNeg)) from by first | (exact RB_gr r_RB (by omega) (by omega) r_USs p1_m1 (by omega) (by omega)) | (exfalso; omega; done) | (exfalso; contradiction; done)) (show qI (aGr aa ((m 100) s.toNatClampNeg)) from by first | (exact I_gr r_QI (by rw [r_RB.2.2.2.2.1.1]; omega)) | (exfalso; omega; done) | (exfalso; contradiction; done))
  · skip
    have g18 := i_ne h7
    try have gwr := GW_512 r_GW r_WI (by omega) (by omega) (by omega)
    have li20 : (0 : Int32).toInt = 0 := rfl
    have hV19 : zV (ma_u (zov wr_198 m m1) 109 s.toNatClampNeg (0 : Int32)) := ua_109 hV_m1 (by omega) (by omega)
    have hV21 : zV (ma_u (ma_u (zov wr_198 m m1) 109 s.toNatClampNeg (0 : Int32)) 114 (m 94 55).toNatClampNeg s) := ua_114 hV19 (by omega) (by omega)
    first | have e23 : ((m 94 55) + (1 : Int32)).toInt = (m 94 55).toInt + (1) := i_addk rfl (by omega) (by omega) | have b24 := i_bd ((m 94 55) + (1 : Int32))
    have hV22 : zV (ma_u (ma_u (ma_u (zov wr_198 m m1) 109 s.toNatClampNeg (0 : Int32)) 114 (m 94 55).toNatClampNeg s) 94 55 ((m 94 55) + (1 : Int32))) := us_94_55 hV21 (by omega) (by omega)
    exact K _ (zF_u (zF_u (zF_u (zF_zov zF_rfl ws_198_197) rfl) rfl) rfl) hV22 (show zGW T ((m 94 55) + (1 : Int32)) ((ma_u m 109 s.toNatClampNeg (0 : Int32)) 109) from by first | (exact GW_take r_GW r_WI (by omega) (by omega)) | (exfalso; omega; done) | (exfalso; contradiction; done)) p0_m1 (show zwx (m 114) ((ma_u m 114 (m 94 55).toNatClampNeg s) 114) (m 94 55) s from by first | (exact ⟨fun k hk => mu_ne (by rw [tn_eq]; omega), mu_self⟩) | (exfalso; omega; done) | (exfalso; contradiction; done)) (show ((m 94 55) + (1 : Int32)).toInt = (m 94 55).toInt + 1 from by omega) (show qRB (m 99) (m 100) (m 98) (m 101) (m 102) AT (m 107) (m 108) ((ma_u m 109 s.toNatClampNeg (0 : Int32)) 109) OW (m 112) (m1 113) ((ma_u m 114 (m 94 55).toNatClampNeg s) 114) ((m 94 55) + (1 : Int32)) (m 94 46) ro 0 0 0 1 (aGr aa ((m 100) s.toNatClampNeg)) from by first | (exact RB_gr r_RB (by omega) (by omega) r_USs p1_m1 (by omega) (by omega)) | (exfalso; omega; done) | (exfalso; contradiction; done)) (show qI (aGr aa ((m 100) s.toNatClampNeg)) from by first | (exact I_gr r_QI (by rw [r_RB.2.2.2.2.1.1]; omega)) | (exfalso; omega; done) | (exfalso; contradiction; done))
theorem sp_207rv {X : Nat × (Nat → Int32)} {P : Option ma_V → (Nat → Nat → Int32) → Prop} {aa : Nat→Nat→Int32} {AT : Nat→Int32} {OW : Nat→Int32} {ro : Int32} {st : Int} {ot : Int} {rr : Int} {m : Nat → Nat → Int32} (s : Int32) (hV : zV m) (hpre0 : -1 ≤ s.toInt) (hpre1 : s.toInt ≤ 3099) (hpre2 : (m 94 10).toInt = 2) (r_UQ : qU (m 99) s) (r_OW : zOw (m 99) (m 103) (m 111)) (r_HB : qHB (m 99) (m 100) (m 98) (m 101) (m 102) AT (m 107) (m 108) (m 109) OW (m 112) (m 113) (m 114) (m 94 55) (m 94 46) ro 0 0 0 1 (m 110) (m 119) (m 94 76) (m 94 75) (m 103) (m 111) (m 94 77) st ot rr aa) (KZ : ∀ m₉, zV (zov wr_207 m m₉) → (zOw (m 99) (m₉ 103) (m₉ 111)) → (qHB (m 99) (m 100) (m 98) (m 101) (m 102) AT (m 107) (m 108) (m 109) OW (m 112) (m 113) (m 114) (m 94 55) (m 94 46) ro 0 0 0 1 (m₉ 110) (m₉ 119) (m 94 76) (m₉ 94 75) (m₉ 103) (m₉ 111) (m₉ 94 77) st ot rr (aCm aa (qNo (m 100) s))) → P none (zov wr_207 m m₉)) : zm X 2 43 207 0 [(0, .inr (.inr (some 94))), (1, .inl s)] m P := by
  have K : ∀ m₉, zF wr_207 m m₉ → zV m₉ → (zOw (m₉ 99) (m₉ 103) (m₉ 111)) → (qHB (m₉ 99) (m₉ 100) (m₉ 98) (m₉ 101) (m₉ 102) AT (m₉ 107) (m₉ 108) (m₉ 109) OW (m₉ 112) (m₉ 113) (m₉ 114) (m₉ 94 55) (m₉ 94 46) ro 0 0 0 1 (m₉ 110) (m₉ 119) (m₉ 94 76) (m₉ 94 75) (m₉ 103) (m₉ 111) (m₉ 94 77) st ot rr (aCm aa (qNo (m₉ 100) s))) → P none m₉ := by
    intro m₉ hf z q0 q1
    have e := zov_eq hf
    rw [e] at z ⊢
    try rw [e] at q0
    try rw [e] at q1
    exact KZ m₉ z q0 q1
  refine g_207_0 s ?_
  have f1 : 0 ≤ (m 94 10).toInt ∧ (m 94 10).toInt ≤ 6 := rs_94_10 (m := m) hV
  have b2 := i_bd s
  have li3 : (0 : Int32).toInt = 0 := rfl
  refine zd (fun (h4 : s < (0 : Int32)) => ?_) (fun (h4 : ¬ s < (0 : Int32)) => ?_)
  · skip
    have g5 := i_lt h4
    try have hto := HB_to r_HB (by omega) (by omega) hus (by assumption)
    exact K _ zF_rfl hV r_OW (show qHB (m 99) (m 100) (m 98) (m 101) (m 102) AT (m 107) (m 108) (m 109) OW (m 112) (m 113) (m 114) (m 94 55) (m 94 46) ro 0 0 0 1 (m 110) (m 119) (m 94 76) (m 94 75) (m 103) (m 111) (m 94 77) st ot rr (aCm aa (qNo (m 100) s)) from by first | (exact HB_skip r_HB (Or.inl (by omega))) | (exact HB_skip r_HB (Or.inr ⟨by omega, by omega, (U_y r_UQ (by omega)).2, by assumption⟩)) | (exact r_HB) | (exfalso; omega; done) | (exfalso; contradiction; done))
  · skip
    have g6 := i_nlt h4
    try have hus := (U_y r_UQ (by omega)).2
    have hg7 : (0 ≤ s ∧ s.toNatClampNeg < 3100) := i_ix (by omega) (by omega)
    refine ⟨hg7, ?_⟩
    first | have f8 : 0 ≤ (m 110 s.toNatClampNeg).toInt ∧ (m 110 s.toNatClampNeg).toInt ≤ 1 := ra_110 (m := m) hV (k := s.toNatClampNeg) (i_ix (n := 3100) (by omega) (by omega)).2 | have b9 := i_bd (m 110 s.toNatClampNeg)
    refine zd (fun (h10 : (m 110 s.toNatClampNeg) = (0 : Int32)) => ?_) (fun (h10 : ¬ (m 110 s.toNatClampNeg) = (0 : Int32)) => ?_)
    · skip
      have g11 := i_eq h10
      try have hus := (U_y r_UQ (by omega)).2
      have hg12 : (0 ≤ s ∧ s.toNatClampNeg < 3100) := i_ix (by omega) (by omega)
      refine ⟨hg12, ?_⟩
      have f13 : 0 ≤ (m 94 75).toInt ∧ (m 94 75).toInt ≤ 3100 := rs_94_75 (m := m) hV
      try have hb := (HB_b r_HB).1
      have hg14 : (0 ≤ (m 94 75) ∧ (m 94 75).toNatClampNeg < 3100) := i_ix (by omega) (by omega)
      refine ⟨hg14, ?_⟩
      have li15 : (3 : Int32).toInt = 3 := rfl
      refine zd (fun (h16 : (m 94 10) = (3 : Int32)) => ?_) (fun (h16 : ¬ (m 94 10) = (3 : Int32)) => ?_)
      · skip
        have g17 := i_eq h16
        exfalso; omega
      · skip
        have g18 := i_ne h16
        have f19 : 0 ≤ (m 94 77).toInt ∧ (m 94 77).toInt ≤ 4600 := rs_94_77 (m := m) hV
        have li21 : (1 : Int32).toInt = 1 := rfl
        have hV20 : zV (ma_u m 110 s.toNatClampNeg (1 : Int32)) := ua_110 hV (by omega) (by omega)
        have hV22 : zV (ma_u (ma_u m 110 s.toNatClampNeg (1 : Int32)) 119 (m 94 75).toNatClampNeg s) := ua_119 hV20 (by omega) (by omega)
        first | have e24 : ((m 94 75) + (1 : Int32)).toInt = (m 94 75).toInt + (1) := i_addk rfl (by omega) (by omega) | have b25 := i_bd ((m 94 75) + (1 : Int32))
        have hV23 : zV (ma_u (ma_u (ma_u m 110 s.toNatClampNeg (1 : Int32)) 119 (m 94 75).toNatClampNeg s) 94 75 ((m 94 75) + (1 : Int32))) := us_94_75 hV22 (by omega) (by omega)
        try have hus := (U_y r_UQ (by omega)).2
        try have hto := HB_to r_HB (by omega) (by omega) hus (by assumption)
        refine sp_205 (s) ((m 94 77)) hV23 (by omega) (by omega) (by omega) (by omega) (show (m 99) s.toNatClampNeg ≠ 0 from by first | (exact hus) | (assumption; done) | (exact ow5.1) | (exact ow3.1) | (exfalso; omega; done) | (exfalso; contradiction; done)) r_OW (fun m1 hV_m1 p0_m1 p1_m1 => zmv_n ?_)
        have p0_m1 : zOw (m 99) (m1 103) (m1 111) := p0_m1
        have p1_m1 : zmov s (m 94 77) (m 103) (m 111) (m1 103) (m1 111) := p1_m1
        try have mvs := mv_s p1_m1
        have hg26 : (0 ≤ s ∧ s.toNatClampNeg < 3100) := i_ix (by omega) (by omega)
        refine ⟨hg26, ?_⟩
        try have hto := HB_to r_HB (by omega) (by omega) hus (by assumption)
        first | have f28 : 0 ≤ (m 102 s.toNatClampNeg).toInt ∧ (m 102 s.toNatClampNeg).toInt ≤ 60 := ra_102 (m := m) hV (k := s.toNatClampNeg) (i_ix (n := 3100) (by omega) (by omega)).2 | have b29 := i_bd (m 102 s.toNatClampNeg)
        first | have e30 : ((m 102 s.toNatClampNeg) + (1 : Int32)).toInt = (m 102 s.toNatClampNeg).toInt + (1) := i_addk rfl (by omega) (by omega) | have b31 := i_bd ((m 102 s.toNatClampNeg) + (1 : Int32))
        first | have e32 : ((m 94 77) + ((m 102 s.toNatClampNeg) + (1 : Int32))).toInt = (m 94 77).toInt + ((m 102 s.toNatClampNeg) + (1 : Int32)).toInt := i_add (by omega) (by omega) | have b33 := i_bd ((m 94 77) + ((m 102 s.toNatClampNeg) + (1 : Int32)))
        have hV27 : zV (ma_u (zov wr_205 (ma_u (ma_u (ma_u m 110 s.toNatClampNeg (1 : Int32)) 119 (m 94 75).toNatClampNeg s) 94 75 ((m 94 75) + (1 : Int32))) m1) 94 77 ((m 94 77) + ((m 102 s.toNatClampNeg) + (1 : Int32)))) := us_94_77 hV_m1 (by omega) (by omega)
        exact K _ (zF_u (zF_zov (zF_u (zF_u (zF_u zF_rfl rfl) rfl) rfl) ws_205_207) rfl) hV27 p0_m1 (show qHB (m 99) (m 100) (m 98) (m 101) (m 102) AT (m 107) (m 108) (m 109) OW (m 112) (m 113) (m 114) (m 94 55) (m 94 46) ro 0 0 0 1 ((ma_u m 110 s.toNatClampNeg (1 : Int32)) 110) ((ma_u m 119 (m 94 75).toNatClampNeg s) 119) (m 94 76) ((m 94 75) + (1 : Int32)) (m1 103) (m1 111) ((m 94 77) + ((m 102 s.toNatClampNeg) + (1 : Int32))) st ot rr (aCm aa (qNo (m 100) s)) from by first | (exact HB_push r_HB (by omega) (by omega) hus (by assumption) (fun t => mu_at t) (fun t => mu_at t) rfl p1_m1 (by omega)) | (exact r_HB) | (exfalso; omega; done) | (exfalso; contradiction; done))
    · skip
      have g34 := i_ne h10
      try have hto := HB_to r_HB (by omega) (by omega) hus (by assumption)
      exact K _ zF_rfl hV r_OW (show qHB (m 99) (m 100) (m 98) (m 101) (m 102) AT (m 107) (m 108) (m 109) OW (m 112) (m 113) (m 114) (m 94 55) (m 94 46) ro 0 0 0 1 (m 110) (m 119) (m 94 76) (m 94 75) (m 103) (m 111) (m 94 77) st ot rr (aCm aa (qNo (m 100) s)) from by first | (exact HB_skip r_HB (Or.inl (by omega))) | (exact HB_skip r_HB (Or.inr ⟨by omega, by omega, (U_y r_UQ (by omega)).2, by assumption⟩)) | (exact r_HB) | (exfalso; omega; done) | (exfalso; contradiction; done))

/-! from 95.r18 -/
/-! the reference where it moves (written by wip/tools/gen15r.py) -/
theorem lp_208rv_33 {X : Nat × (Nat → Int32)} {P : Option ma_V → (Nat → Nat → Int32) → Prop} {aa : Nat→Nat→Int32} {AT : Nat→Int32} {OW : Nat→Int32} {ro : Int32} {st : Int} {ot : Int} {rr : Int} {m0 : Nat → Nat → Int32} (h0 : zV m0) (K : ∀ m₉, zF wr_208 m0 m₉ → zV m₉ → (zOw (m₉ 99) (m₉ 103) (m₉ 111)) → (qHB (m₉ 99) (m₉ 100) (m₉ 98) (m₉ 101) (m₉ 102) AT (m₉ 107) (m₉ 108) (m₉ 109) OW (m₉ 112) (m₉ 113) (m₉ 114) (m₉ 94 55) (m₉ 94 46) ro 0 0 0 1 (m₉ 110) (m₉ 119) (m₉ 94 76) (m₉ 94 75) (m₉ 103) (m₉ 111) (m₉ 94 77) st ot rr (aSp 512 aa)) → ((m₉ 94 75).toInt ≤ (m₉ 94 76).toInt) → P none m₉) {n0 : Nat} (OUT0 : ∀ (m₉ : Nat → Nat → Int32) , (3101 - (m₉ 94 76).toInt).toNat < n0 → zF wr_208 m0 m₉ → zV m₉ → ((m₉ 94 10).toInt = 2) → (zW (m₉ 94 7) (m₉ 98) (m₉ 101) (m₉ 102) (m₉ 108)) → (zOw (m₉ 99) (m₉ 103) (m₉ 111)) → (qHS (m₉ 99) (m₉ 100) (m₉ 98) (m₉ 101) (m₉ 102) AT (m₉ 107) (m₉ 108) (m₉ 109) OW (m₉ 112) (m₉ 113) (m₉ 114) (m₉ 94 55) (m₉ 94 46) ro 0 0 0 1 (m₉ 110) (m₉ 119) (m₉ 94 76) (m₉ 94 75) (m₉ 103) (m₉ 111) (m₉ 94 77) st ot rr (aSp 512 aa)) → zm X 3 64 208 0 [(0, .inr (.inr (some 94)))] m₉ P) : ∀ (n : Nat) (m : Nat → Nat → Int32) (l1 : Int32) (l2 : Int32), (61 - l2.toInt).toNat = n → zF wr_208 m0 m → zV m → (0 ≤ l1.toInt) → (l1.toInt ≤ 3099) → (0 ≤ l2.toInt) → ((3101 - (m 94 76).toInt).toNat < n0) → ((m 94 10).toInt = 2) → (zW (m 94 7) (m 98) (m 101) (m 102) (m 108)) → (zOw (m 99) (m 103) (m 111)) → (qHW (m 99) (m 100) (m 98) (m 101) (m 102) AT (m 107) (m 108) (m 109) OW (m 112) (m 113) (m 114) (m 94 55) (m 94 46) ro 0 0 0 1 (m 110) (m 119) (m 94 76) (m 94 75) (m 103) (m 111) (m 94 77) st ot rr l1 l2 (aSp 512 aa)) → zm X 3 64 208 33 [(0, .inr (.inr (some 94))), (1, .inl l1), (2, .inl l2)] m P := by
  intro n
  induction n using Nat.strongRecOn with
  | _ n IH =>
    intro m l1 l2 hmu hF hV hi0 hi1 hi2 hi3 hi4 r_W r_OW r_HW
    refine g_208_33 l1 l2 ?_
    have f1 : 0 ≤ (m 94 76).toInt ∧ (m 94 76).toInt ≤ 3100 := rs_94_76 (m := m) hV
    have f2 : 0 ≤ (m 94 10).toInt ∧ (m 94 10).toInt ≤ 6 := rs_94_10 (m := m) hV
    obtain ⟨c, f, ⟨hB, hT, hf⟩, w0, w3, wu⟩ := r_HW
    have b3 := i_bd l1
    have hg4 : (0 ≤ l1 ∧ l1.toNatClampNeg < 3100) := i_ix (by omega) (by omega)
    refine ⟨hg4, ?_⟩
    first | have f5 : 0 ≤ (m 102 l1.toNatClampNeg).toInt ∧ (m 102 l1.toNatClampNeg).toInt ≤ 60 := ra_102 (m := m) hV (k := l1.toNatClampNeg) (i_ix (n := 3100) (by omega) (by omega)).2 | have b6 := i_bd (m 102 l1.toNatClampNeg)
    have b7 := i_bd l2
    refine zd (fun (h8 : (m 102 l1.toNatClampNeg) ≤ l2) => ?_) (fun (h8 : ¬ (m 102 l1.toNatClampNeg) ≤ l2) => ?_)
    · skip
      have g9 := i_le h8
      exact OUT0 _  (show (3101 - (m 94 76).toInt).toNat < n0 from by omega) hF hV (show (m 94 10).toInt = 2 from by omega) r_W r_OW (show qHS (m 99) (m 100) (m 98) (m 101) (m 102) AT (m 107) (m 108) (m 109) OW (m 112) (m 113) (m 114) (m 94 55) (m 94 46) ro 0 0 0 1 (m 110) (m 119) (m 94 76) (m 94 75) (m 103) (m 111) (m 94 77) st ot rr (aSp 512 aa) from by first | (exact HW_end ⟨c, f, ⟨hB, hT, hf⟩, w0, w3, wu⟩ (by omega) (by omega)) | (exfalso; omega; done) | (exfalso; contradiction; done))
    · skip
      have g10 := i_nle h8
      refine sp_192 (l1) (l2) hV (by omega) (by omega) (by omega) (show l2.toInt < (m 102 l1.toNatClampNeg).toInt from by omega) (fun v2 m1 hV_m1 p0_m1 => zmi_n ?_)
      have p0_m1 : v2 = zrf (m 98) (m 101) (m 108) l1.toNatClampNeg l2.toNatClampNeg := p0_m1
      try have := W_ref r_W (by omega) (by omega) (by omega) (by omega) p0_m1
      have b11 := i_bd v2
      refine sp_207rv (aa := c) (v2) hV_m1 (by omega) (by omega) (show (m 94 10).toInt = 2 from by omega) (show qU (m 99) v2 from by first | (exact (HW_rf hB w0 w3 wu (by omega) (by omega) p0_m1.symm).1) | (exfalso; omega; done) | (exfalso; contradiction; done)) r_OW hB (fun m3 hV_m3 p0_m3 p1_m3 => zmv_n ?_)
      have p0_m3 : zOw (m 99) (m3 103) (m3 111) := p0_m3
      have p1_m3 : qHB (m 99) (m 100) (m 98) (m 101) (m 102) AT (m 107) (m 108) (m 109) OW (m 112) (m 113) (m 114) (m 94 55) (m 94 46) ro 0 0 0 1 (m3 110) (m3 119) (m 94 76) (m3 94 75) (m3 103) (m3 111) (m3 94 77) st ot rr (aCm c (qNo (m 100) v2)) := p1_m3
      first | have e12 : (l2 + (1 : Int32)).toInt = l2.toInt + (1) := i_addk rfl (by omega) (by omega) | have b13 := i_bd (l2 + (1 : Int32))
      exact IH (61 - (l2 + (1 : Int32)).toInt).toNat (by omega) _ (l1) ((l2 + (1 : Int32))) rfl (zF_zov (zF_zov hF ws_192_208) ws_207_208) hV_m3 (by omega) (by omega) (by omega) (show (3101 - (m 94 76).toInt).toNat < n0 from by omega) (show (m 94 10).toInt = 2 from by omega) r_W p0_m3 (show qHW (m 99) (m 100) (m 98) (m 101) (m 102) AT (m 107) (m 108) (m 109) OW (m 112) (m 113) (m 114) (m 94 55) (m 94 46) ro 0 0 0 1 (m3 110) (m3 119) (m 94 76) (m3 94 75) (m3 103) (m3 111) (m3 94 77) st ot rr l1 (l2 + (1 : Int32)) (aSp 512 aa) from by first | (exact ⟨_, f, ⟨p1_m3, (congrArg (aSp f) (HW_rf hB w0 w3 wu (by omega) (by omega) p0_m1.symm).2).symm.trans hT, hf⟩, w0, w3, wu⟩) | (exfalso; omega; done) | (exfalso; contradiction; done))
theorem lp_208rv_0 {X : Nat × (Nat → Int32)} {P : Option ma_V → (Nat → Nat → Int32) → Prop} {aa : Nat→Nat→Int32} {AT : Nat→Int32} {OW : Nat→Int32} {ro : Int32} {st : Int} {ot : Int} {rr : Int} {m0 : Nat → Nat → Int32} (h0 : zV m0) (K : ∀ m₉, zF wr_208 m0 m₉ → zV m₉ → (zOw (m₉ 99) (m₉ 103) (m₉ 111)) → (qHB (m₉ 99) (m₉ 100) (m₉ 98) (m₉ 101) (m₉ 102) AT (m₉ 107) (m₉ 108) (m₉ 109) OW (m₉ 112) (m₉ 113) (m₉ 114) (m₉ 94 55) (m₉ 94 46) ro 0 0 0 1 (m₉ 110) (m₉ 119) (m₉ 94 76) (m₉ 94 75) (m₉ 103) (m₉ 111) (m₉ 94 77) st ot rr (aSp 512 aa)) → ((m₉ 94 75).toInt ≤ (m₉ 94 76).toInt) → P none m₉) : ∀ (n : Nat) (m : Nat → Nat → Int32) , (3101 - (m 94 76).toInt).toNat = n → zF wr_208 m0 m → zV m → ((m 94 10).toInt = 2) → (zW (m 94 7) (m 98) (m 101) (m 102) (m 108)) → (zOw (m 99) (m 103) (m 111)) → (qHS (m 99) (m 100) (m 98) (m 101) (m 102) AT (m 107) (m 108) (m 109) OW (m 112) (m 113) (m 114) (m 94 55) (m 94 46) ro 0 0 0 1 (m 110) (m 119) (m 94 76) (m 94 75) (m 103) (m 111) (m 94 77) st ot rr (aSp 512 aa)) → zm X 3 64 208 0 [(0, .inr (.inr (some 94)))] m P := by
  intro n
  induction n using Nat.strongRecOn with
  | _ n IH =>
    intro m  hmu hF hV hi0 r_W r_OW r_HS
    refine g_208_0  ?_
    have f1 : 0 ≤ (m 94 10).toInt ∧ (m 94 10).toInt ≤ 6 := rs_94_10 (m := m) hV
    have f2 : 0 ≤ (m 94 75).toInt ∧ (m 94 75).toInt ≤ 3100 := rs_94_75 (m := m) hV
    have f3 : 0 ≤ (m 94 76).toInt ∧ (m 94 76).toInt ≤ 3100 := rs_94_76 (m := m) hV
    refine zd (fun (h4 : (m 94 75) ≤ (m 94 76)) => ?_) (fun (h4 : ¬ (m 94 75) ≤ (m 94 76)) => ?_)
    · skip
      have g5 := i_le h4
      try have hb := (HS_b r_HS).1
      exact K _ hF hV r_OW (show qHB (m 99) (m 100) (m 98) (m 101) (m 102) AT (m 107) (m 108) (m 109) OW (m 112) (m 113) (m 114) (m 94 55) (m 94 46) ro 0 0 0 1 (m 110) (m 119) (m 94 76) (m 94 75) (m 103) (m 111) (m 94 77) st ot rr (aSp 512 aa) from by first | (exact HS_end r_HS (by omega)) | (exfalso; omega; done) | (exfalso; contradiction; done)) (show (m 94 75).toInt ≤ (m 94 76).toInt from by omega)
    · skip
      have g6 := i_nle h4
      try have hb := (HS_b r_HS).1
      have hg7 : (0 ≤ (m 94 76) ∧ (m 94 76).toNatClampNeg < 3100) := i_ix (by omega) (by omega)
      refine ⟨hg7, ?_⟩
      try have hb := (HS_b r_HS).1
      first | have e9 : ((m 94 76) + (1 : Int32)).toInt = (m 94 76).toInt + (1) := i_addk rfl (by omega) (by omega) | have b10 := i_bd ((m 94 76) + (1 : Int32))
      have hV8 : zV (ma_u m 94 76 ((m 94 76) + (1 : Int32))) := us_94_76 hV (by omega) (by omega)
      first | have f11 : 0 ≤ (m 119 (m 94 76).toNatClampNeg).toInt ∧ (m 119 (m 94 76).toNatClampNeg).toInt ≤ 3099 := ra_119 (m := m) hV (k := (m 94 76).toNatClampNeg) (i_ix (n := 3100) (by omega) (by omega)).2 | have b12 := i_bd (m 119 (m 94 76).toNatClampNeg)
      have li13 : (0 : Int32).toInt = 0 := rfl
      exact lp_208rv_33 h0 K (fun _  z1 z2 z3 y0 y1 y2 y3 => IH _ z1 _  rfl z2 z3 y0 y1 y2 y3) _ _ ((m 119 (m 94 76).toNatClampNeg)) ((0 : Int32)) rfl (zF_u hF rfl) hV8 (by omega) (by omega) (by omega) (show (3101 - ((m 94 76) + (1 : Int32)).toInt).toNat < n from by omega) (show (m 94 10).toInt = 2 from by omega) r_W r_OW (show qHW (m 99) (m 100) (m 98) (m 101) (m 102) AT (m 107) (m 108) (m 109) OW (m 112) (m 113) (m 114) (m 94 55) (m 94 46) ro 0 0 0 1 (m 110) (m 119) ((m 94 76) + (1 : Int32)) (m 94 75) (m 103) (m 111) (m 94 77) st ot rr (m 119 (m 94 76).toNatClampNeg) (0 : Int32) (aSp 512 aa) from by first | (exact HS_go r_HS (by omega) rfl rfl) | (exfalso; omega; done) | (exfalso; contradiction; done))
theorem sp_208rv {X : Nat × (Nat → Int32)} {P : Option ma_V → (Nat → Nat → Int32) → Prop} {aa : Nat→Nat→Int32} {AT : Nat→Int32} {OW : Nat→Int32} {ro : Int32} {st : Int} {ot : Int} {rr : Int} {m : Nat → Nat → Int32}  (hV : zV m) (hpre0 : (m 94 10).toInt = 2) (r_W : zW (m 94 7) (m 98) (m 101) (m 102) (m 108)) (r_OW : zOw (m 99) (m 103) (m 111)) (r_HB : qHB (m 99) (m 100) (m 98) (m 101) (m 102) AT (m 107) (m 108) (m 109) OW (m 112) (m 113) (m 114) (m 94 55) (m 94 46) ro 0 0 0 1 (m 110) (m 119) (m 94 76) (m 94 75) (m 103) (m 111) (m 94 77) st ot rr aa) (KZ : ∀ m₉, zV (zov wr_208 m m₉) → (zOw (m 99) (m₉ 103) (m₉ 111)) → (qHB (m 99) (m 100) (m 98) (m 101) (m 102) AT (m 107) (m 108) (m 109) OW (m 112) (m 113) (m 114) (m 94 55) (m 94 46) ro 0 0 0 1 (m₉ 110) (m₉ 119) (m₉ 94 76) (m₉ 94 75) (m₉ 103) (m₉ 111) (m₉ 94 77) st ot rr (aSp 512 aa)) → ((m₉ 94 75).toInt ≤ (m₉ 94 76).toInt) → P none (zov wr_208 m m₉)) : zm X 3 64 208 0 [(0, .inr (.inr (some 94)))] m P := by
  have K : ∀ m₉, zF wr_208 m m₉ → zV m₉ → (zOw (m₉ 99) (m₉ 103) (m₉ 111)) → (qHB (m₉ 99) (m₉ 100) (m₉ 98) (m₉ 101) (m₉ 102) AT (m₉ 107) (m₉ 108) (m₉ 109) OW (m₉ 112) (m₉ 113) (m₉ 114) (m₉ 94 55) (m₉ 94 46) ro 0 0 0 1 (m₉ 110) (m₉ 119) (m₉ 94 76) (m₉ 94 75) (m₉ 103) (m₉ 111) (m₉ 94 77) st ot rr (aSp 512 aa)) → ((m₉ 94 75).toInt ≤ (m₉ 94 76).toInt) → P none m₉ := by
    intro m₉ hf z q0 q1 q2
    have e := zov_eq hf
    rw [e] at z ⊢
    try rw [e] at q0
    try rw [e] at q1
    try rw [e] at q2
    exact KZ m₉ z q0 q1 q2
  have f1 : 0 ≤ (m 94 10).toInt ∧ (m 94 10).toInt ≤ 6 := rs_94_10 (m := m) hV
  have f2 : 0 ≤ (m 94 76).toInt ∧ (m 94 76).toInt ≤ 3100 := rs_94_76 (m := m) hV
  exact lp_208rv_0 hV K _ _  rfl zF_rfl hV (show (m 94 10).toInt = 2 from by omega) r_W r_OW (show qHS (m 99) (m 100) (m 98) (m 101) (m 102) AT (m 107) (m 108) (m 109) OW (m 112) (m 113) (m 114) (m 94 55) (m 94 46) ro 0 0 0 1 (m 110) (m 119) (m 94 76) (m 94 75) (m 103) (m 111) (m 94 77) st ot rr (aSp 512 aa) from by first | (exact HS_0 r_HB) | (exfalso; omega; done) | (exfalso; contradiction; done))
set_option maxHeartbeats 8000000 in
theorem lp_209rv_9 {X : Nat × (Nat → Int32)} {P : Option ma_V → (Nat → Nat → Int32) → Prop} {T : Nat} {aa : Nat→Nat→Int32} {AT : Nat→Int32} {OW : Nat→Int32} {ro : Int32} {st : Int} {ot : Int} {rr : Int} {yo : Int32} {m0 : Nat → Nat → Int32} (h0 : zV m0) (K : ∀ m₉, zF wr_209 m0 m₉ → zV m₉ → (zGW T (m₉ 94 55) (m₉ 109)) → (zuw (m0 113) (m₉ 113)) → (zOw (m₉ 99) (m₉ 103) (m₉ 111)) → (qHB (m₉ 99) (m₉ 100) (m₉ 98) (m₉ 101) (m₉ 102) AT (m₉ 107) (m₉ 108) (m₉ 109) OW (m₉ 112) (m₉ 113) (m₉ 114) (m₉ 94 55) (m₉ 94 46) ro 0 0 0 1 (m₉ 110) (m₉ 119) (m₉ 94 76) (m₉ 94 75) (m₉ 103) (m₉ 111) (m₉ 94 77) st ot rr (aGw aa 0)) → (qE0 (aGw aa 0)) → (qCl (aGw aa 0)) → P none m₉) : ∀ (n : Nat) (m : Nat → Nat → Int32) (l1 : Int32) (l3 : Int32), ((zmg (m 100) l3 : Int)).toNat = n → zF wr_209 m0 m → zV m → (l1.toInt = 0) → (T ≤ 512) → ((m 94 10).toInt = 2) → (zWS (m 100) (m 99) (m 110) (m 109) (-1 : Int32) l3) → (zW (m 94 7) (m 98) (m 101) (m 102) (m 108)) → (zGW T (m 94 55) (m 109)) → (zuw (m0 113) (m 113)) → (zOw (m 99) (m 103) (m 111)) → (qHG (m 99) (m 100) (m 98) (m 101) (m 102) AT (m 107) (m 108) (m 109) OW (m 112) (m 113) (m 114) (m 94 55) (m 94 46) ro 0 0 0 1 (m 110) (m 119) (m 94 76) (m 94 75) (m 103) (m 111) (m 94 77) st ot rr l3 (aGw aa 0)) → zm X 4 86 209 9 [(0, .inr (.inr (some 94))), (1, .inl l1), (3, .inl l3)] m P := by
  intro n
  induction n using Nat.strongRecOn with
  | _ n IH =>
    intro m l1 l3 hmu hF hV hi0 hi1 hi2 r_WS r_W r_GW r_UW r_OW r_HG
    refine g_209_9 l1 l3 ?_
    have f1 : 0 ≤ (m 94 10).toInt ∧ (m 94 10).toInt ≤ 6 := rs_94_10 (m := m) hV
    obtain ⟨b, lst, gHB, gE0, gCL, gl, gMn, gT⟩ := r_HG
    have b2 := i_bd l3
    have li3 : (0 : Int32).toInt = 0 := rfl
    refine zd (fun (h4 : l3 < (0 : Int32)) => ?_) (fun (h4 : ¬ l3 < (0 : Int32)) => ?_)
    · skip
      have g5 := i_lt h4
      try have gw := GW_room r_GW
      try have ws0 := WS_ge r_WS (by omega)
      exact K _ hF hV r_GW r_UW r_OW (show qHB (m 99) (m 100) (m 98) (m 101) (m 102) AT (m 107) (m 108) (m 109) OW (m 112) (m 113) (m 114) (m 94 55) (m 94 46) ro 0 0 0 1 (m 110) (m 119) (m 94 76) (m 94 75) (m 103) (m 111) (m 94 77) st ot rr (aGw aa 0) from by first | (exact (HG_end ⟨b, lst, gHB, gE0, gCL, gl, gMn, gT⟩ (by omega)).1) | (exact gHB) | (exfalso; omega; done) | (exfalso; contradiction; done)) (show qE0 (aGw aa 0) from by first | (exact (HG_end ⟨b, lst, gHB, gE0, gCL, gl, gMn, gT⟩ (by omega)).2.1) | (exfalso; omega; done) | (exfalso; contradiction; done)) (show qCl (aGw aa 0) from by first | (exact (HG_end ⟨b, lst, gHB, gE0, gCL, gl, gMn, gT⟩ (by omega)).2.2) | (exfalso; omega; done) | (exfalso; contradiction; done))
    · skip
      have g6 := i_nlt h4
      try obtain ⟨ws1, ws2, ws3, ws4, ws5, ws6⟩ := WS_ge r_WS (by omega)
      have hg7 : (0 ≤ l3 ∧ l3.toNatClampNeg < 3100) := i_ix (by omega) (by omega)
      refine ⟨hg7, ?_⟩
      try have ws0 := WS_ge r_WS (by omega)
      refine sp_197rv (aa := b) (l3) hV (by omega) (by omega) (by omega) (show (m 94 10).toInt ≠ 4 from by omega) (show (m 109) l3.toNatClampNeg ≠ 0 from by first | (exact ws5) | (exact ws0.2.2.2.2.1) | (assumption; done) | (exfalso; omega; done) | (exfalso; contradiction; done)) (show (m 99) l3.toNatClampNeg ≠ 0 from by first | (exact ws3) | (exact ws0.2.2.1) | (assumption; done) | (exact ws3) | (exfalso; omega; done) | (exfalso; contradiction; done)) r_GW gHB.1 gHB.2.1 (fun m1 hV_m1 p0_m1 p1_m1 p2_m1 p3_m1 p4_m1 p5_m1 => zmv_n ?_)
      have p0_m1 : zGW T (m1 94 55) (m1 109) := p0_m1
      have p1_m1 : zuw (m 113) (m1 113) := p1_m1
      have p2_m1 : zwx (m 114) (m1 114) (m 94 55) l3 := p2_m1
      have p3_m1 : (m1 94 55).toInt = (m 94 55).toInt + 1 := p3_m1
      have p4_m1 : qRB (m 99) (m 100) (m 98) (m 101) (m 102) AT (m 107) (m 108) (m1 109) OW (m 112) (m1 113) (m1 114) (m1 94 55) (m 94 46) ro 0 0 0 1 (aGr b ((m 100) l3.toNatClampNeg)) := p4_m1
      have p5_m1 : qI (aGr b ((m 100) l3.toNatClampNeg)) := p5_m1
      have f8 : 0 ≤ (m1 94 55).toInt ∧ (m1 94 55).toInt ≤ 3100 := rs_94_55 (m := (zov wr_197 m m1)) hV_m1
      have f9 : 0 ≤ (m 94 55).toInt ∧ (m 94 55).toInt ≤ 3100 := rs_94_55 (m := m) hV
      try have ws0 := WS_ge r_WS (by omega)
      refine sp_207rv (aa := (aGr b (m 100 l3.toNatClampNeg))) (l3) hV_m1 (by omega) (by omega) (show (m 94 10).toInt = 2 from by omega) (show qU (m 99) l3 from by first | (exact Or.inr ⟨by omega, ws0.2.2.1⟩) | (exfalso; omega; done) | (exfalso; contradiction; done)) r_OW (show qHB (m 99) (m 100) (m 98) (m 101) (m 102) AT (m 107) (m 108) (m1 109) OW (m 112) (m1 113) (m1 114) (m1 94 55) (m 94 46) ro 0 0 0 1 (m 110) (m 119) (m 94 76) (m 94 75) (m 103) (m 111) (m 94 77) st ot rr (aGr b (m 100 l3.toNatClampNeg)) from by first | (exact HB_gr p4_m1 p5_m1 gHB) | (exact gHB) | (exfalso; omega; done) | (exfalso; contradiction; done)) (fun m3 hV_m3 p0_m3 p1_m3 => zmv_n ?_)
      have p0_m3 : zOw (m 99) (m3 103) (m3 111) := p0_m3
      have p1_m3 : qHB (m 99) (m 100) (m 98) (m 101) (m 102) AT (m 107) (m 108) (m1 109) OW (m 112) (m1 113) (m1 114) (m1 94 55) (m 94 46) ro 0 0 0 1 (m3 110) (m3 119) (m 94 76) (m3 94 75) (m3 103) (m3 111) (m3 94 77) st ot rr (aCm (aGr b (m 100 l3.toNatClampNeg)) (qNo (m 100) l3)) := p1_m3
      try have ws0 := WS_ge r_WS (by omega)
      refine sp_208rv (aa := (aCm (aGr b (m 100 l3.toNatClampNeg)) (qNo (m 100) l3)))  hV_m3 (show (m 94 10).toInt = 2 from by omega) r_W p0_m3 p1_m3 (fun m5 hV_m5 p0_m5 p1_m5 p2_m5 => zmv_n ?_)
      have p0_m5 : zOw (m 99) (m5 103) (m5 111) := p0_m5
      have p1_m5 : qHB (m 99) (m 100) (m 98) (m 101) (m 102) AT (m 107) (m 108) (m1 109) OW (m 112) (m1 113) (m1 114) (m1 94 55) (m 94 46) ro 0 0 0 1 (m5 110) (m5 119) (m5 94 76) (m5 94 75) (m5 103) (m5 111) (m5 94 77) st ot rr (aSp 512 (aCm (aGr b (m 100 l3.toNatClampNeg)) (qNo (m 100) l3))) := p1_m5
      have p2_m5 : (m5 94 75).toInt ≤ (m5 94 76).toInt := p2_m5
      have f10 : 0 ≤ (m5 94 75).toInt ∧ (m5 94 75).toInt ≤ 3100 := rs_94_75 (m := (zov wr_208 (zov wr_207 (zov wr_197 m m1) m3) m5)) hV_m5
      have f11 : 0 ≤ (m5 94 76).toInt ∧ (m5 94 76).toInt ≤ 3100 := rs_94_76 (m := (zov wr_208 (zov wr_207 (zov wr_197 m m1) m3) m5)) hV_m5
      first | have f12 : 0 ≤ (m 100 l3.toNatClampNeg).toInt ∧ (m 100 l3.toNatClampNeg).toInt ≤ 100000 := ra_100 (m := m) hV (k := l3.toNatClampNeg) (i_ix (n := 3100) (by omega) (by omega)).2 | have b13 := i_bd (m 100 l3.toNatClampNeg)
      have b14 := i_bd l1
      try have ws0 := WS_ge r_WS (by omega)
      refine sp_195r ((m 100 l3.toNatClampNeg)) (l1) hV_m5 (by omega) (fun v8 m7 hV_m7 p0_m7 p1_m7 => zmi_n ?_)
      have p0_m7 : zWS (m 100) (m 99) (m5 110) (m1 109) (m 100 l3.toNatClampNeg) v8 := p0_m7
      have p1_m7 : qMin (qCw (m 99) (m5 110) (m1 109) (m 100) (m 100 l3.toNatClampNeg)) (m 100) v8 3100 := p1_m7
      try have gw := GW_room p0_m1
      try have ws0 := WS_ge r_WS (by omega)
      have b15 := i_bd v8
      exact IH ((zmg (m 100) v8 : Int)).toNat (by have zq := zmg_lt (s := l3) (by omega) p0_m7 rfl (by omega) (by omega); omega) _ (l1) (v8) rfl (zF_zov (zF_zov (zF_zov (zF_zov hF ws_197_209) ws_207_209) ws_208_209) ws_195_209) hV_m7 (by omega) (by omega) (show (m 94 10).toInt = 2 from by omega) (show zWS (m 100) (m 99) (m5 110) (m1 109) (-1 : Int32) v8 from by first | (exact WS_weak p0_m7 (by omega)) | (exact p0_m7) | (exact Or.inl (by decide)) | (exact Or.inr ⟨by omega, by omega, by assumption, by assumption, by assumption, by omega⟩) | (exfalso; omega; done) | (exfalso; contradiction; done)) r_W p0_m1 (show zuw (m0 113) (m1 113) from by first | (exact zuw_tr r_UW p1_m1) | (exact zuw_rfl) | (exfalso; omega; done) | (exfalso; contradiction; done)) p0_m5 (show qHG (m 99) (m 100) (m 98) (m 101) (m 102) AT (m 107) (m 108) (m1 109) OW (m 112) (m1 113) (m1 114) (m1 94 55) (m 94 46) ro 0 0 0 1 (m5 110) (m5 119) (m5 94 76) (m5 94 75) (m5 103) (m5 111) (m5 94 77) st ot rr v8 (aGw aa 0) from by first | (exact HG_nx gHB gE0 gCL gl gMn gT (by omega) ws0.2.2.1 (by omega) (GW_512 r_GW ws0.2.2.2.2.1 (by omega) (by omega) (by omega)) p1_m5 p1_m7) | (exfalso; omega; done) | (exfalso; contradiction; done))
set_option maxHeartbeats 8000000 in
theorem sp_209rv {X : Nat × (Nat → Int32)} {P : Option ma_V → (Nat → Nat → Int32) → Prop} {T : Nat} {aa : Nat→Nat→Int32} {AT : Nat→Int32} {OW : Nat→Int32} {ro : Int32} {st : Int} {ot : Int} {rr : Int} {m : Nat → Nat → Int32} (yo : Int32) (hV : zV m) (hpre0 : yo.toInt = 0) (hpre1 : T ≤ 512) (hpre2 : (m 94 10).toInt = 2) (r_W : zW (m 94 7) (m 98) (m 101) (m 102) (m 108)) (r_GW : zGW T (m 94 55) (m 109)) (r_OW : zOw (m 99) (m 103) (m 111)) (r_HB : qHB (m 99) (m 100) (m 98) (m 101) (m 102) AT (m 107) (m 108) (m 109) OW (m 112) (m 113) (m 114) (m 94 55) (m 94 46) ro 0 0 0 1 (m 110) (m 119) (m 94 76) (m 94 75) (m 103) (m 111) (m 94 77) st ot rr aa) (r_E0 : qE0 aa) (r_CLr : qCl aa) (KZ : ∀ m₉, zV (zov wr_209 m m₉) → (zGW T (m₉ 94 55) (m₉ 109)) → (zuw (m 113) (m₉ 113)) → (zOw (m 99) (m₉ 103) (m₉ 111)) → (qHB (m 99) (m 100) (m 98) (m 101) (m 102) AT (m 107) (m 108) (m₉ 109) OW (m 112) (m₉ 113) (m₉ 114) (m₉ 94 55) (m 94 46) ro 0 0 0 1 (m₉ 110) (m₉ 119) (m₉ 94 76) (m₉ 94 75) (m₉ 103) (m₉ 111) (m₉ 94 77) st ot rr (aGw aa 0)) → (qE0 (aGw aa 0)) → (qCl (aGw aa 0)) → P none (zov wr_209 m m₉)) : zm X 4 86 209 0 [(0, .inr (.inr (some 94))), (1, .inl yo)] m P := by
  have K : ∀ m₉, zF wr_209 m m₉ → zV m₉ → (zGW T (m₉ 94 55) (m₉ 109)) → (zuw (m 113) (m₉ 113)) → (zOw (m₉ 99) (m₉ 103) (m₉ 111)) → (qHB (m₉ 99) (m₉ 100) (m₉ 98) (m₉ 101) (m₉ 102) AT (m₉ 107) (m₉ 108) (m₉ 109) OW (m₉ 112) (m₉ 113) (m₉ 114) (m₉ 94 55) (m₉ 94 46) ro 0 0 0 1 (m₉ 110) (m₉ 119) (m₉ 94 76) (m₉ 94 75) (m₉ 103) (m₉ 111) (m₉ 94 77) st ot rr (aGw aa 0)) → (qE0 (aGw aa 0)) → (qCl (aGw aa 0)) → P none m₉ := by
    intro m₉ hf z q0 q1 q2 q3 q4 q5
    have e := zov_eq hf
    rw [e] at z ⊢
    try rw [e] at q0
    try rw [e] at q1
    try rw [e] at q2
    try rw [e] at q3
    try rw [e] at q4
    try rw [e] at q5
    exact KZ m₉ z q0 q1 q2 q3 q4 q5
  refine g_209_0 yo ?_
  have f1 : 0 ≤ (m 94 10).toInt ∧ (m 94 10).toInt ≤ 6 := rs_94_10 (m := m) hV
  have li2 : (-1 : Int32).toInt = -1 := rfl
  have b3 := i_bd yo
  try have ws0 := WS_ge r_WS (by omega)
  refine sp_195r ((-1 : Int32)) (yo) hV (by omega) (fun v2 m1 hV_m1 p0_m1 p1_m1 => zmi_n ?_)
  have p0_m1 : zWS (m 100) (m 99) (m 110) (m 109) (-1 : Int32) v2 := p0_m1
  have p1_m1 : qMin (qCw (m 99) (m 110) (m 109) (m 100) (-1 : Int32)) (m 100) v2 3100 := p1_m1
  try have gw := GW_room r_GW
  try have ws0 := WS_ge r_WS (by omega)
  have b4 := i_bd v2
  exact lp_209rv_9 (yo := yo) hV K _ _ (yo) (v2) rfl (zF_zov zF_rfl ws_195_209) hV_m1 (by omega) (by omega) (show (m 94 10).toInt = 2 from by omega) p0_m1 r_W r_GW (show zuw (m 113) (m 113) from by first | (exact zuw_rfl) | (exact zuw_rfl) | (exfalso; omega; done) | (exfalso; contradiction; done)) r_OW (show qHG (m 99) (m 100) (m 98) (m 101) (m 102) AT (m 107) (m 108) (m 109) OW (m 112) (m 113) (m 114) (m 94 55) (m 94 46) ro 0 0 0 1 (m 110) (m 119) (m 94 76) (m 94 75) (m 103) (m 111) (m 94 77) st ot rr v2 (aGw aa 0) from by first | (exact HG_0 r_HB r_E0 r_CLr p1_m1) | (exfalso; omega; done) | (exfalso; contradiction; done))

/-! from 95.r19 -/
/-! the reference where it moves (written by wip/tools/gen15r.py) -/
set_option maxHeartbeats 8000000 in
theorem lp_206rv_73 {X : Nat × (Nat → Int32)} {P : Option ma_V → (Nat → Nat → Int32) → Prop} {T : Nat} {aa : Nat→Nat→Int32} {ro : Int32} {m0 : Nat → Nat → Int32} (h0 : zV m0) (K : ∀ v m₉, zF wr_206 m0 m₉ → zV m₉ → (zGW T (m₉ 94 55) (m₉ 109)) → (zGU T (m₉ 94 46) (m₉ 99)) → (zOw (m₉ 99) (m₉ 103) (m₉ 111)) → (qRB (m₉ 99) (m₉ 100) (m₉ 98) (m₉ 101) (m₉ 102) (m₉ 103) (m₉ 107) (m₉ 108) (m₉ 109) (m₉ 111) (m₉ 112) (m₉ 113) (m₉ 114) (m₉ 94 55) (m₉ 94 46) ro 0 0 0 1 (hCl aa)) → (qHv (hCl aa)) → (qHL (hCl aa) (m₉ 94 11) (m₉ 94 61) (m₉ 94 59)) → ((m₉ 94 45).toInt = sm (zbU (m₉ 99)) (m₉ 102) 3100) → P (some (.inl v)) m₉) : ∀ (n : Nat) (m : Nat → Nat → Int32) (l1 : Int32), (3100 - l1.toInt).toNat = n → zF wr_206 m0 m → zV m → (0 ≤ l1.toInt) → (T ≤ 512) → (zW (m 94 7) (m 98) (m 101) (m 102) (m 108)) → (zGW T (m 94 55) (m 109)) → (zGU T (m 94 46) (m 99)) → (zOw (m 99) (m 103) (m 111)) → ((m 94 10).toInt = 2) → (qHv aa) → (qHL aa (m 94 11) (m0 94 61) (aa 87 4)) → (∀ s, s < 3100 → (m 99) s ≠ 0 → (m 107) s = 0) → ((m 94 45).toInt = sm (zbU (m 99)) (m 102) 3100) → ((m 94 61).toInt = 1 - (m0 94 61).toInt) → (qHX (m 99) (m 100) (m 98) (m 101) (m 102) (m0 103) (m 107) (m 108) (m 109) (m0 111) (m 112) (m 113) (m 114) (m 94 55) (m 94 46) ro 0 0 0 1 (m 110) (m 119) (m 94 76) (m 94 75) (m 103) (m 111) (m 94 77) (aa 87 5 - aa 87 3).toInt (aa 87 3).toInt (aa 87 5).toInt l1 (aRo (aWh aa 0) 0)) → zm X 5 109 206 73 [(0, .inr (.inr (some 94))), (1, .inl l1)] m P := by
  intro n
  induction n using Nat.strongRecOn with
  | _ n IH =>
    intro m l1 hmu hF hV hi0 hi1 r_W r_GW r_GU r_OW hi6 r_HV r_HLo r_HOo r_WTS hi11 r_HX
    refine g_206_73 l1 ?_
    have f1 : 0 ≤ (m 94 10).toInt ∧ (m 94 10).toInt ≤ 6 := rs_94_10 (m := m) hV
    have f2 : 0 ≤ (m 94 61).toInt ∧ (m 94 61).toInt ≤ 1 := rs_94_61 (m := m) hV
    have f3 : 0 ≤ (m0 94 61).toInt ∧ (m0 94 61).toInt ≤ 1 := rs_94_61 (m := m0) h0
    obtain ⟨c, hB, hT⟩ := r_HX
    have f4 : 0 ≤ (m 94 55).toInt ∧ (m 94 55).toInt ≤ 3100 := rs_94_55 (m := m) hV
    have b5 := i_bd l1
    refine zd (fun (h6 : (m 94 55) ≤ l1) => ?_) (fun (h6 : ¬ (m 94 55) ≤ l1) => ?_)
    · skip
      have g7 := i_le h6
      refine sp_208rv (aa := (aRo (aWh aa 0) 0)) (AT := (m0 103)) (OW := (m0 111)) (st := (aa 87 5 - aa 87 3).toInt) (ot := (aa 87 3).toInt) (rr := (aa 87 5).toInt)  hV (show (m 94 10).toInt = 2 from by omega) r_W r_OW (show qHB (m 99) (m 100) (m 98) (m 101) (m 102) (m0 103) (m 107) (m 108) (m 109) (m0 111) (m 112) (m 113) (m 114) (m 94 55) (m 94 46) ro 0 0 0 1 (m 110) (m 119) (m 94 76) (m 94 75) (m 103) (m 111) (m 94 77) (aa 87 5 - aa 87 3).toInt (aa 87 3).toInt (aa 87 5).toInt (aRo (aWh aa 0) 0) from by first | (exact HX_end ⟨c, hB, hT⟩ (by omega) r_HOo) | (exact hB) | (exact hB) | (exfalso; omega; done) | (exfalso; contradiction; done)) (fun m1 hV_m1 p0_m1 p1_m1 p2_m1 => zmv_n ?_)
      have p0_m1 : zOw (m 99) (m1 103) (m1 111) := p0_m1
      have p1_m1 : qHB (m 99) (m 100) (m 98) (m 101) (m 102) (m0 103) (m 107) (m 108) (m 109) (m0 111) (m 112) (m 113) (m 114) (m 94 55) (m 94 46) ro 0 0 0 1 (m1 110) (m1 119) (m1 94 76) (m1 94 75) (m1 103) (m1 111) (m1 94 77) (aa 87 5 - aa 87 3).toInt (aa 87 3).toInt (aa 87 5).toInt (aSp 512 (aRo (aWh aa 0) 0)) := p1_m1
      have p2_m1 : (m1 94 75).toInt ≤ (m1 94 76).toInt := p2_m1
      have f8 : 0 ≤ (m1 94 75).toInt ∧ (m1 94 75).toInt ≤ 3100 := rs_94_75 (m := (zov wr_208 m m1)) hV_m1
      have f9 : 0 ≤ (m1 94 76).toInt ∧ (m1 94 76).toInt ≤ 3100 := rs_94_76 (m := (zov wr_208 m m1)) hV_m1
      have li10 : (0 : Int32).toInt = 0 := rfl
      refine sp_209rv (aa := (aRA aa)) (AT := (m0 103)) (OW := (m0 111)) (st := (aa 87 5 - aa 87 3).toInt) (ot := (aa 87 3).toInt) (rr := (aa 87 5).toInt) ((0 : Int32)) hV_m1 (by omega) (by omega) (show (m 94 10).toInt = 2 from by omega) r_W r_GW p0_m1 (show qHB (m 99) (m 100) (m 98) (m 101) (m 102) (m0 103) (m 107) (m 108) (m 109) (m0 111) (m 112) (m 113) (m 114) (m 94 55) (m 94 46) ro 0 0 0 1 (m1 110) (m1 119) (m1 94 76) (m1 94 75) (m1 103) (m1 111) (m1 94 77) (aa 87 5 - aa 87 3).toInt (aa 87 3).toInt (aa 87 5).toInt (aRA aa) from by first | (exact p1_m1) | (exact p1_m1) | (exfalso; omega; done) | (exfalso; contradiction; done)) (show qE0 (aRA aa) from by first | (exact E0_ra r_HV.1) | (exfalso; omega; done) | (exfalso; contradiction; done)) (show qCl (aRA aa) from by first | (exact Cl_ra r_HV.1) | (exfalso; omega; done) | (exfalso; contradiction; done)) (fun m3 hV_m3 p0_m3 p1_m3 p2_m3 p3_m3 p4_m3 p5_m3 => zmv_n ?_)
      have p0_m3 : zGW T (m3 94 55) (m3 109) := p0_m3
      have p1_m3 : zuw (m 113) (m3 113) := p1_m3
      have p2_m3 : zOw (m 99) (m3 103) (m3 111) := p2_m3
      have p3_m3 : qHB (m 99) (m 100) (m 98) (m 101) (m 102) (m0 103) (m 107) (m 108) (m3 109) (m0 111) (m 112) (m3 113) (m3 114) (m3 94 55) (m 94 46) ro 0 0 0 1 (m3 110) (m3 119) (m3 94 76) (m3 94 75) (m3 103) (m3 111) (m3 94 77) (aa 87 5 - aa 87 3).toInt (aa 87 3).toInt (aa 87 5).toInt (aGw (aRA aa) 0) := p3_m3
      have p4_m3 : qE0 (aGw (aRA aa) 0) := p4_m3
      have p5_m3 : qCl (aGw (aRA aa) 0) := p5_m3
      refine sp_199r  hV_m3  (fun m5 hV_m5 p0_m5 p1_m5 => zmv_n ?_)
      have p0_m5 : zuw (m3 113) (m5 113) := p0_m5
      have p1_m5 : qUr (m3 113) (m5 113) (m3 110) 16 := p1_m5
      have f12 : 0 ≤ (m3 94 77).toInt ∧ (m3 94 77).toInt ≤ 4600 := rs_94_77 (m := (zov wr_209 (zov wr_208 m m1) m3)) hV_m3
      have hV11 : zV (ma_u (zov wr_199 (zov wr_209 (zov wr_208 m m1) m3) m5) 94 59 (m3 94 77)) := us_94_59 hV_m5 (by omega) (by omega)
      refine sp_200rn  hV11 (show (m 94 10).toInt ≠ 4 from by omega) r_W r_GU p2_m3 r_WTS (fun v8 m7 hV_m7 p0_m7 p1_m7 p2_m7 p3_m7 p4_m7 => zmi_n ?_)
      have p0_m7 : zrm (m 99) (m7 99) (m3 110) 3100 := p0_m7
      have p1_m7 : zowr (m3 111) (m7 111) (m 99) (m3 110) (m3 103) := p1_m7
      have p2_m7 : zGU T (m 94 46) (m7 99) := p2_m7
      have p3_m7 : zOw (m7 99) (m3 103) (m7 111) := p3_m7
      have p4_m7 : (m7 94 45).toInt = sm (zbU (m7 99)) (m 102) 3100 := p4_m7
      try have gw := GW_room p0_m3
      have b13 := i_bd v8
      exact K (v8) _ (zF_zov (zF_u (zF_zov (zF_zov (zF_zov hF ws_208_206) ws_209_206) ws_199_206) rfl) ws_200_206) hV_m7 p0_m3 p2_m7 p3_m7 (show qRB (m7 99) (m 100) (m 98) (m 101) (m 102) (m3 103) (m 107) (m 108) (m3 109) (m7 111) (m 112) (m5 113) (m3 114) (m3 94 55) (m 94 46) ro 0 0 0 1 (hCl aa) from by first | (exact RB_hcl (HB_fin p3_m3 p4_m3 p5_m3 r_HV p1_m5 p0_m7 p1_m7)) | (exfalso; omega; done) | (exfalso; contradiction; done)) (show qHv (hCl aa) from by first | (exact Hv_cl r_HV) | (exact r_HV) | (exfalso; omega; done) | (exfalso; contradiction; done)) (show qHL (hCl aa) (m 94 11) (m 94 61) (m3 94 77) from by first | (exact HL_cl r_HLo r_HV (HB_fin p3_m3 p4_m3 p5_m3 r_HV p1_m5 p0_m7 p1_m7).2 (by omega)) | (exfalso; omega; done) | (exfalso; contradiction; done)) p4_m7
    · skip
      have g14 := i_nle h6
      have hg15 : (0 ≤ l1 ∧ l1.toNatClampNeg < 3100) := i_ix (by omega) (by omega)
      refine ⟨hg15, ?_⟩
      first | have f16 : 0 ≤ (m 114 l1.toNatClampNeg).toInt ∧ (m 114 l1.toNatClampNeg).toInt ≤ 3099 := ra_114 (m := m) hV (k := l1.toNatClampNeg) (i_ix (n := 3100) (by omega) (by omega)).2 | have b17 := i_bd (m 114 l1.toNatClampNeg)
      refine sp_207rv (aa := c) (AT := (m0 103)) (OW := (m0 111)) (st := (aa 87 5 - aa 87 3).toInt) (ot := (aa 87 3).toInt) (rr := (aa 87 5).toInt) ((m 114 l1.toNatClampNeg)) hV (by omega) (by omega) (show (m 94 10).toInt = 2 from by omega) (show qU (m 99) (m 114 l1.toNatClampNeg) from by first | (exact (HX_wl hB (by omega) (by omega) rfl).1.2) | (exfalso; omega; done) | (exfalso; contradiction; done)) r_OW hB (fun m9 hV_m9 p0_m9 p1_m9 => zmv_n ?_)
      have p0_m9 : zOw (m 99) (m9 103) (m9 111) := p0_m9
      have p1_m9 : qHB (m 99) (m 100) (m 98) (m 101) (m 102) (m0 103) (m 107) (m 108) (m 109) (m0 111) (m 112) (m 113) (m 114) (m 94 55) (m 94 46) ro 0 0 0 1 (m9 110) (m9 119) (m 94 76) (m9 94 75) (m9 103) (m9 111) (m9 94 77) (aa 87 5 - aa 87 3).toInt (aa 87 3).toInt (aa 87 5).toInt (aCm c (qNo (m 100) (m 114 l1.toNatClampNeg))) := p1_m9
      try have gw := GW_room r_GW
      first | have e18 : (l1 + (1 : Int32)).toInt = l1.toInt + (1) := i_addk rfl (by omega) (by omega) | have b19 := i_bd (l1 + (1 : Int32))
      exact IH (3100 - (l1 + (1 : Int32)).toInt).toNat (by omega) _ ((l1 + (1 : Int32))) rfl (zF_zov hF ws_207_206) hV_m9 (by omega) (by omega) r_W r_GW r_GU p0_m9 (show (m 94 10).toInt = 2 from by omega) r_HV r_HLo r_HOo r_WTS (show (m 94 61).toInt = 1 - (m0 94 61).toInt from by omega) (show qHX (m 99) (m 100) (m 98) (m 101) (m 102) (m0 103) (m 107) (m 108) (m 109) (m0 111) (m 112) (m 113) (m 114) (m 94 55) (m 94 46) ro 0 0 0 1 (m9 110) (m9 119) (m 94 76) (m9 94 75) (m9 103) (m9 111) (m9 94 77) (aa 87 5 - aa 87 3).toInt (aa 87 3).toInt (aa 87 5).toInt (l1 + (1 : Int32)) (aRo (aWh aa 0) 0) from by first | (exact ⟨_, p1_m9, (HX_wl hB (by omega) (by omega) rfl).2.symm.trans hT⟩) | (exfalso; omega; done) | (exfalso; contradiction; done))
set_option maxHeartbeats 8000000 in
theorem lp_206rv_49 {X : Nat × (Nat → Int32)} {P : Option ma_V → (Nat → Nat → Int32) → Prop} {T : Nat} {aa : Nat→Nat→Int32} {ro : Int32} {m0 : Nat → Nat → Int32} (h0 : zV m0) (K : ∀ v m₉, zF wr_206 m0 m₉ → zV m₉ → (zGW T (m₉ 94 55) (m₉ 109)) → (zGU T (m₉ 94 46) (m₉ 99)) → (zOw (m₉ 99) (m₉ 103) (m₉ 111)) → (qRB (m₉ 99) (m₉ 100) (m₉ 98) (m₉ 101) (m₉ 102) (m₉ 103) (m₉ 107) (m₉ 108) (m₉ 109) (m₉ 111) (m₉ 112) (m₉ 113) (m₉ 114) (m₉ 94 55) (m₉ 94 46) ro 0 0 0 1 (hCl aa)) → (qHv (hCl aa)) → (qHL (hCl aa) (m₉ 94 11) (m₉ 94 61) (m₉ 94 59)) → ((m₉ 94 45).toInt = sm (zbU (m₉ 99)) (m₉ 102) 3100) → P (some (.inl v)) m₉) : ∀ (n : Nat) (m : Nat → Nat → Int32) (l1 : Int32), (16 - l1.toInt).toNat = n → zF wr_206 m0 m → zV m → (0 ≤ l1.toInt) → (T ≤ 512) → (zW (m 94 7) (m 98) (m 101) (m 102) (m 108)) → (zGW T (m 94 55) (m 109)) → (zGU T (m 94 46) (m 99)) → (zOw (m 99) (m 103) (m 111)) → ((m 94 10).toInt = 2) → (qHv aa) → (qHL aa (m 94 11) (m0 94 61) (aa 87 4)) → (∀ s, s < 3100 → (m 99) s ≠ 0 → (m 107) s = 0) → ((m 94 45).toInt = sm (zbU (m 99)) (m 102) 3100) → ((m 94 61).toInt = 1 - (m0 94 61).toInt) → (qHR (m 99) (m 100) (m 98) (m 101) (m 102) (m0 103) (m 107) (m 108) (m 109) (m0 111) (m 112) (m 113) (m 114) (m 94 55) (m 94 46) ro 0 0 0 1 (m 110) (m 119) (m 94 76) (m 94 75) (m 103) (m 111) (m 94 77) (aa 87 5 - aa 87 3).toInt (aa 87 3).toInt (aa 87 5).toInt l1 (aRo (aWh aa 0) 0)) → zm X 5 109 206 49 [(0, .inr (.inr (some 94))), (1, .inl l1)] m P := by
  intro n
  induction n using Nat.strongRecOn with
  | _ n IH =>
    intro m l1 hmu hF hV hi0 hi1 r_W r_GW r_GU r_OW hi6 r_HV r_HLo r_HOo r_WTS hi11 r_HR
    refine g_206_49 l1 ?_
    have f1 : 0 ≤ (m 94 10).toInt ∧ (m 94 10).toInt ≤ 6 := rs_94_10 (m := m) hV
    have f2 : 0 ≤ (m 94 61).toInt ∧ (m 94 61).toInt ≤ 1 := rs_94_61 (m := m) hV
    have f3 : 0 ≤ (m0 94 61).toInt ∧ (m0 94 61).toInt ≤ 1 := rs_94_61 (m := m0) h0
    obtain ⟨c, hB, hT⟩ := r_HR
    have li4 : (16 : Int32).toInt = 16 := rfl
    have b5 := i_bd l1
    refine zd (fun (h6 : (16 : Int32) ≤ l1) => ?_) (fun (h6 : ¬ (16 : Int32) ≤ l1) => ?_)
    · skip
      have g7 := i_le h6
      try have gw := GW_room r_GW
      have li8 : (0 : Int32).toInt = 0 := rfl
      exact lp_206rv_73 h0 K _ _ ((0 : Int32)) rfl hF hV (by omega) (by omega) r_W r_GW r_GU r_OW (show (m 94 10).toInt = 2 from by omega) r_HV r_HLo r_HOo r_WTS (show (m 94 61).toInt = 1 - (m0 94 61).toInt from by omega) (show qHX (m 99) (m 100) (m 98) (m 101) (m 102) (m0 103) (m 107) (m 108) (m 109) (m0 111) (m 112) (m 113) (m 114) (m 94 55) (m 94 46) ro 0 0 0 1 (m 110) (m 119) (m 94 76) (m 94 75) (m 103) (m 111) (m 94 77) (aa 87 5 - aa 87 3).toInt (aa 87 3).toInt (aa 87 5).toInt (0 : Int32) (aRo (aWh aa 0) 0) from by first | (exact HR_end ⟨c, hB, hT⟩ (by omega) (by omega)) | (exfalso; omega; done) | (exfalso; contradiction; done))
    · skip
      have g9 := i_nle h6
      have hg10 : (0 ≤ l1 ∧ l1.toNatClampNeg < 16) := i_ix (by omega) (by omega)
      refine ⟨hg10, ?_⟩
      first | have f11 : -1 ≤ (m 112 l1.toNatClampNeg).toInt ∧ (m 112 l1.toNatClampNeg).toInt ≤ 3099 := ra_112 (m := m) hV (k := l1.toNatClampNeg) (i_ix (n := 16) (by omega) (by omega)).2 | have b12 := i_bd (m 112 l1.toNatClampNeg)
      refine sp_207rv (aa := c) (AT := (m0 103)) (OW := (m0 111)) (st := (aa 87 5 - aa 87 3).toInt) (ot := (aa 87 3).toInt) (rr := (aa 87 5).toInt) ((m 112 l1.toNatClampNeg)) hV (by omega) (by omega) (show (m 94 10).toInt = 2 from by omega) (show qU (m 99) (m 112 l1.toNatClampNeg) from by first | (exact (HR_rt hB (by omega) (by omega) rfl).1) | (exfalso; omega; done) | (exfalso; contradiction; done)) r_OW hB (fun m1 hV_m1 p0_m1 p1_m1 => zmv_n ?_)
      have p0_m1 : zOw (m 99) (m1 103) (m1 111) := p0_m1
      have p1_m1 : qHB (m 99) (m 100) (m 98) (m 101) (m 102) (m0 103) (m 107) (m 108) (m 109) (m0 111) (m 112) (m 113) (m 114) (m 94 55) (m 94 46) ro 0 0 0 1 (m1 110) (m1 119) (m 94 76) (m1 94 75) (m1 103) (m1 111) (m1 94 77) (aa 87 5 - aa 87 3).toInt (aa 87 3).toInt (aa 87 5).toInt (aCm c (qNo (m 100) (m 112 l1.toNatClampNeg))) := p1_m1
      try have gw := GW_room r_GW
      first | have e13 : (l1 + (1 : Int32)).toInt = l1.toInt + (1) := i_addk rfl (by omega) (by omega) | have b14 := i_bd (l1 + (1 : Int32))
      exact IH (16 - (l1 + (1 : Int32)).toInt).toNat (by omega) _ ((l1 + (1 : Int32))) rfl (zF_zov hF ws_207_206) hV_m1 (by omega) (by omega) r_W r_GW r_GU p0_m1 (show (m 94 10).toInt = 2 from by omega) r_HV r_HLo r_HOo r_WTS (show (m 94 61).toInt = 1 - (m0 94 61).toInt from by omega) (show qHR (m 99) (m 100) (m 98) (m 101) (m 102) (m0 103) (m 107) (m 108) (m 109) (m0 111) (m 112) (m 113) (m 114) (m 94 55) (m 94 46) ro 0 0 0 1 (m1 110) (m1 119) (m 94 76) (m1 94 75) (m1 103) (m1 111) (m1 94 77) (aa 87 5 - aa 87 3).toInt (aa 87 3).toInt (aa 87 5).toInt (l1 + (1 : Int32)) (aRo (aWh aa 0) 0) from by first | (exact ⟨_, p1_m1, (HR_rt hB (by omega) (by omega) rfl).2.symm.trans hT⟩) | (exfalso; omega; done) | (exfalso; contradiction; done))
set_option maxHeartbeats 8000000 in
theorem sp_206rv {X : Nat × (Nat → Int32)} {P : Option ma_V → (Nat → Nat → Int32) → Prop} {T : Nat} {aa : Nat→Nat→Int32} {ro : Int32} {m : Nat → Nat → Int32}  (hV : zV m) (hpre0 : T ≤ 512) (r_W : zW (m 94 7) (m 98) (m 101) (m 102) (m 108)) (r_GW : zGW T (m 94 55) (m 109)) (r_GU : zGU T (m 94 46) (m 99)) (r_OW : zOw (m 99) (m 103) (m 111)) (hpre5 : (m 94 10).toInt = 2) (r_RB : qRB (m 99) (m 100) (m 98) (m 101) (m 102) (m 103) (m 107) (m 108) (m 109) (m 111) (m 112) (m 113) (m 114) (m 94 55) (m 94 46) ro 0 0 0 1 aa) (r_HV : qHv aa) (r_HL : qHL aa (m 94 11) (m 94 61) (m 94 59)) (r_WTS : (m 94 45).toInt = sm (zbU (m 99)) (m 102) 3100) (KZ : ∀ v m₉, zV (zov wr_206 m m₉) → (zGW T (m₉ 94 55) (m₉ 109)) → (zGU T (m 94 46) (m₉ 99)) → (zOw (m₉ 99) (m₉ 103) (m₉ 111)) → (qRB (m₉ 99) (m 100) (m 98) (m 101) (m 102) (m₉ 103) (m 107) (m 108) (m₉ 109) (m₉ 111) (m 112) (m₉ 113) (m₉ 114) (m₉ 94 55) (m 94 46) ro 0 0 0 1 (hCl aa)) → (qHv (hCl aa)) → (qHL (hCl aa) (m 94 11) (m₉ 94 61) (m₉ 94 59)) → ((m₉ 94 45).toInt = sm (zbU (m₉ 99)) (m 102) 3100) → P (some (.inl v)) (zov wr_206 m m₉)) : zm X 5 109 206 0 [(0, .inr (.inr (some 94)))] m P := by
  have K : ∀ v m₉, zF wr_206 m m₉ → zV m₉ → (zGW T (m₉ 94 55) (m₉ 109)) → (zGU T (m₉ 94 46) (m₉ 99)) → (zOw (m₉ 99) (m₉ 103) (m₉ 111)) → (qRB (m₉ 99) (m₉ 100) (m₉ 98) (m₉ 101) (m₉ 102) (m₉ 103) (m₉ 107) (m₉ 108) (m₉ 109) (m₉ 111) (m₉ 112) (m₉ 113) (m₉ 114) (m₉ 94 55) (m₉ 94 46) ro 0 0 0 1 (hCl aa)) → (qHv (hCl aa)) → (qHL (hCl aa) (m₉ 94 11) (m₉ 94 61) (m₉ 94 59)) → ((m₉ 94 45).toInt = sm (zbU (m₉ 99)) (m₉ 102) 3100) → P (some (.inl v)) m₉ := by
    intro v m₉ hf z q0 q1 q2 q3 q4 q5 q6
    have e := zov_eq hf
    rw [e] at z ⊢
    try rw [e] at q0
    try rw [e] at q1
    try rw [e] at q2
    try rw [e] at q3
    try rw [e] at q4
    try rw [e] at q5
    try rw [e] at q6
    exact KZ v m₉ z q0 q1 q2 q3 q4 q5 q6
  refine g_206_0  ?_
  have f1 : 0 ≤ (m 94 10).toInt ∧ (m 94 10).toInt ≤ 6 := rs_94_10 (m := m) hV
  have hV2 : zV (ma_u m 94 47 ((m 94 47) + (1 : Int32))) := uf_94_47 hV
  refine sp_189  hV2  (fun m1 hV_m1 p0_m1 => zmv_n ?_)
  have p0_m1 : ∀ s : Nat, s < 3100 → (m1 110) s = 0 := p0_m1
  try have gw := GW_room r_GW
  have li4 : (0 : Int32).toInt = 0 := rfl
  have hV3 : zV (ma_u (zov wr_189 (ma_u m 94 47 ((m 94 47) + (1 : Int32))) m1) 94 75 (0 : Int32)) := us_94_75 hV_m1 (by omega) (by omega)
  have hV5 : zV (ma_u (ma_u (zov wr_189 (ma_u m 94 47 ((m 94 47) + (1 : Int32))) m1) 94 75 (0 : Int32)) 94 76 (0 : Int32)) := us_94_76 hV3 (by omega) (by omega)
  have li7 : (1 : Int32).toInt = 1 := rfl
  have f8 : 0 ≤ (m 94 61).toInt ∧ (m 94 61).toInt ≤ 1 := rs_94_61 (m := m) hV
  first | have e9 : ((1 : Int32) - (m 94 61)).toInt = (1 : Int32).toInt - (m 94 61).toInt := i_sub (by omega) (by omega) | have b10 := i_bd ((1 : Int32) - (m 94 61))
  have hV6 : zV (ma_u (ma_u (ma_u (zov wr_189 (ma_u m 94 47 ((m 94 47) + (1 : Int32))) m1) 94 75 (0 : Int32)) 94 76 (0 : Int32)) 94 61 ((1 : Int32) - (m 94 61))) := us_94_61 hV5 (by omega) (by omega)
  have f12 : 0 ≤ (m 94 11).toInt ∧ (m 94 11).toInt ≤ 1500 := rs_94_11 (m := m) hV
  first | have f13 := i_mul01 (x := ((1 : Int32) - (m 94 61))) (y := (m 94 11)) (by omega) (by omega) (by omega) (by omega) | have b14 := i_bd (((1 : Int32) - (m 94 61)) * (m 94 11))
  have hV11 : zV (ma_u (ma_u (ma_u (ma_u (zov wr_189 (ma_u m 94 47 ((m 94 47) + (1 : Int32))) m1) 94 75 (0 : Int32)) 94 76 (0 : Int32)) 94 61 ((1 : Int32) - (m 94 61))) 94 77 (((1 : Int32) - (m 94 61)) * (m 94 11))) := us_94_77 hV6 (by omega) (by omega)
  exact lp_206rv_49 hV K _ _ ((0 : Int32)) rfl (zF_u (zF_u (zF_u (zF_u (zF_zov (zF_u zF_rfl rfl) ws_189_206) rfl) rfl) rfl) rfl) hV11 (by omega) (by omega) r_W r_GW r_GU r_OW (show (m 94 10).toInt = 2 from by omega) r_HV (show qHL aa (m 94 11) (m 94 61) (aa 87 4) from by first | (exact HL_tp r_HL) | (exfalso; omega; done) | (exfalso; contradiction; done)) (show ∀ s, s < 3100 → (m 99) s ≠ 0 → (m 107) s = 0 from by first | (exact HV_ho r_HV r_RB) | (exfalso; omega; done) | (exfalso; contradiction; done)) r_WTS (show ((1 : Int32) - (m 94 61)).toInt = 1 - (m 94 61).toInt from by omega) (show qHR (m 99) (m 100) (m 98) (m 101) (m 102) (m 103) (m 107) (m 108) (m 109) (m 111) (m 112) (m 113) (m 114) (m 94 55) (m 94 46) ro 0 0 0 1 (m1 110) (m 119) (0 : Int32) (0 : Int32) (m 103) (m 111) (((1 : Int32) - (m 94 61)) * (m 94 11)) (aa 87 5 - aa 87 3).toInt (aa 87 3).toInt (aa 87 5).toInt (0 : Int32) (aRo (aWh aa 0) 0) from by first | (exact HR_0 (HB_wh r_RB r_HV p0_m1 (by omega) (by omega) (HL_to r_HL r_HV ⟨fun _ => by omega, fun _ => by omega⟩)) (by omega)) | (exfalso; omega; done) | (exfalso; contradiction; done))

/-! from 95.r20 -/
/-! the reference where it moves (written by wip/tools/gen15r.py) -/
/-! HALVES: a new one in the reference -/
def hFt (a : Nat → Nat → Int32) (z v : Int32) : Nat → Nat → Int32 := if v.toInt < 0 then hRs a z.toInt else ma_u (hRs a z.toInt) 87 4 (v + z)
section F11
variable {a b d aa : Nat → Nat → Int32} {x y v z w pl kk i rm hf tp : Int32} {n k : Nat} {L : Int64} {F : Nat → Int32}
theorem hFt_n (h : v.toInt < 0) : hFt a z v = hRs a z.toInt := if_pos h
theorem hFt_y (h : 0 ≤ v.toInt) : hFt a z v = ma_u (hRs a z.toInt) 87 4 (v + z) := if_neg (by omega)
theorem hRs_7 {t : Int} (h3 : k ≠ 3) (h4 : k ≠ 4) : hRs a t 87 k = a 87 k := by
  unfold hRs
  split
  · rfl
  · exact cl_7 h3 h4
theorem Hf_7 (h3 : k ≠ 3) (h4 : k ≠ 4) : hFt a z v 87 k = a 87 k := by
  unfold hFt
  split
  · exact hRs_7 h3 h4
  · rw [xu_o (fun w => h4 w.2)]
    exact hRs_7 h3 h4
theorem Hp_v (h : qEq v.toInt (hRp a z.toInt)) (h0 : 0 ≤ v.toInt) : (hRs a z.toInt 87 4).toInt = v.toInt ∧ v.toInt + z.toInt ≤ (hRs a z.toInt 87 3).toInt + (hRs a z.toInt 87 5).toInt := by
  have q := qE h
  unfold hRp at q
  generalize hRs a z.toInt = B at *
  by_cases w : (B 87 4).toInt + z.toInt ≤ (B 87 3).toInt + (B 87 5).toInt
  · rw [if_pos w] at q
    omega
  · rw [if_neg w] at q
    omega
theorem Hf_I (hv : qHv (hRs a z.toInt)) : qI (hFt a z v) := by
  unfold hFt
  split
  · exact hv.1
  · exact I_87k hv.1 (by decide) (by decide) (by decide)
theorem Ne_h (hv : qHv (hRs aa (w + 1).toInt)) (hR : qEq pl.toInt (hRp aa (w + 1).toInt)) (h0 : 0 ≤ pl.toInt) (hw : 0 ≤ w.toInt) (hw6 : w.toInt ≤ 60) (hy : hFt aa (w + 1) pl 69 6 = y) (hy5 : y.toInt < 512) : qNe (hFt aa (w + 1) pl) y w pl := by
  have e1 := i_p1 (i := w) (by omega)
  have f := Hp_v hR h0
  refine ⟨Hf_I hv, hy.symm, hy5, ⟨hw, hw6⟩, ?_⟩
  rw [hFt_y h0]
  have e : ∀ c, c ≠ 87 → ma_u (hRs aa (w + 1).toInt) 87 4 (pl + (w + 1)) c = hRs aa (w + 1).toInt c := fun c hc => ma_u_ne _ _ _ hc
  refine ⟨h0, ?_, fun x hx => ?_⟩
  · rw [xu_o (by decide)]
    have g := hv.2.2.1
    have g6 := hv.2.2.2.1
    omega
  · unfold xAl at hx
    rw [e 126 (by decide)] at hx
    rw [e 130 (by decide), e 128 (by decide)]
    have t := (hv.2.2.2.2.2.1 x hx).2
    exact Or.inl (by omega)
theorem hd_0 (h2 : b 87 2 = 0) (h8 : b 87 8 = 0) : ma_u (aMd (aAd b y F L) y) 87 2 0 = aAd b y F L := by
  rw [aMd_n (ad_87.trans h8)]
  funext c k
  show (if c = 87 ∧ k = 2 then 0 else (if c = 87 ∧ k = 2 then _ else aAd b y F L c k)) = aAd b y F L c k
  split
  · next w => rw [w.1, w.2, ad_87, h2]
  · rfl
theorem Ad_4 : aAd (ma_u b 87 4 x) y F L = ma_u (aAd b y F L) 87 4 x := by
  funext c₉ k₉
  by_cases w : c₉ = 87
  · rw [w, ad_87]
    show (if (87 : Nat) = 87 ∧ k₉ = 4 then x else b 87 k₉) = (if (87 : Nat) = 87 ∧ k₉ = 4 then x else aAd b y F L 87 k₉)
    rw [ad_87]
  · rw [xu_o (fun z => w z.1)]
    exact o7_ad (a := ma_u b 87 4 x) (b := b) (fun c2 k2 h2 => xu_o (fun z => h2 z.1)) c₉ k₉ w
theorem hMk_2b {kd wd rt : Int32} (h : (a 69 6).toInt < 512) (h1 : pl.toInt = hRp a (wd + 1).toInt) (h2 : 0 ≤ pl.toInt) (hw : 0 ≤ wd.toInt) (hw6 : wd.toInt ≤ 60) (hp5 : pl.toInt ≤ 4500) (hy0 : 0 ≤ y.toInt) (hy : y = hFt a (wd + 1) pl 69 6) (h8 : hFt a (wd + 1) pl 87 8 = 0) : hMk a kd wd L rt = aRt (aAd (hFt a (wd + 1) pl) y (zFn y kd (wd + 1) pl) L) rt y ∧ hMn a wd = y := by
  have A := Ad_of (b := hRs a (wd + 1).toInt) (y := y) (kk := kd) (w := wd) (pl := pl) (L := L) hy0 hw hw6 h2 hp5
  rw [← r0_rt (ad_87.trans h8)]
  rw [hFt_y h2] at hy h8 ⊢
  rw [xu_o (by decide)] at h8 hy
  have e := hMk_2 (a := a) (kd := kd) (wd := wd) (rt := rt) (L := L) (pl := pl) h rfl h1 (by omega) hy
  rw [e.1, Ad_4]
  refine ⟨?_, e.2⟩
  have m1 := A.1.2.1
  have m2 := A.1.2.2.1
  rw [aMd_n (ad_87.trans h8), xu_o (by omega)] at m1 m2
  unfold hMd
  rw [m1, m2]
theorem HL_cg (h : qHL a rm hf tp) (e3 : b 87 3 = a 87 3) (e4 : b 87 4 = a 87 4) (e5 : b 87 5 = a 87 5) : qHL b rm hf tp := by
  unfold qHL
  rw [e3, e4, e5]
  exact h
theorem HL_ft (h : qHL (hRs a z.toInt) rm hf tp) (h0 : 0 ≤ v.toInt) : qHL (hFt a z v) rm hf (v + z) := by
  rw [hFt_y h0]
  exact ⟨by rw [xu_o (by decide)]; exact h.1, h.2.1, by rw [xu_o (by decide)]; exact h.2.2.1, by rw [xu_o (by decide)]; exact h.2.2.2.1, xu_s⟩
theorem Hv_cg (h : qHv a) (e1 : b 126 = a 126) (e2 : b 128 = a 128) (e3 : b 130 = a 130) (e4 : b 133 = a 133) (e7 : b 87 = a 87) (hI : qI b) : qHv b := by
  obtain ⟨_, h2, h3, h6, h7, h9, h10⟩ := h
  unfold qHv xAl at *
  rw [e1, e2, e3, e4, e7, Su_cg e1 e2]
  exact ⟨hI, h2, h3, h6, h7, h9, h10⟩
theorem Su_nn (h : ∀ n, xAl a n → 0 ≤ (a 128 n).toInt) : ∀ n, n ≤ 512 → 0 ≤ qSu a n := by
  intro n
  induction n with
  | zero => intro _; exact Int.le_refl _
  | succ n ih =>
    intro hn
    have q := ih (by omega)
    unfold qSu
    by_cases w : a 126 n ≠ 0
    · rw [if_pos w]
      have := h n ⟨by omega, w⟩
      omega
    · rw [if_neg w]
      omega
/-- a new one is there -/
theorem Hv_new {rt : Int32} (hv : qHv (hRs aa (w + 1).toInt)) (h : qNe (hFt aa (w + 1) pl) y w pl) (hR : qEq pl.toInt (hRp aa (w + 1).toInt)) (h0 : 0 ≤ pl.toInt) (h8 : hFt aa (w + 1) pl 87 8 = 0) : qHv (aRt (aAd (hFt aa (w + 1) pl) y (zFn y kk (w + 1) pl) L) rt y) := by
  have q := Ne_b h
  have f := Hp_v hR h0
  have hw := h.2.2.2.1
  have A := Ad_of (b := hFt aa (w + 1) pl) (y := y) (kk := kk) (w := w) (pl := pl) (L := L) q.1 hw.1 hw.2 h0 (by omega)
  have I := I_ad h A
  have b2 : hFt aa (w + 1) pl 87 2 = 0 := (Hf_7 (by decide) (by decide)).trans ((hRs_7 (t := (w + 1).toInt) (by decide) (by decide)).symm.trans hv.2.1)
  have e := hd_0 (b := hFt aa (w + 1) pl) (y := y) (F := zFn y kk (w + 1) pl) (L := L) b2 h8
  have I2 : qI (aAd (hFt aa (w + 1) pl) y (zFn y kk (w + 1) pl) L) := by
    rw [← e]
    exact I_872 I (by decide) I.2.2.2.1.2.2.1.1 (Gd_0 I)
  have e7 : ∀ k, aAd (hFt aa (w + 1) pl) y (zFn y kk (w + 1) pl) L 87 k = hFt aa (w + 1) pl 87 k := fun k => ad_87
  have ro : ∀ c, c ≠ 87 → aAd (hFt aa (w + 1) pl) y (zFn y kk (w + 1) pl) L c = aMd (aAd (hFt aa (w + 1) pl) y (zFn y kk (w + 1) pl) L) y c := fun c hc => by
    rw [aMd_n (ad_87.trans h8), ma_u_ne _ _ _ hc]
  have al : ∀ x, xAl (aAd (hFt aa (w + 1) pl) y (zFn y kk (w + 1) pl) L) x ↔ xAl (hFt aa (w + 1) pl) x ∨ x = y.toNatClampNeg := fun x => by
    unfold xAl
    rw [ro 126 (by decide)]
    exact Al_ad h A
  have su : qSu (aAd (hFt aa (w + 1) pl) y (zFn y kk (w + 1) pl) L) 512 = qSu (hFt aa (w + 1) pl) 512 + (w.toInt + 1) := by
    have s := Su_dn (a := aAd (hFt aa (w + 1) pl) y (zFn y kk (w + 1) pl) L) (b := hFt aa (w + 1) pl) (k := y.toNatClampNeg) (n := 512) q.2.1 (by rw [ro 126 (by decide), A.1.1]; decide) (by
      by_cases z : hFt aa (w + 1) pl 126 y.toNatClampNeg = 0
      · exact z
      · exact absurd ⟨q.2.1, z⟩ (Ne_al h)) (fun x _ hx => ⟨by rw [ro 126 (by decide)]; exact A.2.1 126 x (by decide) (by decide) hx, by rw [ro 128 (by decide)]; exact A.2.1 128 x (by decide) (by decide) hx⟩)
    rw [ro 128 (by decide), A.1.2.1, q.2.2.2.2.2.1] at s
    omega
  have k8 : aAd (hFt aa (w + 1) pl) y (zFn y kk (w + 1) pl) L 87 8 = 0 := (e7 8).trans h8
  have rs : ∀ c, c ≠ 87 → hFt aa (w + 1) pl c = hRs aa (w + 1).toInt c := fun c hc => by
    rw [hFt_y h0, ma_u_ne _ _ _ hc]
  have r3 : hFt aa (w + 1) pl 87 3 = hRs aa (w + 1).toInt 87 3 := by
    rw [hFt_y h0]
    exact xu_o (by decide)
  have r5 : hFt aa (w + 1) pl 87 5 = hRs aa (w + 1).toInt 87 5 := by
    rw [hFt_y h0]
    exact xu_o (by decide)
  have r0 : hFt aa (w + 1) pl 87 0 = hRs aa (w + 1).toInt 87 0 := by
    rw [hFt_y h0]
    exact xu_o (by decide)
  have r4 : hFt aa (w + 1) pl 87 4 = pl + (w + 1) := by
    rw [hFt_y h0]
    exact xu_s
  have sue : qSu (hFt aa (w + 1) pl) 512 = qSu (hRs aa (w + 1).toInt) 512 := Su_cg (rs 126 (by decide)) (rs 128 (by decide)) 512
  have su0 := Su_nn (a := hRs aa (w + 1).toInt) (fun n hn => by have := (hv.1.1 n hn).2.1.1; omega) 512 (by omega)
  obtain ⟨g1, g2, ⟨g3, g4, g5⟩, g6, ⟨g7, g8⟩, g9, g10⟩ := hv
  have H : qHv (aAd (hFt aa (w + 1) pl) y (zFn y kk (w + 1) pl) L) := by
    refine ⟨I2, (e7 2).trans b2, ⟨?_, ?_, ?_⟩, ?_, ⟨?_, ?_⟩, fun n hn => ?_, fun n hn => ?_⟩
    · rw [e7, e7, r0, r5]
      exact g3
    · rw [e7, r5]
      exact g4
    · rw [e7, r5]
      exact g5
    · rw [e7, e7, r3, r5]
      exact g6
    · rw [e7, e7, r3, r4, su, sue, q.2.2.2.2.2.2]
      omega
    · rw [e7, e7, e7, r3, r4, r5, q.2.2.2.2.2.2]
      omega
    · rw [e7, e7, r3, r4, q.2.2.2.2.2.2, ro 130 (by decide), ro 128 (by decide)]
      rcases (al n).mp hn with z | z
      · have o := ne_al h z
        rw [A.2.1 130 n (by decide) (by decide) o, A.2.1 128 n (by decide) (by decide) o, rs 130 (by decide), rs 128 (by decide)]
        unfold xAl at z
        rw [rs 126 (by decide)] at z
        have := g9 n z
        omega
      · have e1 := q.2.2.2.2.2.1
        rw [z, A.1.2.2.1, A.1.2.1]
        omega
    · rw [ro 133 (by decide)]
      rcases (al n).mp hn with z | z
      · have o := ne_al h z
        rw [A.2.1 133 n (by decide) (by decide) o, rs 133 (by decide)]
        unfold xAl at z
        rw [rs 126 (by decide)] at z
        exact g10 n z
      · rw [z, A.1.2.2.2.1]
  have rr : ∀ c, c ≠ 72 → c ≠ 75 → c ≠ 76 → c ≠ 77 → aRt (aAd (hFt aa (w + 1) pl) y (zFn y kk (w + 1) pl) L) rt y c = aAd (hFt aa (w + 1) pl) y (zFn y kk (w + 1) pl) L c := fun c h1 h2 h3 h4 => rt_r h1 h2 h3 h4
  exact Hv_cg H (rr 126 (by decide) (by decide) (by decide) (by decide)) (rr 128 (by decide) (by decide) (by decide) (by decide)) (rr 130 (by decide) (by decide) (by decide) (by decide)) (rr 133 (by decide) (by decide) (by decide) (by decide)) (rr 87 (by decide) (by decide) (by decide) (by decide)) (I_cg I2 (rr 126 (by decide) (by decide) (by decide) (by decide)) (rr 128 (by decide) (by decide) (by decide) (by decide)) (rr 130 (by decide) (by decide) (by decide) (by decide)) (rr 71 (by decide) (by decide) (by decide) (by decide)) (rr 69 (by decide) (by decide) (by decide) (by decide)) (rr 87 (by decide) (by decide) (by decide) (by decide)) (fun n => rr (1000 + n) (by omega) (by omega) (by omega) (by omega)))
theorem RB_nz {us nr kr kd ws at₉ ho wd wi ow rt wk wl : Nat → Int32} {wm nu nu₉ ro fo le ra pi : Int32} {s : Nat} (hN : qNs us nr kr kd ws at₉ ho wd wi ow rt wk wl wm nu ro fo le ra pi b s y kk w pl) (h : qNe b y w pl) (hA : qAd b d y kk w pl L) (hs : s < 3100) (hh : ho s = 0) (hi : wi s = 0) (hz : ∀ j : Nat, (j : Int) < (ws s).toInt → (zrf kr kd wd s j).toInt = -1) (hb : ∀ j : Nat, (j : Int) < w.toInt → (zbit L (Int32.ofNat j) ≠ 0 ↔ qIr kr kd s j)) (e1 : nu₉ = nu + 1) : qRB us nr kr kd ws at₉ ho wd wi ow rt wk wl wm nu₉ ro fo (pl + (w + 1)) ra pi d := RB_ns hN h hA hs hh hi hz hb e1 rfl
end F11
set_option maxHeartbeats 8000000 in
theorem sp_184rv {X : Nat × (Nat → Int32)} {P : Option ma_V → (Nat → Nat → Int32) → Prop} {T : Nat} {aa : Nat→Nat→Int32} {ro : Int32} {m : Nat → Nat → Int32} (nz : Int32) (hV : zV m) (hpre0 : 1 ≤ nz.toInt) (hpre1 : nz.toInt ≤ 61) (hpre2 : T ≤ 512) (r_W : zW (m 94 7) (m 98) (m 101) (m 102) (m 108)) (r_GW : zGW T (m 94 55) (m 109)) (r_GU : zGU T (m 94 46) (m 99)) (r_OW : zOw (m 99) (m 103) (m 111)) (r_GG : zGG (m 94 58) (m 94 56) (m 94 57) (m 106)) (hpre8 : (m 94 10).toInt = 2 ∧ (m 94 58).toInt = 0) (r_RB : qRB (m 99) (m 100) (m 98) (m 101) (m 102) (m 103) (m 107) (m 108) (m 109) (m 111) (m 112) (m 113) (m 114) (m 94 55) (m 94 46) ro 0 0 0 1 aa) (r_HV : qHv aa) (r_HL : qHL aa (m 94 11) (m 94 61) (m 94 59)) (r_MG : qMG (m 94 58) (m 106) (m 115) (m 94 57) (m 94 56) (m 99) (m 100) aa) (r_MK : aa 87 8 = (m 94 58)) (r_WTS : (m 94 45).toInt = sm (zbU (m 99)) (m 102) 3100) (KZ : ∀ v m₉, zV (zov wr_184 m m₉) → (zGW T (m₉ 94 55) (m₉ 109)) → (zGU T (m 94 46) (m₉ 99)) → (zOw (m₉ 99) (m₉ 103) (m₉ 111)) → (zGG (m₉ 94 58) (m₉ 94 56) (m₉ 94 57) (m₉ 106)) → (-1 ≤ v.toInt ∧ v.toInt ≤ 3000) → (qRB (m₉ 99) (m 100) (m 98) (m 101) (m 102) (m₉ 103) (m 107) (m 108) (m₉ 109) (m₉ 111) (m 112) (m₉ 113) (m₉ 114) (m₉ 94 55) (m 94 46) ro 0 0 0 1 (hFt aa nz v)) → (qI (hFt aa nz v)) → (qHL (hFt aa nz v) (m 94 11) (m₉ 94 61) (m₉ 94 59)) → (qMG (m₉ 94 58) (m₉ 106) (m₉ 115) (m₉ 94 57) (m₉ 94 56) (m₉ 99) (m 100) (hFt aa nz v)) → ((hFt aa nz v) 87 8 = (m₉ 94 58)) → ((m₉ 94 45).toInt = sm (zbU (m₉ 99)) (m 102) 3100) → (qEq v.toInt (hRp aa nz.toInt)) → (qHv (hRs aa nz.toInt)) → ((m₉ 94 58).toInt = 0) → P (some (.inl v)) (zov wr_184 m m₉)) : zm X 8 175 184 0 [(0, .inr (.inr (some 94))), (1, .inl nz)] m P := by
  have K : ∀ v m₉, zF wr_184 m m₉ → zV m₉ → (zGW T (m₉ 94 55) (m₉ 109)) → (zGU T (m₉ 94 46) (m₉ 99)) → (zOw (m₉ 99) (m₉ 103) (m₉ 111)) → (zGG (m₉ 94 58) (m₉ 94 56) (m₉ 94 57) (m₉ 106)) → (-1 ≤ v.toInt ∧ v.toInt ≤ 3000) → (qRB (m₉ 99) (m₉ 100) (m₉ 98) (m₉ 101) (m₉ 102) (m₉ 103) (m₉ 107) (m₉ 108) (m₉ 109) (m₉ 111) (m₉ 112) (m₉ 113) (m₉ 114) (m₉ 94 55) (m₉ 94 46) ro 0 0 0 1 (hFt aa nz v)) → (qI (hFt aa nz v)) → (qHL (hFt aa nz v) (m₉ 94 11) (m₉ 94 61) (m₉ 94 59)) → (qMG (m₉ 94 58) (m₉ 106) (m₉ 115) (m₉ 94 57) (m₉ 94 56) (m₉ 99) (m₉ 100) (hFt aa nz v)) → ((hFt aa nz v) 87 8 = (m₉ 94 58)) → ((m₉ 94 45).toInt = sm (zbU (m₉ 99)) (m₉ 102) 3100) → (qEq v.toInt (hRp aa nz.toInt)) → (qHv (hRs aa nz.toInt)) → ((m₉ 94 58).toInt = 0) → P (some (.inl v)) m₉ := by
    intro v m₉ hf z q0 q1 q2 q3 q4 q5 q6 q7 q8 q9 q10 q11 q12 q13
    have e := zov_eq hf
    rw [e] at z ⊢
    try rw [e] at q0
    try rw [e] at q1
    try rw [e] at q2
    try rw [e] at q3
    skip
    try rw [e] at q5
    skip
    try rw [e] at q7
    try rw [e] at q8
    try rw [e] at q9
    try rw [e] at q10
    skip
    skip
    try rw [e] at q13
    exact KZ v m₉ z q0 q1 q2 q3 q4 q5 q6 q7 q8 q9 q10 q11 q12 q13
  refine g_184_0 nz ?_
  have f1 : 0 ≤ (m 94 10).toInt ∧ (m 94 10).toInt ≤ 6 := rs_94_10 (m := m) hV
  have f2 : 0 ≤ (m 94 58).toInt ∧ (m 94 58).toInt ≤ 1 := rs_94_58 (m := m) hV
  have li3 : (1 : Int32).toInt = 1 := rfl
  refine zd (fun (h4 : (m 94 10) = (1 : Int32)) => ?_) (fun (h4 : ¬ (m 94 10) = (1 : Int32)) => ?_)
  · skip
    have g5 := i_eq h4
    exfalso; omega
  · skip
    have g6 := i_ne h4
    have li7 : (2 : Int32).toInt = 2 := rfl
    refine zd (fun (h8 : (m 94 10) = (2 : Int32)) => ?_) (fun (h8 : ¬ (m 94 10) = (2 : Int32)) => ?_)
    · skip
      have g9 := i_eq h8
      have f10 : 0 ≤ (m 94 59).toInt ∧ (m 94 59).toInt ≤ 4600 := rs_94_59 (m := m) hV
      have b11 := i_bd nz
      first | have e12 : ((m 94 59) + nz).toInt = (m 94 59).toInt + nz.toInt := i_add (by omega) (by omega) | have b13 := i_bd ((m 94 59) + nz)
      have f14 : 0 ≤ (m 94 61).toInt ∧ (m 94 61).toInt ≤ 1 := rs_94_61 (m := m) hV
      first | have e15 : ((m 94 61) + (1 : Int32)).toInt = (m 94 61).toInt + (1) := i_addk rfl (by omega) (by omega) | have b16 := i_bd ((m 94 61) + (1 : Int32))
      have f17 : 0 ≤ (m 94 11).toInt ∧ (m 94 11).toInt ≤ 1500 := rs_94_11 (m := m) hV
      first | have f18 := i_mul01 (x := ((m 94 61) + (1 : Int32))) (y := (m 94 11)) (by omega) (by omega) (by omega) (by omega) | have b19 := i_bd (((m 94 61) + (1 : Int32)) * (m 94 11))
      refine zd (fun (h20 : ((m 94 59) + nz) ≤ (((m 94 61) + (1 : Int32)) * (m 94 11))) => ?_) (fun (h20 : ¬ ((m 94 59) + nz) ≤ (((m 94 61) + (1 : Int32)) * (m 94 11))) => ?_)
      · skip
        have g21 := i_le h20
        have li22 : (0 : Int32).toInt = 0 := rfl
        refine zd (fun (h23 : (m 94 59) < (0 : Int32)) => ?_) (fun (h23 : ¬ (m 94 59) < (0 : Int32)) => ?_)
        · skip
          have g24 := i_lt h23
          have hV25 : zV (ma_u m 94 59 ((m 94 59) + nz)) := us_94_59 hV (by omega) (by omega)
          try have hl2 := r_HL.2.1
          try have hv4 := r_HV.2.2.2.2.1
          try have hv3 := r_HV.2.2.2.1
          try have hv5 := r_HV.2.2.1
          refine sp_206rv (aa := aa)  hV25 (by omega) r_W r_GW r_GU r_OW (show (m 94 10).toInt = 2 from by omega) r_RB r_HV (show qHL aa (m 94 11) (m 94 61) ((m 94 59) + nz) from by first | (exfalso; omega; done) | (exact r_HL) | (exact r_HL) | (exfalso; contradiction; done)) r_WTS (fun v6 m5 hV_m5 p0_m5 p1_m5 p2_m5 p3_m5 p4_m5 p5_m5 p6_m5 => zmi_n ?_)
          have p0_m5 : zGW T (m5 94 55) (m5 109) := p0_m5
          have p1_m5 : zGU T (m 94 46) (m5 99) := p1_m5
          have p2_m5 : zOw (m5 99) (m5 103) (m5 111) := p2_m5
          have p3_m5 : qRB (m5 99) (m 100) (m 98) (m 101) (m 102) (m5 103) (m 107) (m 108) (m5 109) (m5 111) (m 112) (m5 113) (m5 114) (m5 94 55) (m 94 46) ro 0 0 0 1 (hCl aa) := p3_m5
          have p4_m5 : qHv (hCl aa) := p4_m5
          have p5_m5 : qHL (hCl aa) (m 94 11) (m5 94 61) (m5 94 59) := p5_m5
          have p6_m5 : (m5 94 45).toInt = sm (zbU (m5 99)) (m 102) 3100 := p6_m5
          have f26 : 0 ≤ (m5 94 59).toInt ∧ (m5 94 59).toInt ≤ 4600 := rs_94_59 (m := (zov wr_206 (ma_u m 94 59 ((m 94 59) + nz)) m5)) hV_m5
          first | have e27 : ((m5 94 59) + nz).toInt = (m5 94 59).toInt + nz.toInt := i_add (by omega) (by omega) | have b28 := i_bd ((m5 94 59) + nz)
          have f29 : 0 ≤ (m5 94 61).toInt ∧ (m5 94 61).toInt ≤ 1 := rs_94_61 (m := (zov wr_206 (ma_u m 94 59 ((m 94 59) + nz)) m5)) hV_m5
          first | have e30 : ((m5 94 61) + (1 : Int32)).toInt = (m5 94 61).toInt + (1) := i_addk rfl (by omega) (by omega) | have b31 := i_bd ((m5 94 61) + (1 : Int32))
          first | have f32 := i_mul01 (x := ((m5 94 61) + (1 : Int32))) (y := (m 94 11)) (by omega) (by omega) (by omega) (by omega) | have b33 := i_bd (((m5 94 61) + (1 : Int32)) * (m 94 11))
          refine zd (fun (h34 : ((m5 94 59) + nz) ≤ (((m5 94 61) + (1 : Int32)) * (m 94 11))) => ?_) (fun (h34 : ¬ ((m5 94 59) + nz) ≤ (((m5 94 61) + (1 : Int32)) * (m 94 11))) => ?_)
          · skip
            have g35 := i_le h34
            try have hl2 := p5_m5.2.1
            have hV36 : zV (ma_u (zov wr_206 (ma_u m 94 59 ((m 94 59) + nz)) m5) 94 59 ((m5 94 59) + nz)) := us_94_59 hV_m5 (by omega) (by omega)
            exact K ((m5 94 59)) _ (zF_u (zF_zov (zF_u zF_rfl rfl) ws_206_184) rfl) hV36 p0_m5 p1_m5 p2_m5 r_GG (show -1 ≤ (m5 94 59).toInt ∧ (m5 94 59).toInt ≤ 3000 from by omega) (show qRB (m5 99) (m 100) (m 98) (m 101) (m 102) (m5 103) (m 107) (m 108) (m5 109) (m5 111) (m 112) (m5 113) (m5 114) (m5 94 55) (m 94 46) ro 0 0 0 1 (hFt aa nz (m5 94 59)) from by first | (have hl := r_HL; have h1 := congrArg Int32.toInt hl.1; have h2 := hl.2.1; have h3 := hl.2.2.1; have h4 := hl.2.2.2.1; have h5 := congrArg Int32.toInt hl.2.2.2.2; have E := hRs_2 (a := aa) (z := nz.toInt) (by unfold hOk; omega); have kl := p5_m5; have k1 := congrArg Int32.toInt kl.1; have k2 := kl.2.1; have k3 := kl.2.2.1; have k4 := kl.2.2.2.1; have k5 := congrArg Int32.toInt kl.2.2.2.2; have RP : qEq (m5 94 59).toInt (hRp aa nz.toInt) := (by unfold qEq; rw [hRp_1 E (by unfold hOk; omega)]; omega); rw [hFt_y (by omega), E]; exact RB_87k p3_m5 (by decide) (by decide) (by decide) (by decide) (by decide); done) | (exfalso; omega; done) | (exfalso; contradiction; done)) (show qI (hFt aa nz (m5 94 59)) from by first | (have hl := r_HL; have h1 := congrArg Int32.toInt hl.1; have h2 := hl.2.1; have h3 := hl.2.2.1; have h4 := hl.2.2.2.1; have h5 := congrArg Int32.toInt hl.2.2.2.2; have E := hRs_2 (a := aa) (z := nz.toInt) (by unfold hOk; omega); have kl := p5_m5; have k1 := congrArg Int32.toInt kl.1; have k2 := kl.2.1; have k3 := kl.2.2.1; have k4 := kl.2.2.2.1; have k5 := congrArg Int32.toInt kl.2.2.2.2; have RP : qEq (m5 94 59).toInt (hRp aa nz.toInt) := (by unfold qEq; rw [hRp_1 E (by unfold hOk; omega)]; omega); exact Hf_I (by rw [E]; exact p4_m5); done) | (exfalso; omega; done) | (exfalso; contradiction; done)) (show qHL (hFt aa nz (m5 94 59)) (m 94 11) (m5 94 61) ((m5 94 59) + nz) from by first | (have hl := r_HL; have h1 := congrArg Int32.toInt hl.1; have h2 := hl.2.1; have h3 := hl.2.2.1; have h4 := hl.2.2.2.1; have h5 := congrArg Int32.toInt hl.2.2.2.2; have E := hRs_2 (a := aa) (z := nz.toInt) (by unfold hOk; omega); have kl := p5_m5; have k1 := congrArg Int32.toInt kl.1; have k2 := kl.2.1; have k3 := kl.2.2.1; have k4 := kl.2.2.2.1; have k5 := congrArg Int32.toInt kl.2.2.2.2; have RP : qEq (m5 94 59).toInt (hRp aa nz.toInt) := (by unfold qEq; rw [hRp_1 E (by unfold hOk; omega)]; omega); exact HL_ft (by rw [E]; exact p5_m5) (by omega); done) | (exact p5_m5) | (exfalso; omega; done) | (exfalso; contradiction; done)) (show qMG (m 94 58) (m 106) (m 115) (m 94 57) (m 94 56) (m5 99) (m 100) (hFt aa nz (m5 94 59)) from by first | (exact fun z => absurd (by omega) z) | (exfalso; omega; done) | (exfalso; contradiction; done)) (show (hFt aa nz (m5 94 59)) 87 8 = (m 94 58) from by first | (rw [Hf_7 (by decide) (by decide)]; exact r_MK; done) | (exfalso; omega; done) | (exfalso; contradiction; done)) p6_m5 (show qEq (m5 94 59).toInt (hRp aa nz.toInt) from by first | (have hl := r_HL; have h1 := congrArg Int32.toInt hl.1; have h2 := hl.2.1; have h3 := hl.2.2.1; have h4 := hl.2.2.2.1; have h5 := congrArg Int32.toInt hl.2.2.2.2; have E := hRs_2 (a := aa) (z := nz.toInt) (by unfold hOk; omega); have kl := p5_m5; have k1 := congrArg Int32.toInt kl.1; have k2 := kl.2.1; have k3 := kl.2.2.1; have k4 := kl.2.2.2.1; have k5 := congrArg Int32.toInt kl.2.2.2.2; have RP : qEq (m5 94 59).toInt (hRp aa nz.toInt) := (by unfold qEq; rw [hRp_1 E (by unfold hOk; omega)]; omega); exact RP; done) | (exfalso; omega; done) | (exfalso; contradiction; done)) (show qHv (hRs aa nz.toInt) from by first | (have hl := r_HL; have h1 := congrArg Int32.toInt hl.1; have h2 := hl.2.1; have h3 := hl.2.2.1; have h4 := hl.2.2.2.1; have h5 := congrArg Int32.toInt hl.2.2.2.2; have E := hRs_2 (a := aa) (z := nz.toInt) (by unfold hOk; omega); have kl := p5_m5; have k1 := congrArg Int32.toInt kl.1; have k2 := kl.2.1; have k3 := kl.2.2.1; have k4 := kl.2.2.2.1; have k5 := congrArg Int32.toInt kl.2.2.2.2; have RP : qEq (m5 94 59).toInt (hRp aa nz.toInt) := (by unfold qEq; rw [hRp_1 E (by unfold hOk; omega)]; omega); rw [E]; exact p4_m5; done) | (exfalso; omega; done) | (exfalso; contradiction; done)) (show (m 94 58).toInt = 0 from by omega)
          · skip
            have g37 := i_nle h34
            try have hl2 := p5_m5.2.1
            have li38 : (-1 : Int32).toInt = -1 := rfl
            exact K ((-1 : Int32)) _ (zF_zov (zF_u zF_rfl rfl) ws_206_184) hV_m5 p0_m5 p1_m5 p2_m5 r_GG (show -1 ≤ (-1 : Int32).toInt ∧ (-1 : Int32).toInt ≤ 3000 from by omega) (show qRB (m5 99) (m 100) (m 98) (m 101) (m 102) (m5 103) (m 107) (m 108) (m5 109) (m5 111) (m 112) (m5 113) (m5 114) (m5 94 55) (m 94 46) ro 0 0 0 1 (hFt aa nz (-1 : Int32)) from by first | (have hl := r_HL; have h1 := congrArg Int32.toInt hl.1; have h2 := hl.2.1; have h3 := hl.2.2.1; have h4 := hl.2.2.2.1; have h5 := congrArg Int32.toInt hl.2.2.2.2; have E := hRs_2 (a := aa) (z := nz.toInt) (by unfold hOk; omega); have kl := p5_m5; have k1 := congrArg Int32.toInt kl.1; have k2 := kl.2.1; have k3 := kl.2.2.1; have k4 := kl.2.2.2.1; have k5 := congrArg Int32.toInt kl.2.2.2.2; have RP : qEq (-1 : Int32).toInt (hRp aa nz.toInt) := (by unfold qEq; rw [hRp_2 E (by unfold hOk; omega)]; rfl); rw [hFt_n (by decide), E]; exact p3_m5; done) | (exfalso; omega; done) | (exfalso; contradiction; done)) (show qI (hFt aa nz (-1 : Int32)) from by first | (have hl := r_HL; have h1 := congrArg Int32.toInt hl.1; have h2 := hl.2.1; have h3 := hl.2.2.1; have h4 := hl.2.2.2.1; have h5 := congrArg Int32.toInt hl.2.2.2.2; have E := hRs_2 (a := aa) (z := nz.toInt) (by unfold hOk; omega); have kl := p5_m5; have k1 := congrArg Int32.toInt kl.1; have k2 := kl.2.1; have k3 := kl.2.2.1; have k4 := kl.2.2.2.1; have k5 := congrArg Int32.toInt kl.2.2.2.2; have RP : qEq (-1 : Int32).toInt (hRp aa nz.toInt) := (by unfold qEq; rw [hRp_2 E (by unfold hOk; omega)]; rfl); exact Hf_I (by rw [E]; exact p4_m5); done) | (exfalso; omega; done) | (exfalso; contradiction; done)) (show qHL (hFt aa nz (-1 : Int32)) (m 94 11) (m5 94 61) (m5 94 59) from by first | (have hl := r_HL; have h1 := congrArg Int32.toInt hl.1; have h2 := hl.2.1; have h3 := hl.2.2.1; have h4 := hl.2.2.2.1; have h5 := congrArg Int32.toInt hl.2.2.2.2; have E := hRs_2 (a := aa) (z := nz.toInt) (by unfold hOk; omega); have kl := p5_m5; have k1 := congrArg Int32.toInt kl.1; have k2 := kl.2.1; have k3 := kl.2.2.1; have k4 := kl.2.2.2.1; have k5 := congrArg Int32.toInt kl.2.2.2.2; have RP : qEq (-1 : Int32).toInt (hRp aa nz.toInt) := (by unfold qEq; rw [hRp_2 E (by unfold hOk; omega)]; rfl); rw [hFt_n (by decide), E]; exact p5_m5; done) | (exact p5_m5) | (exfalso; omega; done) | (exfalso; contradiction; done)) (show qMG (m 94 58) (m 106) (m 115) (m 94 57) (m 94 56) (m5 99) (m 100) (hFt aa nz (-1 : Int32)) from by first | (exact fun z => absurd (by omega) z) | (exfalso; omega; done) | (exfalso; contradiction; done)) (show (hFt aa nz (-1 : Int32)) 87 8 = (m 94 58) from by first | (rw [Hf_7 (by decide) (by decide)]; exact r_MK; done) | (exfalso; omega; done) | (exfalso; contradiction; done)) p6_m5 (show qEq (-1 : Int32).toInt (hRp aa nz.toInt) from by first | (have hl := r_HL; have h1 := congrArg Int32.toInt hl.1; have h2 := hl.2.1; have h3 := hl.2.2.1; have h4 := hl.2.2.2.1; have h5 := congrArg Int32.toInt hl.2.2.2.2; have E := hRs_2 (a := aa) (z := nz.toInt) (by unfold hOk; omega); have kl := p5_m5; have k1 := congrArg Int32.toInt kl.1; have k2 := kl.2.1; have k3 := kl.2.2.1; have k4 := kl.2.2.2.1; have k5 := congrArg Int32.toInt kl.2.2.2.2; have RP : qEq (-1 : Int32).toInt (hRp aa nz.toInt) := (by unfold qEq; rw [hRp_2 E (by unfold hOk; omega)]; rfl); exact RP; done) | (exfalso; omega; done) | (exfalso; contradiction; done)) (show qHv (hRs aa nz.toInt) from by first | (have hl := r_HL; have h1 := congrArg Int32.toInt hl.1; have h2 := hl.2.1; have h3 := hl.2.2.1; have h4 := hl.2.2.2.1; have h5 := congrArg Int32.toInt hl.2.2.2.2; have E := hRs_2 (a := aa) (z := nz.toInt) (by unfold hOk; omega); have kl := p5_m5; have k1 := congrArg Int32.toInt kl.1; have k2 := kl.2.1; have k3 := kl.2.2.1; have k4 := kl.2.2.2.1; have k5 := congrArg Int32.toInt kl.2.2.2.2; have RP : qEq (-1 : Int32).toInt (hRp aa nz.toInt) := (by unfold qEq; rw [hRp_2 E (by unfold hOk; omega)]; rfl); rw [E]; exact p4_m5; done) | (exfalso; omega; done) | (exfalso; contradiction; done)) (show (m 94 58).toInt = 0 from by omega)
        · skip
          have g39 := i_nlt h23
          try have hl2 := r_HL.2.1
          have hV40 : zV (ma_u m 94 59 ((m 94 59) + nz)) := us_94_59 hV (by omega) (by omega)
          exact K ((m 94 59)) _ (zF_u zF_rfl rfl) hV40 r_GW r_GU r_OW r_GG (show -1 ≤ (m 94 59).toInt ∧ (m 94 59).toInt ≤ 3000 from by omega) (show qRB (m 99) (m 100) (m 98) (m 101) (m 102) (m 103) (m 107) (m 108) (m 109) (m 111) (m 112) (m 113) (m 114) (m 94 55) (m 94 46) ro 0 0 0 1 (hFt aa nz (m 94 59)) from by first | (have hl := r_HL; have h1 := congrArg Int32.toInt hl.1; have h2 := hl.2.1; have h3 := hl.2.2.1; have h4 := hl.2.2.2.1; have h5 := congrArg Int32.toInt hl.2.2.2.2; have E := hRs_1 (a := aa) (z := nz.toInt) (by unfold hOk; omega); have RP : qEq (m 94 59).toInt (hRp aa nz.toInt) := (by unfold qEq; rw [hRp_1 E (by unfold hOk; omega)]; omega); rw [hFt_y (by omega), E]; exact RB_87k r_RB (by decide) (by decide) (by decide) (by decide) (by decide); done) | (exfalso; omega; done) | (exfalso; contradiction; done)) (show qI (hFt aa nz (m 94 59)) from by first | (have hl := r_HL; have h1 := congrArg Int32.toInt hl.1; have h2 := hl.2.1; have h3 := hl.2.2.1; have h4 := hl.2.2.2.1; have h5 := congrArg Int32.toInt hl.2.2.2.2; have E := hRs_1 (a := aa) (z := nz.toInt) (by unfold hOk; omega); have RP : qEq (m 94 59).toInt (hRp aa nz.toInt) := (by unfold qEq; rw [hRp_1 E (by unfold hOk; omega)]; omega); exact Hf_I (by rw [E]; exact r_HV); done) | (exfalso; omega; done) | (exfalso; contradiction; done)) (show qHL (hFt aa nz (m 94 59)) (m 94 11) (m 94 61) ((m 94 59) + nz) from by first | (have hl := r_HL; have h1 := congrArg Int32.toInt hl.1; have h2 := hl.2.1; have h3 := hl.2.2.1; have h4 := hl.2.2.2.1; have h5 := congrArg Int32.toInt hl.2.2.2.2; have E := hRs_1 (a := aa) (z := nz.toInt) (by unfold hOk; omega); have RP : qEq (m 94 59).toInt (hRp aa nz.toInt) := (by unfold qEq; rw [hRp_1 E (by unfold hOk; omega)]; omega); exact HL_ft (by rw [E]; exact r_HL) (by omega); done) | (exact r_HL) | (exfalso; omega; done) | (exfalso; contradiction; done)) (show qMG (m 94 58) (m 106) (m 115) (m 94 57) (m 94 56) (m 99) (m 100) (hFt aa nz (m 94 59)) from by first | (exact fun z => absurd (by omega) z) | (exfalso; omega; done) | (exfalso; contradiction; done)) (show (hFt aa nz (m 94 59)) 87 8 = (m 94 58) from by first | (rw [Hf_7 (by decide) (by decide)]; exact r_MK; done) | (exfalso; omega; done) | (exfalso; contradiction; done)) r_WTS (show qEq (m 94 59).toInt (hRp aa nz.toInt) from by first | (have hl := r_HL; have h1 := congrArg Int32.toInt hl.1; have h2 := hl.2.1; have h3 := hl.2.2.1; have h4 := hl.2.2.2.1; have h5 := congrArg Int32.toInt hl.2.2.2.2; have E := hRs_1 (a := aa) (z := nz.toInt) (by unfold hOk; omega); have RP : qEq (m 94 59).toInt (hRp aa nz.toInt) := (by unfold qEq; rw [hRp_1 E (by unfold hOk; omega)]; omega); exact RP; done) | (exfalso; omega; done) | (exfalso; contradiction; done)) (show qHv (hRs aa nz.toInt) from by first | (have hl := r_HL; have h1 := congrArg Int32.toInt hl.1; have h2 := hl.2.1; have h3 := hl.2.2.1; have h4 := hl.2.2.2.1; have h5 := congrArg Int32.toInt hl.2.2.2.2; have E := hRs_1 (a := aa) (z := nz.toInt) (by unfold hOk; omega); have RP : qEq (m 94 59).toInt (hRp aa nz.toInt) := (by unfold qEq; rw [hRp_1 E (by unfold hOk; omega)]; omega); rw [E]; exact r_HV; done) | (exfalso; omega; done) | (exfalso; contradiction; done)) (show (m 94 58).toInt = 0 from by omega)
      · skip
        have g41 := i_nle h20
        try have hl2 := r_HL.2.1
        try have hv4 := r_HV.2.2.2.2.1
        try have hv3 := r_HV.2.2.2.1
        try have hv5 := r_HV.2.2.1
        refine sp_206rv (aa := aa)  hV (by omega) r_W r_GW r_GU r_OW (show (m 94 10).toInt = 2 from by omega) r_RB r_HV r_HL r_WTS (fun v8 m7 hV_m7 p0_m7 p1_m7 p2_m7 p3_m7 p4_m7 p5_m7 p6_m7 => zmi_n ?_)
        have p0_m7 : zGW T (m7 94 55) (m7 109) := p0_m7
        have p1_m7 : zGU T (m 94 46) (m7 99) := p1_m7
        have p2_m7 : zOw (m7 99) (m7 103) (m7 111) := p2_m7
        have p3_m7 : qRB (m7 99) (m 100) (m 98) (m 101) (m 102) (m7 103) (m 107) (m 108) (m7 109) (m7 111) (m 112) (m7 113) (m7 114) (m7 94 55) (m 94 46) ro 0 0 0 1 (hCl aa) := p3_m7
        have p4_m7 : qHv (hCl aa) := p4_m7
        have p5_m7 : qHL (hCl aa) (m 94 11) (m7 94 61) (m7 94 59) := p5_m7
        have p6_m7 : (m7 94 45).toInt = sm (zbU (m7 99)) (m 102) 3100 := p6_m7
        have f42 : 0 ≤ (m7 94 59).toInt ∧ (m7 94 59).toInt ≤ 4600 := rs_94_59 (m := (zov wr_206 m m7)) hV_m7
        first | have e43 : ((m7 94 59) + nz).toInt = (m7 94 59).toInt + nz.toInt := i_add (by omega) (by omega) | have b44 := i_bd ((m7 94 59) + nz)
        have f45 : 0 ≤ (m7 94 61).toInt ∧ (m7 94 61).toInt ≤ 1 := rs_94_61 (m := (zov wr_206 m m7)) hV_m7
        first | have e46 : ((m7 94 61) + (1 : Int32)).toInt = (m7 94 61).toInt + (1) := i_addk rfl (by omega) (by omega) | have b47 := i_bd ((m7 94 61) + (1 : Int32))
        first | have f48 := i_mul01 (x := ((m7 94 61) + (1 : Int32))) (y := (m 94 11)) (by omega) (by omega) (by omega) (by omega) | have b49 := i_bd (((m7 94 61) + (1 : Int32)) * (m 94 11))
        refine zd (fun (h50 : ((m7 94 59) + nz) ≤ (((m7 94 61) + (1 : Int32)) * (m 94 11))) => ?_) (fun (h50 : ¬ ((m7 94 59) + nz) ≤ (((m7 94 61) + (1 : Int32)) * (m 94 11))) => ?_)
        · skip
          have g51 := i_le h50
          try have hl2 := p5_m7.2.1
          have hV52 : zV (ma_u (zov wr_206 m m7) 94 59 ((m7 94 59) + nz)) := us_94_59 hV_m7 (by omega) (by omega)
          exact K ((m7 94 59)) _ (zF_u (zF_zov zF_rfl ws_206_184) rfl) hV52 p0_m7 p1_m7 p2_m7 r_GG (show -1 ≤ (m7 94 59).toInt ∧ (m7 94 59).toInt ≤ 3000 from by omega) (show qRB (m7 99) (m 100) (m 98) (m 101) (m 102) (m7 103) (m 107) (m 108) (m7 109) (m7 111) (m 112) (m7 113) (m7 114) (m7 94 55) (m 94 46) ro 0 0 0 1 (hFt aa nz (m7 94 59)) from by first | (have hl := r_HL; have h1 := congrArg Int32.toInt hl.1; have h2 := hl.2.1; have h3 := hl.2.2.1; have h4 := hl.2.2.2.1; have h5 := congrArg Int32.toInt hl.2.2.2.2; have E := hRs_2 (a := aa) (z := nz.toInt) (by unfold hOk; omega); have kl := p5_m7; have k1 := congrArg Int32.toInt kl.1; have k2 := kl.2.1; have k3 := kl.2.2.1; have k4 := kl.2.2.2.1; have k5 := congrArg Int32.toInt kl.2.2.2.2; have RP : qEq (m7 94 59).toInt (hRp aa nz.toInt) := (by unfold qEq; rw [hRp_1 E (by unfold hOk; omega)]; omega); rw [hFt_y (by omega), E]; exact RB_87k p3_m7 (by decide) (by decide) (by decide) (by decide) (by decide); done) | (exfalso; omega; done) | (exfalso; contradiction; done)) (show qI (hFt aa nz (m7 94 59)) from by first | (have hl := r_HL; have h1 := congrArg Int32.toInt hl.1; have h2 := hl.2.1; have h3 := hl.2.2.1; have h4 := hl.2.2.2.1; have h5 := congrArg Int32.toInt hl.2.2.2.2; have E := hRs_2 (a := aa) (z := nz.toInt) (by unfold hOk; omega); have kl := p5_m7; have k1 := congrArg Int32.toInt kl.1; have k2 := kl.2.1; have k3 := kl.2.2.1; have k4 := kl.2.2.2.1; have k5 := congrArg Int32.toInt kl.2.2.2.2; have RP : qEq (m7 94 59).toInt (hRp aa nz.toInt) := (by unfold qEq; rw [hRp_1 E (by unfold hOk; omega)]; omega); exact Hf_I (by rw [E]; exact p4_m7); done) | (exfalso; omega; done) | (exfalso; contradiction; done)) (show qHL (hFt aa nz (m7 94 59)) (m 94 11) (m7 94 61) ((m7 94 59) + nz) from by first | (have hl := r_HL; have h1 := congrArg Int32.toInt hl.1; have h2 := hl.2.1; have h3 := hl.2.2.1; have h4 := hl.2.2.2.1; have h5 := congrArg Int32.toInt hl.2.2.2.2; have E := hRs_2 (a := aa) (z := nz.toInt) (by unfold hOk; omega); have kl := p5_m7; have k1 := congrArg Int32.toInt kl.1; have k2 := kl.2.1; have k3 := kl.2.2.1; have k4 := kl.2.2.2.1; have k5 := congrArg Int32.toInt kl.2.2.2.2; have RP : qEq (m7 94 59).toInt (hRp aa nz.toInt) := (by unfold qEq; rw [hRp_1 E (by unfold hOk; omega)]; omega); exact HL_ft (by rw [E]; exact p5_m7) (by omega); done) | (exact p5_m7) | (exfalso; omega; done) | (exfalso; contradiction; done)) (show qMG (m 94 58) (m 106) (m 115) (m 94 57) (m 94 56) (m7 99) (m 100) (hFt aa nz (m7 94 59)) from by first | (exact fun z => absurd (by omega) z) | (exfalso; omega; done) | (exfalso; contradiction; done)) (show (hFt aa nz (m7 94 59)) 87 8 = (m 94 58) from by first | (rw [Hf_7 (by decide) (by decide)]; exact r_MK; done) | (exfalso; omega; done) | (exfalso; contradiction; done)) p6_m7 (show qEq (m7 94 59).toInt (hRp aa nz.toInt) from by first | (have hl := r_HL; have h1 := congrArg Int32.toInt hl.1; have h2 := hl.2.1; have h3 := hl.2.2.1; have h4 := hl.2.2.2.1; have h5 := congrArg Int32.toInt hl.2.2.2.2; have E := hRs_2 (a := aa) (z := nz.toInt) (by unfold hOk; omega); have kl := p5_m7; have k1 := congrArg Int32.toInt kl.1; have k2 := kl.2.1; have k3 := kl.2.2.1; have k4 := kl.2.2.2.1; have k5 := congrArg Int32.toInt kl.2.2.2.2; have RP : qEq (m7 94 59).toInt (hRp aa nz.toInt) := (by unfold qEq; rw [hRp_1 E (by unfold hOk; omega)]; omega); exact RP; done) | (exfalso; omega; done) | (exfalso; contradiction; done)) (show qHv (hRs aa nz.toInt) from by first | (have hl := r_HL; have h1 := congrArg Int32.toInt hl.1; have h2 := hl.2.1; have h3 := hl.2.2.1; have h4 := hl.2.2.2.1; have h5 := congrArg Int32.toInt hl.2.2.2.2; have E := hRs_2 (a := aa) (z := nz.toInt) (by unfold hOk; omega); have kl := p5_m7; have k1 := congrArg Int32.toInt kl.1; have k2 := kl.2.1; have k3 := kl.2.2.1; have k4 := kl.2.2.2.1; have k5 := congrArg Int32.toInt kl.2.2.2.2; have RP : qEq (m7 94 59).toInt (hRp aa nz.toInt) := (by unfold qEq; rw [hRp_1 E (by unfold hOk; omega)]; omega); rw [E]; exact p4_m7; done) | (exfalso; omega; done) | (exfalso; contradiction; done)) (show (m 94 58).toInt = 0 from by omega)
        · skip
          have g53 := i_nle h50
          try have hl2 := p5_m7.2.1
          have li54 : (-1 : Int32).toInt = -1 := rfl
          exact K ((-1 : Int32)) _ (zF_zov zF_rfl ws_206_184) hV_m7 p0_m7 p1_m7 p2_m7 r_GG (show -1 ≤ (-1 : Int32).toInt ∧ (-1 : Int32).toInt ≤ 3000 from by omega) (show qRB (m7 99) (m 100) (m 98) (m 101) (m 102) (m7 103) (m 107) (m 108) (m7 109) (m7 111) (m 112) (m7 113) (m7 114) (m7 94 55) (m 94 46) ro 0 0 0 1 (hFt aa nz (-1 : Int32)) from by first | (have hl := r_HL; have h1 := congrArg Int32.toInt hl.1; have h2 := hl.2.1; have h3 := hl.2.2.1; have h4 := hl.2.2.2.1; have h5 := congrArg Int32.toInt hl.2.2.2.2; have E := hRs_2 (a := aa) (z := nz.toInt) (by unfold hOk; omega); have kl := p5_m7; have k1 := congrArg Int32.toInt kl.1; have k2 := kl.2.1; have k3 := kl.2.2.1; have k4 := kl.2.2.2.1; have k5 := congrArg Int32.toInt kl.2.2.2.2; have RP : qEq (-1 : Int32).toInt (hRp aa nz.toInt) := (by unfold qEq; rw [hRp_2 E (by unfold hOk; omega)]; rfl); rw [hFt_n (by decide), E]; exact p3_m7; done) | (exfalso; omega; done) | (exfalso; contradiction; done)) (show qI (hFt aa nz (-1 : Int32)) from by first | (have hl := r_HL; have h1 := congrArg Int32.toInt hl.1; have h2 := hl.2.1; have h3 := hl.2.2.1; have h4 := hl.2.2.2.1; have h5 := congrArg Int32.toInt hl.2.2.2.2; have E := hRs_2 (a := aa) (z := nz.toInt) (by unfold hOk; omega); have kl := p5_m7; have k1 := congrArg Int32.toInt kl.1; have k2 := kl.2.1; have k3 := kl.2.2.1; have k4 := kl.2.2.2.1; have k5 := congrArg Int32.toInt kl.2.2.2.2; have RP : qEq (-1 : Int32).toInt (hRp aa nz.toInt) := (by unfold qEq; rw [hRp_2 E (by unfold hOk; omega)]; rfl); exact Hf_I (by rw [E]; exact p4_m7); done) | (exfalso; omega; done) | (exfalso; contradiction; done)) (show qHL (hFt aa nz (-1 : Int32)) (m 94 11) (m7 94 61) (m7 94 59) from by first | (have hl := r_HL; have h1 := congrArg Int32.toInt hl.1; have h2 := hl.2.1; have h3 := hl.2.2.1; have h4 := hl.2.2.2.1; have h5 := congrArg Int32.toInt hl.2.2.2.2; have E := hRs_2 (a := aa) (z := nz.toInt) (by unfold hOk; omega); have kl := p5_m7; have k1 := congrArg Int32.toInt kl.1; have k2 := kl.2.1; have k3 := kl.2.2.1; have k4 := kl.2.2.2.1; have k5 := congrArg Int32.toInt kl.2.2.2.2; have RP : qEq (-1 : Int32).toInt (hRp aa nz.toInt) := (by unfold qEq; rw [hRp_2 E (by unfold hOk; omega)]; rfl); rw [hFt_n (by decide), E]; exact p5_m7; done) | (exact p5_m7) | (exfalso; omega; done) | (exfalso; contradiction; done)) (show qMG (m 94 58) (m 106) (m 115) (m 94 57) (m 94 56) (m7 99) (m 100) (hFt aa nz (-1 : Int32)) from by first | (exact fun z => absurd (by omega) z) | (exfalso; omega; done) | (exfalso; contradiction; done)) (show (hFt aa nz (-1 : Int32)) 87 8 = (m 94 58) from by first | (rw [Hf_7 (by decide) (by decide)]; exact r_MK; done) | (exfalso; omega; done) | (exfalso; contradiction; done)) p6_m7 (show qEq (-1 : Int32).toInt (hRp aa nz.toInt) from by first | (have hl := r_HL; have h1 := congrArg Int32.toInt hl.1; have h2 := hl.2.1; have h3 := hl.2.2.1; have h4 := hl.2.2.2.1; have h5 := congrArg Int32.toInt hl.2.2.2.2; have E := hRs_2 (a := aa) (z := nz.toInt) (by unfold hOk; omega); have kl := p5_m7; have k1 := congrArg Int32.toInt kl.1; have k2 := kl.2.1; have k3 := kl.2.2.1; have k4 := kl.2.2.2.1; have k5 := congrArg Int32.toInt kl.2.2.2.2; have RP : qEq (-1 : Int32).toInt (hRp aa nz.toInt) := (by unfold qEq; rw [hRp_2 E (by unfold hOk; omega)]; rfl); exact RP; done) | (exfalso; omega; done) | (exfalso; contradiction; done)) (show qHv (hRs aa nz.toInt) from by first | (have hl := r_HL; have h1 := congrArg Int32.toInt hl.1; have h2 := hl.2.1; have h3 := hl.2.2.1; have h4 := hl.2.2.2.1; have h5 := congrArg Int32.toInt hl.2.2.2.2; have E := hRs_2 (a := aa) (z := nz.toInt) (by unfold hOk; omega); have kl := p5_m7; have k1 := congrArg Int32.toInt kl.1; have k2 := kl.2.1; have k3 := kl.2.2.1; have k4 := kl.2.2.2.1; have k5 := congrArg Int32.toInt kl.2.2.2.2; have RP : qEq (-1 : Int32).toInt (hRp aa nz.toInt) := (by unfold qEq; rw [hRp_2 E (by unfold hOk; omega)]; rfl); rw [E]; exact p4_m7; done) | (exfalso; omega; done) | (exfalso; contradiction; done)) (show (m 94 58).toInt = 0 from by omega)
    · skip
      have g55 := i_ne h8
      exfalso; omega

/-! from 95.r21 -/
/-! the reference where it moves (written by wip/tools/gen15r.py) -/
set_option maxHeartbeats 8000000 in
theorem sp_256rv {X : Nat × (Nat → Int32)} {P : Option ma_V → (Nat → Nat → Int32) → Prop} {T : Nat} {aa : Nat→Nat→Int32} {ro : Int32} {m : Nat → Nat → Int32}  (hV : zV m) (hpre0 : T ≤ 512) (r_W : zW (m 94 7) (m 98) (m 101) (m 102) (m 108)) (r_GW : zGW T (m 94 55) (m 109)) (r_GU : zGU T (m 94 46) (m 99)) (r_OW : zOw (m 99) (m 103) (m 111)) (r_GG : zGG (m 94 58) (m 94 56) (m 94 57) (m 106)) (hpre6 : (m 94 10).toInt = 2 ∧ (m 94 58).toInt = 0) (hpre7 : (m 94 8).toInt = 1) (r_RB : qRB (m 99) (m 100) (m 98) (m 101) (m 102) (m 103) (m 107) (m 108) (m 109) (m 111) (m 112) (m 113) (m 114) (m 94 55) (m 94 46) ro 0 0 0 1 aa) (r_HV : qHv aa) (r_HL : qHL aa (m 94 11) (m 94 61) (m 94 59)) (r_MG : qMG (m 94 58) (m 106) (m 115) (m 94 57) (m 94 56) (m 99) (m 100) aa) (r_MK : aa 87 8 = (m 94 58)) (r_WTS : (m 94 45).toInt = sm (zbU (m 99)) (m 102) 3100) (KZ : ∀ v m₉, zV (zov wr_256 m m₉) → (zW (m 94 7) (m 98) (m 101) (m 102) (m 108)) → (zGW T (m₉ 94 55) (m₉ 109)) → (zGU T (m 94 46) (m₉ 99)) → (zOw (m₉ 99) (m₉ 103) (m₉ 111)) → (zGG (m₉ 94 58) (m₉ 94 56) (m₉ 94 57) (m₉ 106)) → (qRB (m₉ 99) (m 100) (m 98) (m 101) (m 102) (m₉ 103) (m 107) (m 108) (m₉ 109) (m₉ 111) (m 112) (m₉ 113) (m₉ 114) (m₉ 94 55) (m 94 46) ro 0 0 0 1 (hCl aa)) → (qHv (hCl aa)) → (qHL (hCl aa) (m 94 11) (m₉ 94 61) (m₉ 94 59)) → (qMG (m₉ 94 58) (m₉ 106) (m₉ 115) (m₉ 94 57) (m₉ 94 56) (m₉ 99) (m 100) (hCl aa)) → ((hCl aa) 87 8 = (m₉ 94 58)) → ((m₉ 94 45).toInt = sm (zbU (m₉ 99)) (m 102) 3100) → ((m₉ 94 58).toInt = 0) → P (some (.inl v)) (zov wr_256 m m₉)) : zm X 7 152 256 0 [(0, .inr (.inr (some 94)))] m P := by
  have K : ∀ v m₉, zF wr_256 m m₉ → zV m₉ → (zW (m₉ 94 7) (m₉ 98) (m₉ 101) (m₉ 102) (m₉ 108)) → (zGW T (m₉ 94 55) (m₉ 109)) → (zGU T (m₉ 94 46) (m₉ 99)) → (zOw (m₉ 99) (m₉ 103) (m₉ 111)) → (zGG (m₉ 94 58) (m₉ 94 56) (m₉ 94 57) (m₉ 106)) → (qRB (m₉ 99) (m₉ 100) (m₉ 98) (m₉ 101) (m₉ 102) (m₉ 103) (m₉ 107) (m₉ 108) (m₉ 109) (m₉ 111) (m₉ 112) (m₉ 113) (m₉ 114) (m₉ 94 55) (m₉ 94 46) ro 0 0 0 1 (hCl aa)) → (qHv (hCl aa)) → (qHL (hCl aa) (m₉ 94 11) (m₉ 94 61) (m₉ 94 59)) → (qMG (m₉ 94 58) (m₉ 106) (m₉ 115) (m₉ 94 57) (m₉ 94 56) (m₉ 99) (m₉ 100) (hCl aa)) → ((hCl aa) 87 8 = (m₉ 94 58)) → ((m₉ 94 45).toInt = sm (zbU (m₉ 99)) (m₉ 102) 3100) → ((m₉ 94 58).toInt = 0) → P (some (.inl v)) m₉ := by
    intro v m₉ hf z q0 q1 q2 q3 q4 q5 q6 q7 q8 q9 q10 q11
    have e := zov_eq hf
    rw [e] at z ⊢
    try rw [e] at q0
    try rw [e] at q1
    try rw [e] at q2
    try rw [e] at q3
    try rw [e] at q4
    try rw [e] at q5
    skip
    try rw [e] at q7
    try rw [e] at q8
    try rw [e] at q9
    try rw [e] at q10
    try rw [e] at q11
    exact KZ v m₉ z q0 q1 q2 q3 q4 q5 q6 q7 q8 q9 q10 q11
  refine g_256_0  ?_
  have f1 : 0 ≤ (m 94 10).toInt ∧ (m 94 10).toInt ≤ 6 := rs_94_10 (m := m) hV
  have f2 : 0 ≤ (m 94 58).toInt ∧ (m 94 58).toInt ≤ 1 := rs_94_58 (m := m) hV
  have f3 : 0 ≤ (m 94 8).toInt ∧ (m 94 8).toInt ≤ 1 := rs_94_8 (m := m) hV
  have li4 : (0 : Int32).toInt = 0 := rfl
  refine zd (fun (h5 : (m 94 8) = (0 : Int32)) => ?_) (fun (h5 : ¬ (m 94 8) = (0 : Int32)) => ?_)
  · skip
    have g6 := i_eq h5
    exfalso; omega
  · skip
    have g7 := i_ne h5
    have li8 : (1 : Int32).toInt = 1 := rfl
    refine zd (fun (h9 : (m 94 10) = (1 : Int32)) => ?_) (fun (h9 : ¬ (m 94 10) = (1 : Int32)) => ?_)
    · skip
      have g10 := i_eq h9
      exfalso; omega
    · skip
      have g11 := i_ne h9
      have li12 : (2 : Int32).toInt = 2 := rfl
      refine zd (fun (h13 : (m 94 10) = (2 : Int32)) => ?_) (fun (h13 : ¬ (m 94 10) = (2 : Int32)) => ?_)
      · skip
        have g14 := i_eq h13
        have hV15 : zV (ma_u m 94 0 (0 : Int32)) := uf_94_0 hV
        refine sp_206rv (aa := aa)  hV15 (by omega) r_W r_GW r_GU r_OW (show (m 94 10).toInt = 2 from by omega) r_RB r_HV r_HL r_WTS (fun v4 m3 hV_m3 p0_m3 p1_m3 p2_m3 p3_m3 p4_m3 p5_m3 p6_m3 => zmi_n ?_)
        have p0_m3 : zGW T (m3 94 55) (m3 109) := p0_m3
        have p1_m3 : zGU T (m 94 46) (m3 99) := p1_m3
        have p2_m3 : zOw (m3 99) (m3 103) (m3 111) := p2_m3
        have p3_m3 : qRB (m3 99) (m 100) (m 98) (m 101) (m 102) (m3 103) (m 107) (m 108) (m3 109) (m3 111) (m 112) (m3 113) (m3 114) (m3 94 55) (m 94 46) ro 0 0 0 1 (hCl aa) := p3_m3
        have p4_m3 : qHv (hCl aa) := p4_m3
        have p5_m3 : qHL (hCl aa) (m 94 11) (m3 94 61) (m3 94 59) := p5_m3
        have p6_m3 : (m3 94 45).toInt = sm (zbU (m3 99)) (m 102) 3100 := p6_m3
        have b16 := i_bd v4
        exact K (v4) _ (zF_zov (zF_u zF_rfl rfl) ws_206_256) hV_m3 r_W p0_m3 p1_m3 p2_m3 r_GG p3_m3 p4_m3 p5_m3 (show qMG (m 94 58) (m 106) (m 115) (m 94 57) (m 94 56) (m3 99) (m 100) (hCl aa) from by first | (exact fun z => absurd (by omega) z) | (exfalso; omega; done) | (exfalso; contradiction; done)) (show (hCl aa) 87 8 = (m 94 58) from by first | (rw [cl_7 (by decide) (by decide)]; exact r_MK; done) | (exfalso; omega; done) | (exfalso; contradiction; done)) p6_m3 (show (m 94 58).toInt = 0 from by omega)
      · skip
        have g17 := i_ne h13
        exfalso; omega

