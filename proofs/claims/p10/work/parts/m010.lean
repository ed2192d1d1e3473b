/-! from 95.zu09 -/
/-! the reference: who is used, words (written by wip/tools/gen15u.py) -/
set_option maxHeartbeats 8000000 in
theorem lp_183uw_142 {X : Nat × (Nat → Int32)} {P : Option ma_V → (Nat → Nat → Int32) → Prop} {T : Nat} {kk : Int32} {nn : Int32} {r1 : Int32} {m0 : Nat → Nat → Int32} (h0 : zV m0) (K : ∀ v m₉, zF wr_183 m0 m₉ → zV m₉ → (zW (m₉ 94 7) (m₉ 98) (m₉ 101) (m₉ 102) (m₉ 108)) → (zGW (T + 1) (m₉ 94 55) (m₉ 109)) → (zGU (T + 1) (m₉ 94 46) (m₉ 99)) → (zOw (m₉ 99) (m₉ 103) (m₉ 111)) → (zDX (m₉ 94 10) (m₉ 99) (m₉ 112) (m₉ 113) (m₉ 114) (m₉ 94 55) (m₉ 98) (m₉ 101) (m₉ 102) (m₉ 108)) → (zGG (m₉ 94 58) (m₉ 94 56) (m₉ 94 57) (m₉ 106)) → (zHA (m₉ 94 10) (m₉ 94 11) (m₉ 94 13) (m₉ 94 14) (m₉ 94 16) (m₉ 94 61) (m₉ 94 59) (m₉ 94 60) (m₉ 99) (m₉ 102) (m₉ 103) (m₉ 111) (m₉ 117) (m₉ 98) (m₉ 101) (m₉ 108)) → (zRG (m₉ 94 10) (m₉ 94 18) (m₉ 94 64) (m₉ 94 63) (m₉ 99) (m₉ 103) (m₉ 102) (m₉ 116)) → ((m₉ 94 58).toInt = 0 ∨ (m₉ 94 10).toInt = 5) → (zUf (m0 94 46) (m0 99) (m₉ 99) (m0 100) (m₉ 100) (m0 108) (m₉ 108) (m0 98) (m0 101) (m₉ 98) (m₉ 101) (m₉ 102)) → P (some (.inl v)) m₉) : ∀ (n : Nat) (m : Nat → Nat → Int32) (l2 : Int32) (l3 : Int32) (l4 : Int32) (l5 : Int32) (l6 : Int32), (61 - l6.toInt).toNat = n → zF wr_183 m0 m → zV m → (0 ≤ l2.toInt) → (l2.toInt ≤ 60) → (0 ≤ l3.toInt) → (l3.toInt ≤ 15) → (0 ≤ l4.toInt) → (l4.toInt + l2.toInt ≤ 4599) → (0 ≤ l5.toInt) → (l5.toInt ≤ 3099) → (0 ≤ l6.toInt) → ((m 94 46).toInt ≤ 2999) → ((m 102 l5.toNatClampNeg).toInt = l2.toInt) → ((m 99) l5.toNatClampNeg ≠ 0) → (zWn (m 94 7) (m 98) (m 101) (m 102) (m 108) l5.toNatClampNeg l6.toNatClampNeg) → (zGW (T + 1) (m 94 55) (m 109)) → (zGUp T (m 94 46) (m 99)) → (zOw (m 99) (m 103) (m 111)) → (zDX (m 94 10) (zmk (m 99) l5.toNatClampNeg) (m 112) (m 113) (m 114) (m 94 55) (m 98) (m 101) (m 102) (m 108)) → (zGG (m 94 58) (m 94 56) (m 94 57) (m 106)) → ((m 94 58).toInt = 0 ∨ (m 94 10).toInt = 5) → (zHAs (m 94 10) (m 94 11) (m 94 13) (m 94 14) (m 94 16) (m 94 61) (m 94 59) (m 94 60) (m 99) (m 102) (m 103) (m 111)) → ((m 94 10).toInt = 3 → zDC (m 94 14).toInt (m 94 16).toInt (zmk (m 99) l5.toNatClampNeg) (m 103) (m 102) (m 98) (m 101) (m 108) (m 117)) → (zRG (m 94 10) (m 94 18) (m 94 64) (m 94 63) (m 99) (m 103) (m 102) (m 116)) → (zUh (m0 94 46) (m0 99) (m 99) (m0 100) (m 100) (m0 108) (m 108) (m 98) (m 101) l5.toNatClampNeg l6.toNatClampNeg) → zm X 9 198 183 142 [(0, .inr (.inr (some 94))), (2, .inl l2), (3, .inl l3), (4, .inl l4), (5, .inl l5), (6, .inl l6)] m P := by
  intro n
  induction n using Nat.strongRecOn with
  | _ n IH =>
    intro m l2 l3 l4 l5 l6 hmu hF hV hi0 hi1 hi2 hi3 hi4 hi5 hi6 hi7 hi8 hi9 hi10 r_USn r_WN r_GW r_GUp r_OW r_DXn r_GG hi18 r_HAs r_DCn r_RGc r_UQh
    refine g_183_142 l2 l3 l4 l5 l6 ?_
    have f1 : 0 ≤ (m 94 46).toInt ∧ (m 94 46).toInt ≤ 100000 := rs_94_46 (m := m) hV
    have b2 := i_bd l5
    first | have f3 : 0 ≤ (m 102 l5.toNatClampNeg).toInt ∧ (m 102 l5.toNatClampNeg).toInt ≤ 60 := ra_102 (m := m) hV (k := l5.toNatClampNeg) (i_ix (n := 3100) (by omega) (by omega)).2 | have b4 := i_bd (m 102 l5.toNatClampNeg)
    have f5 : 0 ≤ (m 94 58).toInt ∧ (m 94 58).toInt ≤ 1 := rs_94_58 (m := m) hV
    have f6 : 0 ≤ (m 94 10).toInt ∧ (m 94 10).toInt ≤ 6 := rs_94_10 (m := m) hV
    have b7 := i_bd l2
    have b8 := i_bd l6
    refine zd (fun (h9 : l2 ≤ l6) => ?_) (fun (h9 : ¬ l2 ≤ l6) => ?_)
    · skip
      have g10 := i_le h9
      have b11 := i_bd l3
      first | have e13 : ((m 94 46) + (1 : Int32)).toInt = (m 94 46).toInt + (1) := i_addk rfl (by omega) (by omega) | have b14 := i_bd ((m 94 46) + (1 : Int32))
      have hV12 : zV (ma_u m 94 46 ((m 94 46) + (1 : Int32))) := us_94_46 hV (by omega) (by omega)
      have hV15 : zV (ma_u (ma_u m 94 46 ((m 94 46) + (1 : Int32))) 94 44 ((m 94 44) + (1 : Int32))) := uf_94_44 hV12
      have hV16 : zV (ma_u (ma_u (ma_u m 94 46 ((m 94 46) + (1 : Int32))) 94 44 ((m 94 44) + (1 : Int32))) 94 45 ((m 94 45) + (l2 + (1 : Int32)))) := uf_94_45 hV15
      have b18 := i_bd l4
      first | have e19 : (l4 + l2).toInt = l4.toInt + l2.toInt := i_add (by omega) (by omega) | have b20 := i_bd (l4 + l2)
      first | have e21 : ((l4 + l2) + (1 : Int32)).toInt = (l4 + l2).toInt + (1) := i_addk rfl (by omega) (by omega) | have b22 := i_bd ((l4 + l2) + (1 : Int32))
      have hV17 : zV (ma_u (ma_u (ma_u (ma_u m 94 46 ((m 94 46) + (1 : Int32))) 94 44 ((m 94 44) + (1 : Int32))) 94 45 ((m 94 45) + (l2 + (1 : Int32)))) 94 62 ((l4 + l2) + (1 : Int32))) := us_94_62 hV16 (by omega) (by omega)
      refine sp_238uw (T := (T + 1)) (l3) (l5) hV17 (by omega) (by omega) (by omega) (by omega) (show ((m 94 10).toInt = 2 ∨ (m 94 10).toInt = 3) → l5.toInt < 0 ∨ (m 99) l5.toNatClampNeg ≠ 0 from by first | (exact fun _ => Or.inr r_USn) | (exfalso; omega; done) | (exfalso; contradiction; done)) (show zW (m 94 7) (m 98) (m 101) (m 102) (m 108) from by first | (exact Wn_end r_WN (by rw [tn_cast (x := l6) (by omega)]; omega)) | (exfalso; omega; done) | (exfalso; contradiction; done)) r_GW (show zGU (T + 1) ((m 94 46) + (1 : Int32)) (m 99) from by first | (exact GUp_end r_GUp (by omega)) | (exfalso; omega; done) | (exfalso; contradiction; done)) r_OW (show zDX (m 94 10) (m 99) (m 112) (m 113) (m 114) (m 94 55) (m 98) (m 101) (m 102) (m 108) from by first | (exact DXn_end r_DXn r_WN (by rw [tn_cast (x := l6) (by omega)]; omega)) | (exfalso; omega; done) | (exfalso; contradiction; done)) r_GG (show zHA (m 94 10) (m 94 11) (m 94 13) (m 94 14) (m 94 16) (m 94 61) (m 94 59) (m 94 60) (m 99) (m 102) (m 103) (m 111) (m 117) (m 98) (m 101) (m 108) from by first | (exact HA_end r_HAs r_DCn r_WN (by rw [tn_cast (x := l6) (by omega)]; omega)) | (exfalso; omega; done) | (exfalso; contradiction; done)) r_RGc (show (m 94 58).toInt = 0 ∨ (m 94 10).toInt = 5 from by omega) (fun m1 hV_m1 p0_m1 p1_m1 p2_m1 p3_m1 p4_m1 p5_m1 p6_m1 p7_m1 p8_m1 => zmv_n ?_)
      have p0_m1 : zGW (T + 1) (m1 94 55) (m1 109) := p0_m1
      have p1_m1 : zGU (T + 1) ((m 94 46) + (1 : Int32)) (m1 99) := p1_m1
      have p2_m1 : zOw (m1 99) (m 103) (m1 111) := p2_m1
      have p3_m1 : zDX (m 94 10) (m1 99) (m1 112) (m1 113) (m1 114) (m1 94 55) (m 98) (m 101) (m 102) (m 108) := p3_m1
      have p4_m1 : zGG (m 94 58) (m1 94 56) (m 94 57) (m1 106) := p4_m1
      have p5_m1 : zHA (m 94 10) (m 94 11) (m 94 13) (m 94 14) (m 94 16) (m 94 61) (m 94 59) (m 94 60) (m1 99) (m 102) (m 103) (m1 111) (m 117) (m 98) (m 101) (m 108) := p5_m1
      have p6_m1 : zRG (m 94 10) (m 94 18) (m 94 64) (m 94 63) (m1 99) (m 103) (m 102) (m 116) := p6_m1
      have p7_m1 : (m 94 58).toInt = 0 ∨ (m 94 10).toInt = 5 := p7_m1
      have p8_m1 : zUs (m 99) (m1 99) := p8_m1
      have hg23 : (0 ≤ l5 ∧ l5.toNatClampNeg < 3100) := i_ix (by omega) (by omega)
      refine ⟨hg23, ?_⟩
      try have e21 : (l2 + (1 : Int32)).toInt = l2.toInt + 1 := i_addk rfl (by omega) (by omega)
      try have gun := GU_nu p1_m1
      first | have f24 : 0 ≤ (m 100 l5.toNatClampNeg).toInt ∧ (m 100 l5.toNatClampNeg).toInt ≤ 100000 := ra_100 (m := m) hV (k := l5.toNatClampNeg) (i_ix (n := 3100) (by omega) (by omega)).2 | have b25 := i_bd (m 100 l5.toNatClampNeg)
      exact K ((m 100 l5.toNatClampNeg)) _ (zF_zov (zF_u (zF_u (zF_u (zF_u hF rfl) rfl) rfl) rfl) ws_238_183) hV_m1 (show zW (m 94 7) (m 98) (m 101) (m 102) (m 108) from by first | (exact Wn_end r_WN (by rw [tn_cast (x := l6) (by omega)]; omega)) | (exfalso; omega; done) | (exfalso; contradiction; done)) p0_m1 p1_m1 p2_m1 p3_m1 p4_m1 p5_m1 p6_m1 (show (m 94 58).toInt = 0 ∨ (m 94 10).toInt = 5 from by omega) (show zUf (m0 94 46) (m0 99) (m1 99) (m0 100) (m 100) (m0 108) (m 108) (m0 98) (m0 101) (m 98) (m 101) (m 102) from by first | (exact Uh_f r_UQh (by have w := tn_cast (x := l6) (by omega); omega) (Us_tr Us_rfl p8_m1)) | (exfalso; omega; done) | (exfalso; contradiction; done))
    · skip
      have g26 := i_nle h9
      have hg27 : (0 ≤ l5 ∧ l5.toNatClampNeg < 3100) := i_ix (by omega) (by omega)
      refine ⟨hg27, ?_⟩
      first | have f28 : 0 ≤ (m 101 l5.toNatClampNeg).toInt ∧ (m 101 l5.toNatClampNeg).toInt ≤ 17 := ra_101 (m := m) hV (k := l5.toNatClampNeg) (i_ix (n := 3100) (by omega) (by omega)).2 | have b29 := i_bd (m 101 l5.toNatClampNeg)
      have li30 : (16 : Int32).toInt = 16 := rfl
      refine zd (fun (h31 : (m 101 l5.toNatClampNeg) = (16 : Int32)) => ?_) (fun (h31 : ¬ (m 101 l5.toNatClampNeg) = (16 : Int32)) => ?_)
      · skip
        have g32 := i_eq h31
        have li33 : (60 : Int32).toInt = 60 := rfl
        first | have e34 : (l5 * (60 : Int32)).toInt = l5.toInt * 60 := i_mulk rfl (by omega) (by omega) | have b35 := i_bd (l5 * (60 : Int32))
        first | have e36 : ((l5 * (60 : Int32)) + l6).toInt = (l5 * (60 : Int32)).toInt + l6.toInt := i_add (by omega) (by omega) | have b37 := i_bd ((l5 * (60 : Int32)) + l6)
        have hg38 : (0 ≤ ((l5 * (60 : Int32)) + l6) ∧ ((l5 * (60 : Int32)) + l6).toNatClampNeg < 186000) := i_ix (by omega) (by omega)
        refine ⟨hg38, ?_⟩
        try have e21 : (l2 + (1 : Int32)).toInt = l2.toInt + 1 := i_addk rfl (by omega) (by omega)
        have hV39 : zV (ma_u m 108 ((l5 * (60 : Int32)) + l6).toNatClampNeg (-1 : Int32)) := ua_108 hV
        have b40 := i_bd l3
        have b41 := i_bd l4
        first | have e42 : (l6 + (1 : Int32)).toInt = l6.toInt + (1) := i_addk rfl (by omega) (by omega) | have b43 := i_bd (l6 + (1 : Int32))
        exact IH (61 - (l6 + (1 : Int32)).toInt).toNat (by omega) _ (l2) (l3) (l4) (l5) ((l6 + (1 : Int32))) rfl (zF_u hF rfl) hV39 (by omega) (by omega) (by omega) (by omega) (by omega) (by omega) (by omega) (by omega) (by omega) (show (m 94 46).toInt ≤ 2999 from by omega) (show (m 102 l5.toNatClampNeg).toInt = l2.toInt from by omega) r_USn (show zWn (m 94 7) (m 98) (m 101) (m 102) ((ma_u m 108 ((l5 * (60 : Int32)) + l6).toNatClampNeg (-1 : Int32)) 108) l5.toNatClampNeg (l6 + (1 : Int32)).toNatClampNeg from by first | (exact Wn_put r_WN (zrf_oth (ix_word (by omega) (by omega) (by omega) (by omega)) (by rw [tn_eq]; omega) (fun t ht => (ra_102 hV ht).2)) (zrf_bef (ix_word (by omega) (by omega) (by omega) (by omega))) (zrf_m1 (ix_word (by omega) (by omega) (by omega) (by omega)) rfl) (tn_succ (by omega) (by omega))) | (exact Wn_put r_WN (zrf_oth (ix_word (by omega) (by omega) (by omega) (by omega)) (by rw [tn_eq]; omega) (fun t ht => (ra_102 hV ht).2)) (zrf_bef (ix_word (by omega) (by omega) (by omega) (by omega))) (zrf_nr rfl (by omega) (by assumption) (fun z => by first | exact absurd (Int32.lt_iff_toInt_lt.mp z.1) (by omega) | exact absurd z.2 (by assumption))) (tn_succ (by omega) (by omega))) | (exfalso; omega; done) | (exfalso; contradiction; done)) r_GW r_GUp r_OW (show zDX (m 94 10) (zmk (m 99) l5.toNatClampNeg) (m 112) (m 113) (m 114) (m 94 55) (m 98) (m 101) (m 102) ((ma_u m 108 ((l5 * (60 : Int32)) + l6).toNatClampNeg (-1 : Int32)) 108) from by first | (exact DXn_put r_DXn (zrf_oth (ix_word (by omega) (by omega) (by omega) (by omega)) (by rw [tn_eq]; omega) (fun t ht => (ra_102 hV ht).2))) | (exfalso; omega; done) | (exfalso; contradiction; done)) r_GG (show (m 94 58).toInt = 0 ∨ (m 94 10).toInt = 5 from by omega) r_HAs (show (m 94 10).toInt = 3 → zDC (m 94 14).toInt (m 94 16).toInt (zmk (m 99) l5.toNatClampNeg) (m 103) (m 102) (m 98) (m 101) ((ma_u m 108 ((l5 * (60 : Int32)) + l6).toNatClampNeg (-1 : Int32)) 108) (m 117) from by first | (exact DCn_put r_DCn (zrf_oth (ix_word (by omega) (by omega) (by omega) (by omega)) (by rw [tn_eq]; omega) (fun t ht => (ra_102 hV ht).2))) | (exfalso; omega; done) | (exfalso; contradiction; done)) r_RGc (show zUh (m0 94 46) (m0 99) (m 99) (m0 100) (m 100) (m0 108) ((ma_u m 108 ((l5 * (60 : Int32)) + l6).toNatClampNeg (-1 : Int32)) 108) (m 98) (m 101) l5.toNatClampNeg (l6 + (1 : Int32)).toNatClampNeg from by first | (exact Uh_w r_UQh (ix_word (by omega) (by omega) (by omega) (by omega)) (by rw [tn_eq]; omega) (Or.inl rfl) (tn_succ (by omega) (by omega))) | (exact Uh_w r_UQh (ix_word (by omega) (by omega) (by omega) (by omega)) (by rw [tn_eq]; omega) (Or.inr (Ir_w (by omega) (Or.inl (by assumption)))) (tn_succ (by omega) (by omega))) | (exact Uh_w r_UQh (ix_word (by omega) (by omega) (by omega) (by omega)) (by rw [tn_eq]; omega) (Or.inr (Ir_w (by omega) (Or.inr ⟨Int32.not_le.mp (by assumption), by assumption⟩))) (tn_succ (by omega) (by omega))) | (exfalso; omega; done) | (exfalso; contradiction; done))
      · skip
        have g44 := i_ne h31
        have hg45 : (0 ≤ l5 ∧ l5.toNatClampNeg < 3100) := i_ix (by omega) (by omega)
        refine ⟨hg45, ?_⟩
        refine zd (fun (h46 : (16 : Int32) ≤ (m 101 l5.toNatClampNeg)) => ?_) (fun (h46 : ¬ (16 : Int32) ≤ (m 101 l5.toNatClampNeg)) => ?_)
        · skip
          have g47 := i_le h46
          have li48 : (60 : Int32).toInt = 60 := rfl
          first | have e49 : (l5 * (60 : Int32)).toInt = l5.toInt * 60 := i_mulk rfl (by omega) (by omega) | have b50 := i_bd (l5 * (60 : Int32))
          first | have e51 : ((l5 * (60 : Int32)) + l6).toInt = (l5 * (60 : Int32)).toInt + l6.toInt := i_add (by omega) (by omega) | have b52 := i_bd ((l5 * (60 : Int32)) + l6)
          have hg53 : (0 ≤ ((l5 * (60 : Int32)) + l6) ∧ ((l5 * (60 : Int32)) + l6).toNatClampNeg < 186000) := i_ix (by omega) (by omega)
          refine ⟨hg53, ?_⟩
          try have e21 : (l2 + (1 : Int32)).toInt = l2.toInt + 1 := i_addk rfl (by omega) (by omega)
          have hV54 : zV (ma_u m 108 ((l5 * (60 : Int32)) + l6).toNatClampNeg (0 : Int32)) := ua_108 hV
          have b55 := i_bd l3
          have b56 := i_bd l4
          first | have e57 : (l6 + (1 : Int32)).toInt = l6.toInt + (1) := i_addk rfl (by omega) (by omega) | have b58 := i_bd (l6 + (1 : Int32))
          exact IH (61 - (l6 + (1 : Int32)).toInt).toNat (by omega) _ (l2) (l3) (l4) (l5) ((l6 + (1 : Int32))) rfl (zF_u hF rfl) hV54 (by omega) (by omega) (by omega) (by omega) (by omega) (by omega) (by omega) (by omega) (by omega) (show (m 94 46).toInt ≤ 2999 from by omega) (show (m 102 l5.toNatClampNeg).toInt = l2.toInt from by omega) r_USn (show zWn (m 94 7) (m 98) (m 101) (m 102) ((ma_u m 108 ((l5 * (60 : Int32)) + l6).toNatClampNeg (0 : Int32)) 108) l5.toNatClampNeg (l6 + (1 : Int32)).toNatClampNeg from by first | (exact Wn_put r_WN (zrf_oth (ix_word (by omega) (by omega) (by omega) (by omega)) (by rw [tn_eq]; omega) (fun t ht => (ra_102 hV ht).2)) (zrf_bef (ix_word (by omega) (by omega) (by omega) (by omega))) (zrf_m1 (ix_word (by omega) (by omega) (by omega) (by omega)) rfl) (tn_succ (by omega) (by omega))) | (exact Wn_put r_WN (zrf_oth (ix_word (by omega) (by omega) (by omega) (by omega)) (by rw [tn_eq]; omega) (fun t ht => (ra_102 hV ht).2)) (zrf_bef (ix_word (by omega) (by omega) (by omega) (by omega))) (zrf_nr rfl (by omega) (by assumption) (fun z => by first | exact absurd (Int32.lt_iff_toInt_lt.mp z.1) (by omega) | exact absurd z.2 (by assumption))) (tn_succ (by omega) (by omega))) | (exfalso; omega; done) | (exfalso; contradiction; done)) r_GW r_GUp r_OW (show zDX (m 94 10) (zmk (m 99) l5.toNatClampNeg) (m 112) (m 113) (m 114) (m 94 55) (m 98) (m 101) (m 102) ((ma_u m 108 ((l5 * (60 : Int32)) + l6).toNatClampNeg (0 : Int32)) 108) from by first | (exact DXn_put r_DXn (zrf_oth (ix_word (by omega) (by omega) (by omega) (by omega)) (by rw [tn_eq]; omega) (fun t ht => (ra_102 hV ht).2))) | (exfalso; omega; done) | (exfalso; contradiction; done)) r_GG (show (m 94 58).toInt = 0 ∨ (m 94 10).toInt = 5 from by omega) r_HAs (show (m 94 10).toInt = 3 → zDC (m 94 14).toInt (m 94 16).toInt (zmk (m 99) l5.toNatClampNeg) (m 103) (m 102) (m 98) (m 101) ((ma_u m 108 ((l5 * (60 : Int32)) + l6).toNatClampNeg (0 : Int32)) 108) (m 117) from by first | (exact DCn_put r_DCn (zrf_oth (ix_word (by omega) (by omega) (by omega) (by omega)) (by rw [tn_eq]; omega) (fun t ht => (ra_102 hV ht).2))) | (exfalso; omega; done) | (exfalso; contradiction; done)) r_RGc (show zUh (m0 94 46) (m0 99) (m 99) (m0 100) (m 100) (m0 108) ((ma_u m 108 ((l5 * (60 : Int32)) + l6).toNatClampNeg (0 : Int32)) 108) (m 98) (m 101) l5.toNatClampNeg (l6 + (1 : Int32)).toNatClampNeg from by first | (exact Uh_w r_UQh (ix_word (by omega) (by omega) (by omega) (by omega)) (by rw [tn_eq]; omega) (Or.inl rfl) (tn_succ (by omega) (by omega))) | (exact Uh_w r_UQh (ix_word (by omega) (by omega) (by omega) (by omega)) (by rw [tn_eq]; omega) (Or.inr (Ir_w (by omega) (Or.inl (by assumption)))) (tn_succ (by omega) (by omega))) | (exact Uh_w r_UQh (ix_word (by omega) (by omega) (by omega) (by omega)) (by rw [tn_eq]; omega) (Or.inr (Ir_w (by omega) (Or.inr ⟨Int32.not_le.mp (by assumption), by assumption⟩))) (tn_succ (by omega) (by omega))) | (exfalso; omega; done) | (exfalso; contradiction; done))
        · skip
          have g59 := i_nle h46
          have hg60 : (0 ≤ l5 ∧ l5.toNatClampNeg < 3100) := i_ix (by omega) (by omega)
          refine ⟨hg60, ?_⟩
          have hg61 : (0 ≤ (m 101 l5.toNatClampNeg) ∧ (m 101 l5.toNatClampNeg).toNatClampNeg < 16) := i_ix (by omega) (by omega)
          refine ⟨hg61, ?_⟩
          have b62 := i_bd (((m 98 (m 101 l5.toNatClampNeg).toNatClampNeg) >>> (l6 &&& 31)) &&& (1 : Int32))
          have li63 : (1 : Int32).toInt = 1 := rfl
          refine zd (fun (h64 : (((m 98 (m 101 l5.toNatClampNeg).toNatClampNeg) >>> (l6 &&& 31)) &&& (1 : Int32)) = (1 : Int32)) => ?_) (fun (h64 : ¬ (((m 98 (m 101 l5.toNatClampNeg).toNatClampNeg) >>> (l6 &&& 31)) &&& (1 : Int32)) = (1 : Int32)) => ?_)
          · skip
            have g65 := i_eq h64
            have li66 : (60 : Int32).toInt = 60 := rfl
            first | have e67 : (l5 * (60 : Int32)).toInt = l5.toInt * 60 := i_mulk rfl (by omega) (by omega) | have b68 := i_bd (l5 * (60 : Int32))
            first | have e69 : ((l5 * (60 : Int32)) + l6).toInt = (l5 * (60 : Int32)).toInt + l6.toInt := i_add (by omega) (by omega) | have b70 := i_bd ((l5 * (60 : Int32)) + l6)
            have hg71 : (0 ≤ ((l5 * (60 : Int32)) + l6) ∧ ((l5 * (60 : Int32)) + l6).toNatClampNeg < 186000) := i_ix (by omega) (by omega)
            refine ⟨hg71, ?_⟩
            try have e21 : (l2 + (1 : Int32)).toInt = l2.toInt + 1 := i_addk rfl (by omega) (by omega)
            have hV72 : zV (ma_u m 108 ((l5 * (60 : Int32)) + l6).toNatClampNeg (-1 : Int32)) := ua_108 hV
            have b73 := i_bd l3
            have b74 := i_bd l4
            first | have e75 : (l6 + (1 : Int32)).toInt = l6.toInt + (1) := i_addk rfl (by omega) (by omega) | have b76 := i_bd (l6 + (1 : Int32))
            exact IH (61 - (l6 + (1 : Int32)).toInt).toNat (by omega) _ (l2) (l3) (l4) (l5) ((l6 + (1 : Int32))) rfl (zF_u hF rfl) hV72 (by omega) (by omega) (by omega) (by omega) (by omega) (by omega) (by omega) (by omega) (by omega) (show (m 94 46).toInt ≤ 2999 from by omega) (show (m 102 l5.toNatClampNeg).toInt = l2.toInt from by omega) r_USn (show zWn (m 94 7) (m 98) (m 101) (m 102) ((ma_u m 108 ((l5 * (60 : Int32)) + l6).toNatClampNeg (-1 : Int32)) 108) l5.toNatClampNeg (l6 + (1 : Int32)).toNatClampNeg from by first | (exact Wn_put r_WN (zrf_oth (ix_word (by omega) (by omega) (by omega) (by omega)) (by rw [tn_eq]; omega) (fun t ht => (ra_102 hV ht).2)) (zrf_bef (ix_word (by omega) (by omega) (by omega) (by omega))) (zrf_m1 (ix_word (by omega) (by omega) (by omega) (by omega)) rfl) (tn_succ (by omega) (by omega))) | (exact Wn_put r_WN (zrf_oth (ix_word (by omega) (by omega) (by omega) (by omega)) (by rw [tn_eq]; omega) (fun t ht => (ra_102 hV ht).2)) (zrf_bef (ix_word (by omega) (by omega) (by omega) (by omega))) (zrf_nr rfl (by omega) (by assumption) (fun z => by first | exact absurd (Int32.lt_iff_toInt_lt.mp z.1) (by omega) | exact absurd z.2 (by assumption))) (tn_succ (by omega) (by omega))) | (exfalso; omega; done) | (exfalso; contradiction; done)) r_GW r_GUp r_OW (show zDX (m 94 10) (zmk (m 99) l5.toNatClampNeg) (m 112) (m 113) (m 114) (m 94 55) (m 98) (m 101) (m 102) ((ma_u m 108 ((l5 * (60 : Int32)) + l6).toNatClampNeg (-1 : Int32)) 108) from by first | (exact DXn_put r_DXn (zrf_oth (ix_word (by omega) (by omega) (by omega) (by omega)) (by rw [tn_eq]; omega) (fun t ht => (ra_102 hV ht).2))) | (exfalso; omega; done) | (exfalso; contradiction; done)) r_GG (show (m 94 58).toInt = 0 ∨ (m 94 10).toInt = 5 from by omega) r_HAs (show (m 94 10).toInt = 3 → zDC (m 94 14).toInt (m 94 16).toInt (zmk (m 99) l5.toNatClampNeg) (m 103) (m 102) (m 98) (m 101) ((ma_u m 108 ((l5 * (60 : Int32)) + l6).toNatClampNeg (-1 : Int32)) 108) (m 117) from by first | (exact DCn_put r_DCn (zrf_oth (ix_word (by omega) (by omega) (by omega) (by omega)) (by rw [tn_eq]; omega) (fun t ht => (ra_102 hV ht).2))) | (exfalso; omega; done) | (exfalso; contradiction; done)) r_RGc (show zUh (m0 94 46) (m0 99) (m 99) (m0 100) (m 100) (m0 108) ((ma_u m 108 ((l5 * (60 : Int32)) + l6).toNatClampNeg (-1 : Int32)) 108) (m 98) (m 101) l5.toNatClampNeg (l6 + (1 : Int32)).toNatClampNeg from by first | (exact Uh_w r_UQh (ix_word (by omega) (by omega) (by omega) (by omega)) (by rw [tn_eq]; omega) (Or.inl rfl) (tn_succ (by omega) (by omega))) | (exact Uh_w r_UQh (ix_word (by omega) (by omega) (by omega) (by omega)) (by rw [tn_eq]; omega) (Or.inr (Ir_w (by omega) (Or.inl (by assumption)))) (tn_succ (by omega) (by omega))) | (exact Uh_w r_UQh (ix_word (by omega) (by omega) (by omega) (by omega)) (by rw [tn_eq]; omega) (Or.inr (Ir_w (by omega) (Or.inr ⟨Int32.not_le.mp (by assumption), by assumption⟩))) (tn_succ (by omega) (by omega))) | (exfalso; omega; done) | (exfalso; contradiction; done))
          · skip
            have g77 := i_ne h64
            have li78 : (60 : Int32).toInt = 60 := rfl
            first | have e79 : (l5 * (60 : Int32)).toInt = l5.toInt * 60 := i_mulk rfl (by omega) (by omega) | have b80 := i_bd (l5 * (60 : Int32))
            first | have e81 : ((l5 * (60 : Int32)) + l6).toInt = (l5 * (60 : Int32)).toInt + l6.toInt := i_add (by omega) (by omega) | have b82 := i_bd ((l5 * (60 : Int32)) + l6)
            have hg83 : (0 ≤ ((l5 * (60 : Int32)) + l6) ∧ ((l5 * (60 : Int32)) + l6).toNatClampNeg < 186000) := i_ix (by omega) (by omega)
            refine ⟨hg83, ?_⟩
            try have e21 : (l2 + (1 : Int32)).toInt = l2.toInt + 1 := i_addk rfl (by omega) (by omega)
            have hV84 : zV (ma_u m 108 ((l5 * (60 : Int32)) + l6).toNatClampNeg (0 : Int32)) := ua_108 hV
            have b85 := i_bd l3
            have b86 := i_bd l4
            first | have e87 : (l6 + (1 : Int32)).toInt = l6.toInt + (1) := i_addk rfl (by omega) (by omega) | have b88 := i_bd (l6 + (1 : Int32))
            exact IH (61 - (l6 + (1 : Int32)).toInt).toNat (by omega) _ (l2) (l3) (l4) (l5) ((l6 + (1 : Int32))) rfl (zF_u hF rfl) hV84 (by omega) (by omega) (by omega) (by omega) (by omega) (by omega) (by omega) (by omega) (by omega) (show (m 94 46).toInt ≤ 2999 from by omega) (show (m 102 l5.toNatClampNeg).toInt = l2.toInt from by omega) r_USn (show zWn (m 94 7) (m 98) (m 101) (m 102) ((ma_u m 108 ((l5 * (60 : Int32)) + l6).toNatClampNeg (0 : Int32)) 108) l5.toNatClampNeg (l6 + (1 : Int32)).toNatClampNeg from by first | (exact Wn_put r_WN (zrf_oth (ix_word (by omega) (by omega) (by omega) (by omega)) (by rw [tn_eq]; omega) (fun t ht => (ra_102 hV ht).2)) (zrf_bef (ix_word (by omega) (by omega) (by omega) (by omega))) (zrf_m1 (ix_word (by omega) (by omega) (by omega) (by omega)) rfl) (tn_succ (by omega) (by omega))) | (exact Wn_put r_WN (zrf_oth (ix_word (by omega) (by omega) (by omega) (by omega)) (by rw [tn_eq]; omega) (fun t ht => (ra_102 hV ht).2)) (zrf_bef (ix_word (by omega) (by omega) (by omega) (by omega))) (zrf_nr rfl (by omega) (by assumption) (fun z => by first | exact absurd (Int32.lt_iff_toInt_lt.mp z.1) (by omega) | exact absurd z.2 (by assumption))) (tn_succ (by omega) (by omega))) | (exfalso; omega; done) | (exfalso; contradiction; done)) r_GW r_GUp r_OW (show zDX (m 94 10) (zmk (m 99) l5.toNatClampNeg) (m 112) (m 113) (m 114) (m 94 55) (m 98) (m 101) (m 102) ((ma_u m 108 ((l5 * (60 : Int32)) + l6).toNatClampNeg (0 : Int32)) 108) from by first | (exact DXn_put r_DXn (zrf_oth (ix_word (by omega) (by omega) (by omega) (by omega)) (by rw [tn_eq]; omega) (fun t ht => (ra_102 hV ht).2))) | (exfalso; omega; done) | (exfalso; contradiction; done)) r_GG (show (m 94 58).toInt = 0 ∨ (m 94 10).toInt = 5 from by omega) r_HAs (show (m 94 10).toInt = 3 → zDC (m 94 14).toInt (m 94 16).toInt (zmk (m 99) l5.toNatClampNeg) (m 103) (m 102) (m 98) (m 101) ((ma_u m 108 ((l5 * (60 : Int32)) + l6).toNatClampNeg (0 : Int32)) 108) (m 117) from by first | (exact DCn_put r_DCn (zrf_oth (ix_word (by omega) (by omega) (by omega) (by omega)) (by rw [tn_eq]; omega) (fun t ht => (ra_102 hV ht).2))) | (exfalso; omega; done) | (exfalso; contradiction; done)) r_RGc (show zUh (m0 94 46) (m0 99) (m 99) (m0 100) (m 100) (m0 108) ((ma_u m 108 ((l5 * (60 : Int32)) + l6).toNatClampNeg (0 : Int32)) 108) (m 98) (m 101) l5.toNatClampNeg (l6 + (1 : Int32)).toNatClampNeg from by first | (exact Uh_w r_UQh (ix_word (by omega) (by omega) (by omega) (by omega)) (by rw [tn_eq]; omega) (Or.inl rfl) (tn_succ (by omega) (by omega))) | (exact Uh_w r_UQh (ix_word (by omega) (by omega) (by omega) (by omega)) (by rw [tn_eq]; omega) (Or.inr (Ir_w (by omega) (Or.inl (by assumption)))) (tn_succ (by omega) (by omega))) | (exact Uh_w r_UQh (ix_word (by omega) (by omega) (by omega) (by omega)) (by rw [tn_eq]; omega) (Or.inr (Ir_w (by omega) (Or.inr ⟨Int32.not_le.mp (by assumption), by assumption⟩))) (tn_succ (by omega) (by omega))) | (exfalso; omega; done) | (exfalso; contradiction; done))
set_option maxHeartbeats 8000000 in
theorem lp_183uw_123 {X : Nat × (Nat → Int32)} {P : Option ma_V → (Nat → Nat → Int32) → Prop} {T : Nat} {kk : Int32} {nn : Int32} {r1 : Int32} {m0 : Nat → Nat → Int32} (h0 : zV m0) (K : ∀ v m₉, zF wr_183 m0 m₉ → zV m₉ → (zW (m₉ 94 7) (m₉ 98) (m₉ 101) (m₉ 102) (m₉ 108)) → (zGW (T + 1) (m₉ 94 55) (m₉ 109)) → (zGU (T + 1) (m₉ 94 46) (m₉ 99)) → (zOw (m₉ 99) (m₉ 103) (m₉ 111)) → (zDX (m₉ 94 10) (m₉ 99) (m₉ 112) (m₉ 113) (m₉ 114) (m₉ 94 55) (m₉ 98) (m₉ 101) (m₉ 102) (m₉ 108)) → (zGG (m₉ 94 58) (m₉ 94 56) (m₉ 94 57) (m₉ 106)) → (zHA (m₉ 94 10) (m₉ 94 11) (m₉ 94 13) (m₉ 94 14) (m₉ 94 16) (m₉ 94 61) (m₉ 94 59) (m₉ 94 60) (m₉ 99) (m₉ 102) (m₉ 103) (m₉ 111) (m₉ 117) (m₉ 98) (m₉ 101) (m₉ 108)) → (zRG (m₉ 94 10) (m₉ 94 18) (m₉ 94 64) (m₉ 94 63) (m₉ 99) (m₉ 103) (m₉ 102) (m₉ 116)) → ((m₉ 94 58).toInt = 0 ∨ (m₉ 94 10).toInt = 5) → (zUf (m0 94 46) (m0 99) (m₉ 99) (m0 100) (m₉ 100) (m0 108) (m₉ 108) (m0 98) (m0 101) (m₉ 98) (m₉ 101) (m₉ 102)) → P (some (.inl v)) m₉) : ∀ (n : Nat) (m : Nat → Nat → Int32) (l2 : Int32) (l3 : Int32) (l4 : Int32) (l5 : Int32), ((0 : Int)).toNat = n → zF wr_183 m0 m → zV m → (0 ≤ l2.toInt) → (l2.toInt ≤ 60) → (0 ≤ l3.toInt) → (l3.toInt ≤ 15) → (0 ≤ l4.toInt) → (l4.toInt + l2.toInt ≤ 4599) → (0 ≤ l5.toInt) → (l5.toInt ≤ 3099) → ((m 94 46).toInt ≤ 2999) → ((m 102 l5.toNatClampNeg).toInt = l2.toInt) → ((m 99) l5.toNatClampNeg ≠ 0) → (zWn (m 94 7) (m 98) (m 101) (m 102) (m 108) l5.toNatClampNeg (0 : Int32).toNatClampNeg) → (zGW T (m 94 55) (m 109)) → (T + 1 ≤ 3000) → (zGUp T (m 94 46) (m 99)) → (zOw (m 99) (m 103) (m 111)) → (zDX (m 94 10) (zmk (m 99) l5.toNatClampNeg) (m 112) (m 113) (m 114) (m 94 55) (m 98) (m 101) (m 102) (m 108)) → (zGG (m 94 58) (m 94 56) (m 94 57) (m 106)) → ((m 94 58).toInt = 0 ∨ (m 94 10).toInt = 5) → (zHAs (m 94 10) (m 94 11) (m 94 13) (m 94 14) (m 94 16) (m 94 61) (m 94 59) (m 94 60) (m 99) (m 102) (m 103) (m 111)) → ((m 94 10).toInt = 3 → zDC (m 94 14).toInt (m 94 16).toInt (zmk (m 99) l5.toNatClampNeg) (m 103) (m 102) (m 98) (m 101) (m 108) (m 117)) → (zRG (m 94 10) (m 94 18) (m 94 64) (m 94 63) (m 99) (m 103) (m 102) (m 116)) → (zUh (m0 94 46) (m0 99) (m 99) (m0 100) (m 100) (m0 108) (m 108) (m 98) (m 101) l5.toNatClampNeg (0 : Int32).toNatClampNeg) → zm X 9 198 183 123 [(0, .inr (.inr (some 94))), (2, .inl l2), (3, .inl l3), (4, .inl l4), (5, .inl l5)] m P := by
  intro n
  induction n using Nat.strongRecOn with
  | _ n IH =>
    intro m l2 l3 l4 l5 hmu hF hV hi0 hi1 hi2 hi3 hi4 hi5 hi6 hi7 hi8 hi9 r_USn r_WN r_GW hi13 r_GUp r_OW r_DXn r_GG hi18 r_HAs r_DCn r_RGc r_UQh
    refine g_183_123 l2 l3 l4 l5 ?_
    have f1 : 0 ≤ (m 94 46).toInt ∧ (m 94 46).toInt ≤ 100000 := rs_94_46 (m := m) hV
    have b2 := i_bd l5
    first | have f3 : 0 ≤ (m 102 l5.toNatClampNeg).toInt ∧ (m 102 l5.toNatClampNeg).toInt ≤ 60 := ra_102 (m := m) hV (k := l5.toNatClampNeg) (i_ix (n := 3100) (by omega) (by omega)).2 | have b4 := i_bd (m 102 l5.toNatClampNeg)
    have f5 : 0 ≤ (m 94 58).toInt ∧ (m 94 58).toInt ≤ 1 := rs_94_58 (m := m) hV
    have f6 : 0 ≤ (m 94 10).toInt ∧ (m 94 10).toInt ≤ 6 := rs_94_10 (m := m) hV
    have hg7 : (0 ≤ l5 ∧ l5.toNatClampNeg < 3100) := i_ix (by omega) (by omega)
    refine ⟨hg7, ?_⟩
    have hg8 : (0 ≤ l5 ∧ l5.toNatClampNeg < 3100) := i_ix (by omega) (by omega)
    refine ⟨hg8, ?_⟩
    try have e21 : (l2 + (1 : Int32)).toInt = l2.toInt + 1 := i_addk rfl (by omega) (by omega)
    have hV9 : zV (ma_u m 107 l5.toNatClampNeg (0 : Int32)) := ua_107 hV
    have li11 : (0 : Int32).toInt = 0 := rfl
    have hV10 : zV (ma_u (ma_u m 107 l5.toNatClampNeg (0 : Int32)) 109 l5.toNatClampNeg (0 : Int32)) := ua_109 hV9 (by omega) (by omega)
    have b12 := i_bd l2
    have b13 := i_bd l3
    have b14 := i_bd l4
    exact lp_183uw_142 (kk := kk) (nn := nn) (r1 := r1) h0 K _ _ (l2) (l3) (l4) (l5) ((0 : Int32)) rfl (zF_u (zF_u hF rfl) rfl) hV10 (by omega) (by omega) (by omega) (by omega) (by omega) (by omega) (by omega) (by omega) (by omega) (show (m 94 46).toInt ≤ 2999 from by omega) (show (m 102 l5.toNatClampNeg).toInt = l2.toInt from by omega) r_USn r_WN (show zGW (T + 1) (m 94 55) ((ma_u m 109 l5.toNatClampNeg (0 : Int32)) 109) from by first | (exact GW_up (GW_0 r_GW) (by omega)) | (exfalso; omega; done) | (exfalso; contradiction; done)) r_GUp r_OW r_DXn r_GG (show (m 94 58).toInt = 0 ∨ (m 94 10).toInt = 5 from by omega) r_HAs r_DCn r_RGc r_UQh
set_option maxHeartbeats 8000000 in
theorem lp_183uw_88 {X : Nat × (Nat → Int32)} {P : Option ma_V → (Nat → Nat → Int32) → Prop} {T : Nat} {kk : Int32} {nn : Int32} {r1 : Int32} {m0 : Nat → Nat → Int32} (h0 : zV m0) (K : ∀ v m₉, zF wr_183 m0 m₉ → zV m₉ → (zW (m₉ 94 7) (m₉ 98) (m₉ 101) (m₉ 102) (m₉ 108)) → (zGW (T + 1) (m₉ 94 55) (m₉ 109)) → (zGU (T + 1) (m₉ 94 46) (m₉ 99)) → (zOw (m₉ 99) (m₉ 103) (m₉ 111)) → (zDX (m₉ 94 10) (m₉ 99) (m₉ 112) (m₉ 113) (m₉ 114) (m₉ 94 55) (m₉ 98) (m₉ 101) (m₉ 102) (m₉ 108)) → (zGG (m₉ 94 58) (m₉ 94 56) (m₉ 94 57) (m₉ 106)) → (zHA (m₉ 94 10) (m₉ 94 11) (m₉ 94 13) (m₉ 94 14) (m₉ 94 16) (m₉ 94 61) (m₉ 94 59) (m₉ 94 60) (m₉ 99) (m₉ 102) (m₉ 103) (m₉ 111) (m₉ 117) (m₉ 98) (m₉ 101) (m₉ 108)) → (zRG (m₉ 94 10) (m₉ 94 18) (m₉ 94 64) (m₉ 94 63) (m₉ 99) (m₉ 103) (m₉ 102) (m₉ 116)) → ((m₉ 94 58).toInt = 0 ∨ (m₉ 94 10).toInt = 5) → (zUf (m0 94 46) (m0 99) (m₉ 99) (m0 100) (m₉ 100) (m0 108) (m₉ 108) (m0 98) (m0 101) (m₉ 98) (m₉ 101) (m₉ 102)) → P (some (.inl v)) m₉) : ∀ (n : Nat) (m : Nat → Nat → Int32) (l2 : Int32) (l3 : Int32) (l4 : Int32) (l5 : Int32), ((0 : Int)).toNat = n → zF wr_183 m0 m → zV m → (0 ≤ l2.toInt) → (l2.toInt ≤ 60) → (0 ≤ l3.toInt) → (l3.toInt ≤ 15) → (0 ≤ l4.toInt) → (l4.toInt + l2.toInt ≤ 4599) → (0 ≤ l5.toInt) → (l5.toInt ≤ 3099) → (T + 1 ≤ 3000) → ((m 94 46).toInt ≤ 2999) → ((m 102 l5.toNatClampNeg).toInt = l2.toInt) → ((m 99) l5.toNatClampNeg ≠ 0) → (zWn (m 94 7) (m 98) (m 101) (m 102) (m 108) l5.toNatClampNeg (0 : Int32).toNatClampNeg) → (zGW T (m 94 55) (m 109)) → (zGUp T (m 94 46) (m 99)) → (zOw (m 99) (m 103) (m 111)) → (zDX (m 94 10) (zmk (m 99) l5.toNatClampNeg) (m 112) (m 113) (m 114) (m 94 55) (m 98) (m 101) (m 102) (m 108)) → (zGG (m 94 58) (m 94 56) (m 94 57) (m 106)) → ((m 94 58).toInt = 0 ∨ (m 94 10).toInt = 5) → (zHAs (m 94 10) (m 94 11) (m 94 13) (m 94 14) (m 94 16) (m 94 61) (m 94 59) (m 94 60) (m 99) (m 102) (m 103) (m 111)) → ((m 94 10).toInt = 3 → zDC (m 94 14).toInt (m 94 16).toInt (zmk (m 99) l5.toNatClampNeg) (m 103) (m 102) (m 98) (m 101) (m 108) (m 117)) → (zRG (m 94 10) (m 94 18) (m 94 64) (m 94 63) (m 99) (m 103) (m 102) (m 116)) → (zUh (m0 94 46) (m0 99) (m 99) (m0 100) (m 100) (m0 108) (m 108) (m 98) (m 101) l5.toNatClampNeg (0 : Int32).toNatClampNeg) → zm X 9 198 183 88 [(0, .inr (.inr (some 94))), (2, .inl l2), (3, .inl l3), (4, .inl l4), (5, .inl l5)] m P := by
  intro n
  induction n using Nat.strongRecOn with
  | _ n IH =>
    intro m l2 l3 l4 l5 hmu hF hV hi0 hi1 hi2 hi3 hi4 hi5 hi6 hi7 hi8 hi9 hi10 r_USn r_WN r_GW r_GUp r_OW r_DXn r_GG hi18 r_HAs r_DCn r_RGc r_UQh
    refine g_183_88 l2 l3 l4 l5 ?_
    have f1 : 0 ≤ (m 94 46).toInt ∧ (m 94 46).toInt ≤ 100000 := rs_94_46 (m := m) hV
    have b2 := i_bd l5
    first | have f3 : 0 ≤ (m 102 l5.toNatClampNeg).toInt ∧ (m 102 l5.toNatClampNeg).toInt ≤ 60 := ra_102 (m := m) hV (k := l5.toNatClampNeg) (i_ix (n := 3100) (by omega) (by omega)).2 | have b4 := i_bd (m 102 l5.toNatClampNeg)
    have f5 : 0 ≤ (m 94 58).toInt ∧ (m 94 58).toInt ≤ 1 := rs_94_58 (m := m) hV
    have f6 : 0 ≤ (m 94 10).toInt ∧ (m 94 10).toInt ≤ 6 := rs_94_10 (m := m) hV
    have hg7 : (0 ≤ l5 ∧ l5.toNatClampNeg < 3100) := i_ix (by omega) (by omega)
    refine ⟨hg7, ?_⟩
    have hg8 : (0 ≤ l5 ∧ l5.toNatClampNeg < 3100) := i_ix (by omega) (by omega)
    refine ⟨hg8, ?_⟩
    have li9 : (0 : Int32).toInt = 0 := rfl
    refine zd (fun (h10 : (m 94 58) = (0 : Int32)) => ?_) (fun (h10 : ¬ (m 94 58) = (0 : Int32)) => ?_)
    · skip
      have g11 := i_eq h10
      have hg12 : (0 ≤ l5 ∧ l5.toNatClampNeg < 3100) := i_ix (by omega) (by omega)
      refine ⟨hg12, ?_⟩
      try have e21 : (l2 + (1 : Int32)).toInt = l2.toInt + 1 := i_addk rfl (by omega) (by omega)
      have hV13 : zV (ma_u m 104 l5.toNatClampNeg (0 : Int32)) := ua_104 hV
      have hV14 : zV (ma_u (ma_u m 104 l5.toNatClampNeg (0 : Int32)) 105 l5.toNatClampNeg (0 : Int32)) := ua_105 hV13
      have hV15 : zV (ma_u (ma_u (ma_u m 104 l5.toNatClampNeg (0 : Int32)) 105 l5.toNatClampNeg (0 : Int32)) 106 l5.toNatClampNeg (0 : Int32)) := ua_106 hV14
      have b16 := i_bd l2
      have b17 := i_bd l3
      have b18 := i_bd l4
      exact lp_183uw_123 (kk := kk) (nn := nn) (r1 := r1) h0 K _ _ (l2) (l3) (l4) (l5) rfl (zF_u (zF_u (zF_u hF rfl) rfl) rfl) hV15 (by omega) (by omega) (by omega) (by omega) (by omega) (by omega) (by omega) (by omega) (show (m 94 46).toInt ≤ 2999 from by omega) (show (m 102 l5.toNatClampNeg).toInt = l2.toInt from by omega) r_USn r_WN r_GW (by omega) r_GUp r_OW r_DXn (show zGG (m 94 58) (m 94 56) (m 94 57) ((ma_u m 106 l5.toNatClampNeg (0 : Int32)) 106) from by first | (exact fun z => G1_dark0 (r_GG z) (by decide)) | (exact fun z => absurd z (by omega)) | (exact fun z => absurd z (by decide)) | (exact fun z => absurd z (by omega)) | (exfalso; omega; done) | (exfalso; contradiction; done)) (show (m 94 58).toInt = 0 ∨ (m 94 10).toInt = 5 from by omega) r_HAs r_DCn r_RGc r_UQh
    · skip
      have g19 := i_ne h10
      have hg20 : (0 ≤ l5 ∧ l5.toNatClampNeg < 3100) := i_ix (by omega) (by omega)
      refine ⟨hg20, ?_⟩
      try have e21 : (l2 + (1 : Int32)).toInt = l2.toInt + 1 := i_addk rfl (by omega) (by omega)
      have hV21 : zV (ma_u m 104 l5.toNatClampNeg (0 : Int32)) := ua_104 hV
      have hV22 : zV (ma_u (ma_u m 104 l5.toNatClampNeg (0 : Int32)) 105 l5.toNatClampNeg (0 : Int32)) := ua_105 hV21
      have hV23 : zV (ma_u (ma_u (ma_u m 104 l5.toNatClampNeg (0 : Int32)) 105 l5.toNatClampNeg (0 : Int32)) 106 l5.toNatClampNeg (2 : Int32)) := ua_106 hV22
      have b24 := i_bd l2
      have b25 := i_bd l3
      have b26 := i_bd l4
      exact lp_183uw_123 (kk := kk) (nn := nn) (r1 := r1) h0 K _ _ (l2) (l3) (l4) (l5) rfl (zF_u (zF_u (zF_u hF rfl) rfl) rfl) hV23 (by omega) (by omega) (by omega) (by omega) (by omega) (by omega) (by omega) (by omega) (show (m 94 46).toInt ≤ 2999 from by omega) (show (m 102 l5.toNatClampNeg).toInt = l2.toInt from by omega) r_USn r_WN r_GW (by omega) r_GUp r_OW r_DXn (show zGG (m 94 58) (m 94 56) (m 94 57) ((ma_u m 106 l5.toNatClampNeg (2 : Int32)) 106) from by first | (exact fun z => G1_dark0 (r_GG z) (by decide)) | (exact fun z => absurd z (by omega)) | (exact fun z => absurd z (by decide)) | (exact fun z => absurd z (by omega)) | (exfalso; omega; done) | (exfalso; contradiction; done)) (show (m 94 58).toInt = 0 ∨ (m 94 10).toInt = 5 from by omega) r_HAs r_DCn r_RGc r_UQh
set_option maxHeartbeats 8000000 in
theorem lp_183uw_19 {X : Nat × (Nat → Int32)} {P : Option ma_V → (Nat → Nat → Int32) → Prop} {T : Nat} {kk : Int32} {nn : Int32} {r1 : Int32} {m0 : Nat → Nat → Int32} (h0 : zV m0) (K : ∀ v m₉, zF wr_183 m0 m₉ → zV m₉ → (zW (m₉ 94 7) (m₉ 98) (m₉ 101) (m₉ 102) (m₉ 108)) → (zGW (T + 1) (m₉ 94 55) (m₉ 109)) → (zGU (T + 1) (m₉ 94 46) (m₉ 99)) → (zOw (m₉ 99) (m₉ 103) (m₉ 111)) → (zDX (m₉ 94 10) (m₉ 99) (m₉ 112) (m₉ 113) (m₉ 114) (m₉ 94 55) (m₉ 98) (m₉ 101) (m₉ 102) (m₉ 108)) → (zGG (m₉ 94 58) (m₉ 94 56) (m₉ 94 57) (m₉ 106)) → (zHA (m₉ 94 10) (m₉ 94 11) (m₉ 94 13) (m₉ 94 14) (m₉ 94 16) (m₉ 94 61) (m₉ 94 59) (m₉ 94 60) (m₉ 99) (m₉ 102) (m₉ 103) (m₉ 111) (m₉ 117) (m₉ 98) (m₉ 101) (m₉ 108)) → (zRG (m₉ 94 10) (m₉ 94 18) (m₉ 94 64) (m₉ 94 63) (m₉ 99) (m₉ 103) (m₉ 102) (m₉ 116)) → ((m₉ 94 58).toInt = 0 ∨ (m₉ 94 10).toInt = 5) → (zUf (m0 94 46) (m0 99) (m₉ 99) (m0 100) (m₉ 100) (m0 108) (m₉ 108) (m0 98) (m0 101) (m₉ 98) (m₉ 101) (m₉ 102)) → P (some (.inl v)) m₉) : ∀ (n : Nat) (m : Nat → Nat → Int32) (l1 : Int32) (l2 : Int32) (l3 : Int32) (l4 : Int32) (l5 : Int32), (3100 - l5.toInt).toNat = n → zF wr_183 m0 m → zV m → (0 ≤ l5.toInt) → (l5.toInt ≤ 3100) → (0 ≤ l4.toInt) → (l4.toInt + l2.toInt ≤ 4599) → (0 ≤ l2.toInt) → (l2.toInt ≤ 60) → (0 ≤ l3.toInt) → (l3.toInt ≤ 15) → (0 ≤ l1.toInt) → (l1.toInt ≤ 17) → (T + 1 ≤ 3000) → (16 ≤ l1.toInt ∨ l1.toInt < (m 94 7).toInt) → (zW (m 94 7) (m 98) (m 101) (m 102) (m 108)) → (zGW T (m 94 55) (m 109)) → (zGU T (m 94 46) (m 99)) → (zOw (m 99) (m 103) (m 111)) → (zDX (m 94 10) (m 99) (m 112) (m 113) (m 114) (m 94 55) (m 98) (m 101) (m 102) (m 108)) → (zGG (m 94 58) (m 94 56) (m 94 57) (m 106)) → (zHA (m 94 10) (m 94 11) (m 94 13) (m 94 14) (m 94 16) (m 94 61) (m 94 59) (m 94 60) (m 99) (m 102) (m 103) (m 111) (m 117) (m 98) (m 101) (m 108)) → (zRG (m 94 10) (m 94 18) (m 94 64) (m 94 63) (m 99) (m 103) (m 102) (m 116)) → ((m 94 58).toInt = 0 ∨ (m 94 10).toInt = 5) → (zPL (m 94 10) (m 94 11) (m 94 13) (m 94 14) (m 94 61) (m 94 59) (m 94 60) (m 94 18) (m 94 64) (m 99) (m 102) (m 103) (m 111) l4 (l2 + (1 : Int32))) → (∀ j : Nat, (j : Int) < l5.toInt → (m 99) j ≠ 0) → (zUs (m0 99) (m 99)) → ((m 100) = (m0 100) ∧ (m 108) = (m0 108) ∧ (m 94 46) = (m0 94 46)) → zm X 9 198 183 19 [(0, .inr (.inr (some 94))), (1, .inl l1), (2, .inl l2), (3, .inl l3), (4, .inl l4), (5, .inl l5)] m P := by
  intro n
  induction n using Nat.strongRecOn with
  | _ n IH =>
    intro m l1 l2 l3 l4 l5 hmu hF hV hi0 hi1 hi2 hi3 hi4 hi5 hi6 hi7 hi8 hi9 hi10 hi11 r_W r_GW r_GU r_OW r_DX r_GG r_HA r_RGc hi20 r_PL r_AU r_UQs r_UQe
    refine g_183_19 l1 l2 l3 l4 l5 ?_
    have f1 : 0 ≤ (m 94 7).toInt ∧ (m 94 7).toInt ≤ 16 := rs_94_7 (m := m) hV
    have f2 : 0 ≤ (m 94 58).toInt ∧ (m 94 58).toInt ≤ 1 := rs_94_58 (m := m) hV
    have f3 : 0 ≤ (m 94 10).toInt ∧ (m 94 10).toInt ≤ 6 := rs_94_10 (m := m) hV
    have b4 := i_bd l5
    try have gk := AU_room r_AU r_GU (by omega)
    have hg5 : (0 ≤ l5 ∧ l5.toNatClampNeg < 3100) := i_ix (by omega) (by omega)
    refine ⟨hg5, ?_⟩
    first | have f6 : 0 ≤ (m 99 l5.toNatClampNeg).toInt ∧ (m 99 l5.toNatClampNeg).toInt ≤ 1 := ra_99 (m := m) hV (k := l5.toNatClampNeg) (i_ix (n := 3100) (by omega) (by omega)).2 | have b7 := i_bd (m 99 l5.toNatClampNeg)
    have li8 : (0 : Int32).toInt = 0 := rfl
    refine zd (fun (h9 : (m 99 l5.toNatClampNeg) = (0 : Int32)) => ?_) (fun (h9 : ¬ (m 99 l5.toNatClampNeg) = (0 : Int32)) => ?_)
    · skip
      have g10 := i_eq h9
      try have gk := AU_room r_AU r_GU (by omega)
      have hg11 : (0 ≤ l5 ∧ l5.toNatClampNeg < 3100) := i_ix (by omega) (by omega)
      refine ⟨hg11, ?_⟩
      have hg12 : (0 ≤ l5 ∧ l5.toNatClampNeg < 3100) := i_ix (by omega) (by omega)
      refine ⟨hg12, ?_⟩
      have hg13 : (0 ≤ l5 ∧ l5.toNatClampNeg < 3100) := i_ix (by omega) (by omega)
      refine ⟨hg13, ?_⟩
      have hg14 : (0 ≤ l5 ∧ l5.toNatClampNeg < 3100) := i_ix (by omega) (by omega)
      refine ⟨hg14, ?_⟩
      have hg15 : (0 ≤ l5 ∧ l5.toNatClampNeg < 3100) := i_ix (by omega) (by omega)
      refine ⟨hg15, ?_⟩
      have b16 := i_bd l4
      have hg17 : (0 ≤ l4 ∧ l4.toNatClampNeg < 4600) := i_ix (by omega) (by omega)
      refine ⟨hg17, ?_⟩
      try have gk := AU_room r_AU r_GU (by omega)
      try have e21 : (l2 + (1 : Int32)).toInt = l2.toInt + 1 := i_addk rfl (by omega) (by omega)
      try have gun := GU_nu r_GU
      have li19 : (1 : Int32).toInt = 1 := rfl
      have hV18 : zV (ma_u m 99 l5.toNatClampNeg (1 : Int32)) := ua_99 hV (by omega) (by omega)
      have f21 : 0 ≤ (m 94 46).toInt ∧ (m 94 46).toInt ≤ 100000 := rs_94_46 (m := m) hV
      have hV20 : zV (ma_u (ma_u m 99 l5.toNatClampNeg (1 : Int32)) 100 l5.toNatClampNeg (m 94 46)) := ua_100 hV18 (by omega) (by omega)
      have b23 := i_bd l1
      have hV22 : zV (ma_u (ma_u (ma_u m 99 l5.toNatClampNeg (1 : Int32)) 100 l5.toNatClampNeg (m 94 46)) 101 l5.toNatClampNeg l1) := ua_101 hV20 (by omega) (by omega)
      have b25 := i_bd l2
      have hV24 : zV (ma_u (ma_u (ma_u (ma_u m 99 l5.toNatClampNeg (1 : Int32)) 100 l5.toNatClampNeg (m 94 46)) 101 l5.toNatClampNeg l1) 102 l5.toNatClampNeg l2) := ua_102 hV22 (by omega) (by omega)
      have hV26 : zV (ma_u (ma_u (ma_u (ma_u (ma_u m 99 l5.toNatClampNeg (1 : Int32)) 100 l5.toNatClampNeg (m 94 46)) 101 l5.toNatClampNeg l1) 102 l5.toNatClampNeg l2) 103 l5.toNatClampNeg l4) := ua_103 hV24 (by omega) (by omega)
      have hV27 : zV (ma_u (ma_u (ma_u (ma_u (ma_u (ma_u m 99 l5.toNatClampNeg (1 : Int32)) 100 l5.toNatClampNeg (m 94 46)) 101 l5.toNatClampNeg l1) 102 l5.toNatClampNeg l2) 103 l5.toNatClampNeg l4) 111 l4.toNatClampNeg l5) := ua_111 hV26 (by omega) (by omega)
      have b28 := i_bd l3
      have q29 : ((ma_u m 102 l5.toNatClampNeg l2) 102 l5.toNatClampNeg).toInt = l2.toInt := congrArg Int32.toInt mu_self
      first | have f30 : 0 ≤ ((ma_u m 102 l5.toNatClampNeg l2) 102 l5.toNatClampNeg).toInt ∧ ((ma_u m 102 l5.toNatClampNeg l2) 102 l5.toNatClampNeg).toInt ≤ 60 := ra_102 (m := (ma_u (ma_u (ma_u (ma_u m 99 l5.toNatClampNeg (1 : Int32)) 100 l5.toNatClampNeg (m 94 46)) 101 l5.toNatClampNeg l1) 102 l5.toNatClampNeg l2)) hV24 (k := l5.toNatClampNeg) (i_ix (n := 3100) (by omega) (by omega)).2 | have b31 := i_bd ((ma_u m 102 l5.toNatClampNeg l2) 102 l5.toNatClampNeg)
      exact lp_183uw_88 (kk := kk) (nn := nn) (r1 := r1) h0 K _ _ (l2) (l3) (l4) (l5) rfl (zF_u (zF_u (zF_u (zF_u (zF_u (zF_u hF rfl) rfl) rfl) rfl) rfl) rfl) hV27 (by omega) (by omega) (by omega) (by omega) (by omega) (by omega) (by omega) (by omega) (by omega) (show (m 94 46).toInt ≤ 2999 from by omega) (show ((ma_u m 102 l5.toNatClampNeg l2) 102 l5.toNatClampNeg).toInt = l2.toInt from by omega) (show ((ma_u m 99 l5.toNatClampNeg (1 : Int32)) 99) l5.toNatClampNeg ≠ 0 from by first | (rw [mu_self]; decide; done) | (exfalso; omega; done) | (exfalso; contradiction; done)) (show zWn (m 94 7) (m 98) ((ma_u m 101 l5.toNatClampNeg l1) 101) ((ma_u m 102 l5.toNatClampNeg l2) 102) (m 108) l5.toNatClampNeg (0 : Int32).toNatClampNeg from by first | (exact Wn_0 r_W (fun t ht => mu_ne ht) (fun t ht => mu_ne ht) (by rw [mu_self]; assumption) rfl) | (exfalso; omega; done) | (exfalso; contradiction; done)) r_GW (show zGUp T (m 94 46) ((ma_u m 99 l5.toNatClampNeg (1 : Int32)) 99) from by first | (exact GUp_0 r_GU (by omega)) | (exfalso; omega; done) | (exfalso; contradiction; done)) (show zOw ((ma_u m 99 l5.toNatClampNeg (1 : Int32)) 99) ((ma_u m 103 l5.toNatClampNeg l4) 103) ((ma_u m 111 l4.toNatClampNeg l5) 111) from by first | (exact Ow_new r_OW (by assumption) (fun t ht => mu_ne ht) (by rw [mu_self]; decide) (fun t ht => mu_ne ht) mu_self (by omega) (fun t ht => mu_ne ht) (by rw [mu_self])) | (exact Ow_rm r_OW (by decide) (tn_cast (by omega)).symm) | (exfalso; omega; done) | (exfalso; contradiction; done)) (show zDX (m 94 10) (zmk ((ma_u m 99 l5.toNatClampNeg (1 : Int32)) 99) l5.toNatClampNeg) (m 112) (m 113) (m 114) (m 94 55) (m 98) ((ma_u m 101 l5.toNatClampNeg l1) 101) ((ma_u m 102 l5.toNatClampNeg l2) 102) (m 108) from by first | (exact DXn_0 r_DX (by assumption) (fun t ht => mu_ne ht) (fun t ht => mu_ne ht) (fun t ht => mu_ne ht)) | (exfalso; omega; done) | (exfalso; contradiction; done)) r_GG (show (m 94 58).toInt = 0 ∨ (m 94 10).toInt = 5 from by omega) (show zHAs (m 94 10) (m 94 11) (m 94 13) (m 94 14) (m 94 16) (m 94 61) (m 94 59) (m 94 60) ((ma_u m 99 l5.toNatClampNeg (1 : Int32)) 99) ((ma_u m 102 l5.toNatClampNeg l2) 102) ((ma_u m 103 l5.toNatClampNeg l4) 103) ((ma_u m 111 l4.toNatClampNeg l5) 111) from by first | (exact HAs_new r_HA r_PL (by omega) (by assumption) (by omega) (fun t ht => mu_ne ht) (by rw [mu_self]; decide) (fun t ht => mu_ne ht) (by rw [mu_self]; omega) (by rw [mu_self]; omega) (fun t ht => mu_ne ht) mu_self (fun t ht => mu_ne ht) (by rw [mu_self]) (by rw [mu_self]; omega) (fun t ht => (ra_103 hV ht).1) (fun t ht => (ra_102 hV ht).1)) | (exfalso; omega; done) | (exfalso; contradiction; done)) (show (m 94 10).toInt = 3 → zDC (m 94 14).toInt (m 94 16).toInt (zmk ((ma_u m 99 l5.toNatClampNeg (1 : Int32)) 99) l5.toNatClampNeg) ((ma_u m 103 l5.toNatClampNeg l4) 103) ((ma_u m 102 l5.toNatClampNeg l2) 102) (m 98) ((ma_u m 101 l5.toNatClampNeg l1) 101) (m 108) (m 117) from by first | (exact DCn_0 r_HA r_DX (by assumption) (fun t ht => mu_ne ht) (fun t ht => mu_ne ht) (fun t ht => mu_ne ht) (fun t ht => mu_ne ht)) | (exfalso; omega; done) | (exfalso; contradiction; done)) (show zRG (m 94 10) (m 94 18) (m 94 64) (m 94 63) ((ma_u m 99 l5.toNatClampNeg (1 : Int32)) 99) ((ma_u m 103 l5.toNatClampNeg l4) 103) ((ma_u m 102 l5.toNatClampNeg l2) 102) (m 116) from by first | (exact RG_new r_RGc r_PL (by omega) (fun t ht => mu_ne ht) (fun t ht => mu_ne ht) (by rw [mu_self]; omega) (fun t ht => mu_ne ht) mu_self) | (exfalso; omega; done) | (exfalso; contradiction; done)) (show zUh (m0 94 46) (m0 99) ((ma_u m 99 l5.toNatClampNeg (1 : Int32)) 99) (m0 100) ((ma_u m 100 l5.toNatClampNeg (m 94 46)) 100) (m0 108) (m 108) (m 98) ((ma_u m 101 l5.toNatClampNeg l1) 101) l5.toNatClampNeg (0 : Int32).toNatClampNeg from by first | (exact Uh_0 r_UQs r_UQe.1 r_UQe.2.1 (fun t ht => mu_ne ht) (fun t ht => mu_ne ht) (by rw [mu_self]; exact r_UQe.2.2) rfl) | (exfalso; omega; done) | (exfalso; contradiction; done))
    · skip
      have g32 := i_ne h9
      try have gk := AU_room r_AU r_GU (by omega)
      try have e21 : (l2 + (1 : Int32)).toInt = l2.toInt + 1 := i_addk rfl (by omega) (by omega)
      try have gun := GU_nu r_GU
      have b33 := i_bd l1
      have b34 := i_bd l2
      have b35 := i_bd l3
      have b36 := i_bd l4
      first | have e37 : (l5 + (1 : Int32)).toInt = l5.toInt + (1) := i_addk rfl (by omega) (by omega) | have b38 := i_bd (l5 + (1 : Int32))
      exact IH (3100 - (l5 + (1 : Int32)).toInt).toNat (by omega) _ (l1) (l2) (l3) (l4) ((l5 + (1 : Int32))) rfl hF hV (by omega) (by omega) (by omega) (by omega) (by omega) (by omega) (by omega) (by omega) (by omega) (by omega) (by omega) (show 16 ≤ l1.toInt ∨ l1.toInt < (m 94 7).toInt from by omega) r_W r_GW r_GU r_OW r_DX r_GG r_HA r_RGc (show (m 94 58).toInt = 0 ∨ (m 94 10).toInt = 5 from by omega) r_PL (show ∀ j : Nat, (j : Int) < (l5 + (1 : Int32)).toInt → (m 99) j ≠ 0 from by first | (exact AU_step r_AU (by omega) (by assumption) (by omega)) | (exfalso; omega; done) | (exfalso; contradiction; done)) r_UQs r_UQe
set_option maxHeartbeats 8000000 in
theorem sp_183uw {X : Nat × (Nat → Int32)} {P : Option ma_V → (Nat → Nat → Int32) → Prop} {T : Nat} {m : Nat → Nat → Int32} (kk : Int32) (nn : Int32) (r1 : Int32) (hV : zV m) (hpre0 : 0 ≤ nn.toInt) (hpre1 : nn.toInt ≤ 60) (hpre2 : 0 ≤ r1.toInt) (hpre3 : r1.toInt ≤ 15) (hpre4 : 0 ≤ kk.toInt) (hpre5 : kk.toInt ≤ 17) (hpre6 : T + 1 ≤ 3000) (hpre7 : 16 ≤ kk.toInt ∨ kk.toInt < (m 94 7).toInt) (r_W : zW (m 94 7) (m 98) (m 101) (m 102) (m 108)) (r_GW : zGW T (m 94 55) (m 109)) (r_GU : zGU T (m 94 46) (m 99)) (r_OW : zOw (m 99) (m 103) (m 111)) (r_DX : zDX (m 94 10) (m 99) (m 112) (m 113) (m 114) (m 94 55) (m 98) (m 101) (m 102) (m 108)) (r_GG : zGG (m 94 58) (m 94 56) (m 94 57) (m 106)) (r_HA : zHA (m 94 10) (m 94 11) (m 94 13) (m 94 14) (m 94 16) (m 94 61) (m 94 59) (m 94 60) (m 99) (m 102) (m 103) (m 111) (m 117) (m 98) (m 101) (m 108)) (r_RGc : zRG (m 94 10) (m 94 18) (m 94 64) (m 94 63) (m 99) (m 103) (m 102) (m 116)) (hpre16 : (m 94 58).toInt = 0 ∨ (m 94 10).toInt = 5) (KZ : ∀ v m₉, zV (zov wr_183 m m₉) → (zW (m 94 7) (m 98) (m₉ 101) (m₉ 102) (m₉ 108)) → (zGW (T + 1) (m₉ 94 55) (m₉ 109)) → (zGU (T + 1) (m₉ 94 46) (m₉ 99)) → (zOw (m₉ 99) (m₉ 103) (m₉ 111)) → (zDX (m 94 10) (m₉ 99) (m₉ 112) (m₉ 113) (m₉ 114) (m₉ 94 55) (m 98) (m₉ 101) (m₉ 102) (m₉ 108)) → (zGG (m₉ 94 58) (m₉ 94 56) (m₉ 94 57) (m₉ 106)) → (zHA (m 94 10) (m 94 11) (m 94 13) (m 94 14) (m 94 16) (m₉ 94 61) (m₉ 94 59) (m₉ 94 60) (m₉ 99) (m₉ 102) (m₉ 103) (m₉ 111) (m₉ 117) (m 98) (m₉ 101) (m₉ 108)) → (zRG (m 94 10) (m 94 18) (m 94 64) (m₉ 94 63) (m₉ 99) (m₉ 103) (m₉ 102) (m₉ 116)) → ((m₉ 94 58).toInt = 0 ∨ (m 94 10).toInt = 5) → (zUf (m 94 46) (m 99) (m₉ 99) (m 100) (m₉ 100) (m 108) (m₉ 108) (m 98) (m 101) (m 98) (m₉ 101) (m₉ 102)) → P (some (.inl v)) (zov wr_183 m m₉)) : zm X 9 198 183 0 [(0, .inr (.inr (some 94))), (1, .inl kk), (2, .inl nn), (3, .inl r1)] m P := by
  have K : ∀ v m₉, zF wr_183 m m₉ → zV m₉ → (zW (m₉ 94 7) (m₉ 98) (m₉ 101) (m₉ 102) (m₉ 108)) → (zGW (T + 1) (m₉ 94 55) (m₉ 109)) → (zGU (T + 1) (m₉ 94 46) (m₉ 99)) → (zOw (m₉ 99) (m₉ 103) (m₉ 111)) → (zDX (m₉ 94 10) (m₉ 99) (m₉ 112) (m₉ 113) (m₉ 114) (m₉ 94 55) (m₉ 98) (m₉ 101) (m₉ 102) (m₉ 108)) → (zGG (m₉ 94 58) (m₉ 94 56) (m₉ 94 57) (m₉ 106)) → (zHA (m₉ 94 10) (m₉ 94 11) (m₉ 94 13) (m₉ 94 14) (m₉ 94 16) (m₉ 94 61) (m₉ 94 59) (m₉ 94 60) (m₉ 99) (m₉ 102) (m₉ 103) (m₉ 111) (m₉ 117) (m₉ 98) (m₉ 101) (m₉ 108)) → (zRG (m₉ 94 10) (m₉ 94 18) (m₉ 94 64) (m₉ 94 63) (m₉ 99) (m₉ 103) (m₉ 102) (m₉ 116)) → ((m₉ 94 58).toInt = 0 ∨ (m₉ 94 10).toInt = 5) → (zUf (m 94 46) (m 99) (m₉ 99) (m 100) (m₉ 100) (m 108) (m₉ 108) (m 98) (m 101) (m₉ 98) (m₉ 101) (m₉ 102)) → P (some (.inl v)) m₉ := by
    intro v m₉ hf z q0 q1 q2 q3 q4 q5 q6 q7 q8 q9
    have e := zov_eq hf
    rw [e] at z ⊢
    try rw [e] at q0
    try rw [e] at q1
    try rw [e] at q2
    try rw [e] at q3
    try rw [e] at q4
    try rw [e] at q5
    try rw [e] at q6
    try rw [e] at q7
    try rw [e] at q8
    try rw [e] at q9
    exact KZ v m₉ z q0 q1 q2 q3 q4 q5 q6 q7 q8 q9
  refine g_183_0 kk nn r1 ?_
  have f1 : 0 ≤ (m 94 7).toInt ∧ (m 94 7).toInt ≤ 16 := rs_94_7 (m := m) hV
  have f2 : 0 ≤ (m 94 58).toInt ∧ (m 94 58).toInt ≤ 1 := rs_94_58 (m := m) hV
  have f3 : 0 ≤ (m 94 10).toInt ∧ (m 94 10).toInt ≤ 6 := rs_94_10 (m := m) hV
  have b4 := i_bd nn
  first | have e5 : (nn + (1 : Int32)).toInt = nn.toInt + (1) := i_addk rfl (by omega) (by omega) | have b6 := i_bd (nn + (1 : Int32))
  refine sp_184uw ((nn + (1 : Int32))) hV (by omega) (by omega) r_W r_GW r_GU r_OW r_DX r_GG r_HA r_RGc (show (m 94 58).toInt = 0 ∨ (m 94 10).toInt = 5 from by omega) (fun v2 m1 hV_m1 p0_m1 p1_m1 p2_m1 p3_m1 p4_m1 p5_m1 p6_m1 p7_m1 p8_m1 p9_m1 => zmi_n ?_)
  have p0_m1 : zGW T (m1 94 55) (m1 109) := p0_m1
  have p1_m1 : zGU T (m 94 46) (m1 99) := p1_m1
  have p2_m1 : zOw (m1 99) (m1 103) (m1 111) := p2_m1
  have p3_m1 : zDX (m 94 10) (m1 99) (m 112) (m1 113) (m1 114) (m1 94 55) (m 98) (m 101) (m 102) (m 108) := p3_m1
  have p4_m1 : zGG (m1 94 58) (m1 94 56) (m1 94 57) (m1 106) := p4_m1
  have p5_m1 : zHA (m 94 10) (m 94 11) (m 94 13) (m 94 14) (m 94 16) (m1 94 61) (m1 94 59) (m1 94 60) (m1 99) (m 102) (m1 103) (m1 111) (m1 117) (m 98) (m 101) (m 108) := p5_m1
  have p6_m1 : zRG (m 94 10) (m 94 18) (m 94 64) (m1 94 63) (m1 99) (m1 103) (m 102) (m1 116) := p6_m1
  have p7_m1 : (m1 94 58).toInt = 0 ∨ (m 94 10).toInt = 5 := p7_m1
  have p8_m1 : zPL (m 94 10) (m 94 11) (m 94 13) (m 94 14) (m1 94 61) (m1 94 59) (m1 94 60) (m 94 18) (m 94 64) (m1 99) (m 102) (m1 103) (m1 111) v2 (nn + (1 : Int32)) := p8_m1
  have p9_m1 : zUs (m 99) (m1 99) := p9_m1
  have f7 : 0 ≤ (m1 94 58).toInt ∧ (m1 94 58).toInt ≤ 1 := rs_94_58 (m := (zov wr_184 m m1)) hV_m1
  try have plx := PL_lo p8_m1
  have li8 : (0 : Int32).toInt = 0 := rfl
  have b9 := i_bd v2
  refine zd (fun (h10 : (0 : Int32) ≤ v2) => ?_) (fun (h10 : ¬ (0 : Int32) ≤ v2) => ?_)
  · skip
    have g11 := i_le h10
    try have e21 : (l2 + (1 : Int32)).toInt = l2.toInt + 1 := i_addk rfl (by omega) (by omega)
    try have gun := GU_nu p1_m1
    have b12 := i_bd kk
    have b13 := i_bd r1
    exact lp_183uw_19 (kk := kk) (nn := nn) (r1 := r1) hV K _ _ (kk) (nn) (r1) (v2) ((0 : Int32)) rfl (zF_zov zF_rfl ws_184_183) hV_m1 (by omega) (by omega) (by omega) (by omega) (by omega) (by omega) (by omega) (by omega) (by omega) (by omega) (by omega) (show 16 ≤ kk.toInt ∨ kk.toInt < (m 94 7).toInt from by omega) r_W p0_m1 p1_m1 p2_m1 p3_m1 p4_m1 p5_m1 p6_m1 (show (m1 94 58).toInt = 0 ∨ (m 94 10).toInt = 5 from by omega) p8_m1 (show ∀ j : Nat, (j : Int) < (0 : Int32).toInt → (m1 99) j ≠ 0 from by first | (intro j hj; omega; done) | (exfalso; omega; done) | (exfalso; contradiction; done)) p9_m1 (show (m 100) = (m 100) ∧ (m 108) = (m 108) ∧ (m 94 46) = (m 94 46) from by first | (exact ⟨rfl, rfl, rfl⟩) | (exfalso; omega; done) | (exfalso; contradiction; done))
  · skip
    have g14 := i_nle h10
    try have e21 : (l2 + (1 : Int32)).toInt = l2.toInt + 1 := i_addk rfl (by omega) (by omega)
    try have gun := GU_nu p1_m1
    have li15 : (-1 : Int32).toInt = -1 := rfl
    exact K ((-1 : Int32)) _ (zF_zov zF_rfl ws_184_183) hV_m1 r_W (show zGW (T + 1) (m1 94 55) (m1 109) from by first | (exact GW_up p0_m1 (by omega)) | (exfalso; omega; done) | (exfalso; contradiction; done)) (show zGU (T + 1) (m 94 46) (m1 99) from by first | (exact GU_up p1_m1 (by omega)) | (exact GU_0 p1_m1) | (exfalso; omega; done) | (exfalso; contradiction; done)) p2_m1 p3_m1 p4_m1 p5_m1 p6_m1 (show (m1 94 58).toInt = 0 ∨ (m 94 10).toInt = 5 from by omega) (show zUf (m 94 46) (m 99) (m1 99) (m 100) (m 100) (m 108) (m 108) (m 98) (m 101) (m 98) (m 101) (m 102) from by first | (exact Uf_us (Us_tr Us_rfl p9_m1) rfl rfl) | (exfalso; omega; done) | (exfalso; contradiction; done))

