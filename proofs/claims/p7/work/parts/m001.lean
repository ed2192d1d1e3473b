/-! from 95.zf0 -/
/-! the reference: words that got free (written by wip/tools/gen15f.py) -/
/-! words that got free: what is answered and what is there make what was there -/
theorem i_ws {n w x o : Int32} (h : n + w = o) : (n + x) + (w - x) = o := by
  rw [← h, Int32.sub_eq_add_neg, Int32.add_assoc, ← Int32.add_assoc x, Int32.add_comm x w, Int32.add_assoc w, ← Int32.sub_eq_add_neg, Int32.sub_self, Int32.add_zero]
theorem i_wt {a b n m w : Int32} (h : n + w = a) (g : m + a = b) : (m + n) + w = b := by
  rw [← g, ← h, Int32.add_assoc]
set_option maxHeartbeats 8000000 in
theorem lp_183af_142 {X : Nat × (Nat → Int32)} {P : Option ma_V → (Nat → Nat → Int32) → Prop} {T : Nat} {kk : Int32} {nn : Int32} {r1 : Int32} {m0 : Nat → Nat → Int32} (h0 : zV m0) (K : ∀ v m₉, zF wr_183 m0 m₉ → zV m₉ → (zW (m₉ 94 7) (m₉ 98) (m₉ 101) (m₉ 102) (m₉ 108)) → (zGW (T + 1) (m₉ 94 55) (m₉ 109)) → (zGU (T + 1) (m₉ 94 46) (m₉ 99)) → (zOw (m₉ 99) (m₉ 103) (m₉ 111)) → (zDX (m₉ 94 10) (m₉ 99) (m₉ 112) (m₉ 113) (m₉ 114) (m₉ 94 55) (m₉ 98) (m₉ 101) (m₉ 102) (m₉ 108)) → (zGG (m₉ 94 58) (m₉ 94 56) (m₉ 94 57) (m₉ 106)) → (zHA (m₉ 94 10) (m₉ 94 11) (m₉ 94 13) (m₉ 94 14) (m₉ 94 16) (m₉ 94 61) (m₉ 94 59) (m₉ 94 60) (m₉ 99) (m₉ 102) (m₉ 103) (m₉ 111) (m₉ 117) (m₉ 98) (m₉ 101) (m₉ 108)) → (zRG (m₉ 94 10) (m₉ 94 18) (m₉ 94 64) (m₉ 94 63) (m₉ 99) (m₉ 103) (m₉ 102) (m₉ 116)) → ((m₉ 94 58).toInt = 0 ∨ (m₉ 94 10).toInt = 5) → ((v = (m0 94 46) ∧ (m₉ 94 46) = (m0 94 46) + 1) ∨ (v = -1 ∧ (m₉ 94 46) = (m0 94 46))) → ((m₉ 94 0).toInt = (m0 94 0).toInt) → P (some (.inl v)) m₉) : ∀ (n : Nat) (m : Nat → Nat → Int32) (l2 : Int32) (l3 : Int32) (l4 : Int32) (l5 : Int32) (l6 : Int32), (61 - l6.toInt).toNat = n → zF wr_183 m0 m → zV m → (0 ≤ l2.toInt) → (l2.toInt ≤ 60) → (0 ≤ l3.toInt) → (l3.toInt ≤ 15) → (0 ≤ l4.toInt) → (l4.toInt + l2.toInt ≤ 4599) → (0 ≤ l5.toInt) → (l5.toInt ≤ 3099) → (0 ≤ l6.toInt) → ((m 94 46).toInt ≤ 2999) → ((m 102 l5.toNatClampNeg).toInt = l2.toInt) → ((m 99) l5.toNatClampNeg ≠ 0) → (zWn (m 94 7) (m 98) (m 101) (m 102) (m 108) l5.toNatClampNeg l6.toNatClampNeg) → (zGW (T + 1) (m 94 55) (m 109)) → (zGUp T (m 94 46) (m 99)) → (zOw (m 99) (m 103) (m 111)) → (zDX (m 94 10) (zmk (m 99) l5.toNatClampNeg) (m 112) (m 113) (m 114) (m 94 55) (m 98) (m 101) (m 102) (m 108)) → (zGG (m 94 58) (m 94 56) (m 94 57) (m 106)) → ((m 94 58).toInt = 0 ∨ (m 94 10).toInt = 5) → (zHAs (m 94 10) (m 94 11) (m 94 13) (m 94 14) (m 94 16) (m 94 61) (m 94 59) (m 94 60) (m 99) (m 102) (m 103) (m 111)) → ((m 94 10).toInt = 3 → zDC (m 94 14).toInt (m 94 16).toInt (zmk (m 99) l5.toNatClampNeg) (m 103) (m 102) (m 98) (m 101) (m 108) (m 117)) → (zRG (m 94 10) (m 94 18) (m 94 64) (m 94 63) (m 99) (m 103) (m 102) (m 116)) → ((m 100) l5.toNatClampNeg = (m0 94 46) ∧ (m 94 46) = (m0 94 46)) → ((m 94 0).toInt = (m0 94 0).toInt) → zm X 9 198 183 142 [(0, .inr (.inr (some 94))), (2, .inl l2), (3, .inl l3), (4, .inl l4), (5, .inl l5), (6, .inl l6)] m P := by
  intro n
  induction n using Nat.strongRecOn with
  | _ n IH =>
    intro m l2 l3 l4 l5 l6 hmu hF hV hi0 hi1 hi2 hi3 hi4 hi5 hi6 hi7 hi8 hi9 hi10 r_USn r_WN r_GW r_GUp r_OW r_DXn r_GG hi18 r_HAs r_DCn r_RGc r_NS5 hi23
    refine g_183_142 l2 l3 l4 l5 l6 ?_
    have f1 : 0 ≤ (m 94 46).toInt ∧ (m 94 46).toInt ≤ 100000 := rs_94_46 (m := m) hV
    have b2 := i_bd l5
    first | have f3 : 0 ≤ (m 102 l5.toNatClampNeg).toInt ∧ (m 102 l5.toNatClampNeg).toInt ≤ 60 := ra_102 (m := m) hV (k := l5.toNatClampNeg) (i_ix (n := 3100) (by omega) (by omega)).2 | have b4 := i_bd (m 102 l5.toNatClampNeg)
    have f5 : 0 ≤ (m 94 58).toInt ∧ (m 94 58).toInt ≤ 1 := rs_94_58 (m := m) hV
    have f6 : 0 ≤ (m 94 10).toInt ∧ (m 94 10).toInt ≤ 6 := rs_94_10 (m := m) hV
    have b7 := i_bd (m 94 0)
    have b8 := i_bd (m0 94 0)
    have b9 := i_bd l2
    have b10 := i_bd l6
    refine zd (fun (h11 : l2 ≤ l6) => ?_) (fun (h11 : ¬ l2 ≤ l6) => ?_)
    · skip
      have g12 := i_le h11
      have b13 := i_bd l3
      first | have e15 : ((m 94 46) + (1 : Int32)).toInt = (m 94 46).toInt + (1) := i_addk rfl (by omega) (by omega) | have b16 := i_bd ((m 94 46) + (1 : Int32))
      have hV14 : zV (ma_u m 94 46 ((m 94 46) + (1 : Int32))) := us_94_46 hV (by omega) (by omega)
      have hV17 : zV (ma_u (ma_u m 94 46 ((m 94 46) + (1 : Int32))) 94 44 ((m 94 44) + (1 : Int32))) := uf_94_44 hV14
      have hV18 : zV (ma_u (ma_u (ma_u m 94 46 ((m 94 46) + (1 : Int32))) 94 44 ((m 94 44) + (1 : Int32))) 94 45 ((m 94 45) + (l2 + (1 : Int32)))) := uf_94_45 hV17
      have b20 := i_bd l4
      first | have e21 : (l4 + l2).toInt = l4.toInt + l2.toInt := i_add (by omega) (by omega) | have b22 := i_bd (l4 + l2)
      first | have e23 : ((l4 + l2) + (1 : Int32)).toInt = (l4 + l2).toInt + (1) := i_addk rfl (by omega) (by omega) | have b24 := i_bd ((l4 + l2) + (1 : Int32))
      have hV19 : zV (ma_u (ma_u (ma_u (ma_u m 94 46 ((m 94 46) + (1 : Int32))) 94 44 ((m 94 44) + (1 : Int32))) 94 45 ((m 94 45) + (l2 + (1 : Int32)))) 94 62 ((l4 + l2) + (1 : Int32))) := us_94_62 hV18 (by omega) (by omega)
      refine sp_238 (T := (T + 1)) (l3) (l5) hV19 (by omega) (by omega) (by omega) (by omega) (show ((m 94 10).toInt = 2 ∨ (m 94 10).toInt = 3) → l5.toInt < 0 ∨ (m 99) l5.toNatClampNeg ≠ 0 from by first | (exact fun _ => Or.inr r_USn) | (exfalso; omega; done) | (exfalso; contradiction; done)) (show zW (m 94 7) (m 98) (m 101) (m 102) (m 108) from by first | (exact Wn_end r_WN (by rw [tn_cast (x := l6) (by omega)]; omega)) | (exfalso; omega; done) | (exfalso; contradiction; done)) r_GW (show zGU (T + 1) ((m 94 46) + (1 : Int32)) (m 99) from by first | (exact GUp_end r_GUp (by omega)) | (exfalso; omega; done) | (exfalso; contradiction; done)) r_OW (show zDX (m 94 10) (m 99) (m 112) (m 113) (m 114) (m 94 55) (m 98) (m 101) (m 102) (m 108) from by first | (exact DXn_end r_DXn r_WN (by rw [tn_cast (x := l6) (by omega)]; omega)) | (exfalso; omega; done) | (exfalso; contradiction; done)) r_GG (show zHA (m 94 10) (m 94 11) (m 94 13) (m 94 14) (m 94 16) (m 94 61) (m 94 59) (m 94 60) (m 99) (m 102) (m 103) (m 111) (m 117) (m 98) (m 101) (m 108) from by first | (exact HA_end r_HAs r_DCn r_WN (by rw [tn_cast (x := l6) (by omega)]; omega)) | (exfalso; omega; done) | (exfalso; contradiction; done)) r_RGc (show (m 94 58).toInt = 0 ∨ (m 94 10).toInt = 5 from by omega) (fun m1 hV_m1 p0_m1 p1_m1 p2_m1 p3_m1 p4_m1 p5_m1 p6_m1 p7_m1 => zmv_n ?_)
      have p0_m1 : zGW (T + 1) (m1 94 55) (m1 109) := p0_m1
      have p1_m1 : zGU (T + 1) ((m 94 46) + (1 : Int32)) (m1 99) := p1_m1
      have p2_m1 : zOw (m1 99) (m 103) (m1 111) := p2_m1
      have p3_m1 : zDX (m 94 10) (m1 99) (m1 112) (m1 113) (m1 114) (m1 94 55) (m 98) (m 101) (m 102) (m 108) := p3_m1
      have p4_m1 : zGG (m 94 58) (m1 94 56) (m 94 57) (m1 106) := p4_m1
      have p5_m1 : zHA (m 94 10) (m 94 11) (m 94 13) (m 94 14) (m 94 16) (m 94 61) (m 94 59) (m 94 60) (m1 99) (m 102) (m 103) (m1 111) (m 117) (m 98) (m 101) (m 108) := p5_m1
      have p6_m1 : zRG (m 94 10) (m 94 18) (m 94 64) (m 94 63) (m1 99) (m 103) (m 102) (m 116) := p6_m1
      have p7_m1 : (m 94 58).toInt = 0 ∨ (m 94 10).toInt = 5 := p7_m1
      have hg25 : (0 ≤ l5 ∧ l5.toNatClampNeg < 3100) := i_ix (by omega) (by omega)
      refine ⟨hg25, ?_⟩
      try have e21 : (l2 + (1 : Int32)).toInt = l2.toInt + 1 := i_addk rfl (by omega) (by omega)
      try have gun := GU_nu p1_m1
      first | have f26 : 0 ≤ (m 100 l5.toNatClampNeg).toInt ∧ (m 100 l5.toNatClampNeg).toInt ≤ 100000 := ra_100 (m := m) hV (k := l5.toNatClampNeg) (i_ix (n := 3100) (by omega) (by omega)).2 | have b27 := i_bd (m 100 l5.toNatClampNeg)
      exact K ((m 100 l5.toNatClampNeg)) _ (zF_zov (zF_u (zF_u (zF_u (zF_u hF rfl) rfl) rfl) rfl) ws_238_183) hV_m1 (show zW (m 94 7) (m 98) (m 101) (m 102) (m 108) from by first | (exact Wn_end r_WN (by rw [tn_cast (x := l6) (by omega)]; omega)) | (exfalso; omega; done) | (exfalso; contradiction; done)) p0_m1 p1_m1 p2_m1 p3_m1 p4_m1 p5_m1 p6_m1 (show (m 94 58).toInt = 0 ∨ (m 94 10).toInt = 5 from by omega) (show ((m 100 l5.toNatClampNeg) = (m0 94 46) ∧ ((m 94 46) + (1 : Int32)) = (m0 94 46) + 1) ∨ ((m 100 l5.toNatClampNeg) = -1 ∧ ((m 94 46) + (1 : Int32)) = (m0 94 46)) from by first | (exact Or.inr ⟨rfl, rfl⟩) | (exact Or.inl ⟨r_NS5.1, by rw [← r_NS5.2]⟩) | (exact Or.inl ⟨r_NS5.1, congrArg (· + 1) r_NS5.2⟩) | (exfalso; omega; done) | (exfalso; contradiction; done)) (show (m 94 0).toInt = (m0 94 0).toInt from by omega)
    · skip
      have g28 := i_nle h11
      have hg29 : (0 ≤ l5 ∧ l5.toNatClampNeg < 3100) := i_ix (by omega) (by omega)
      refine ⟨hg29, ?_⟩
      first | have f30 : 0 ≤ (m 101 l5.toNatClampNeg).toInt ∧ (m 101 l5.toNatClampNeg).toInt ≤ 17 := ra_101 (m := m) hV (k := l5.toNatClampNeg) (i_ix (n := 3100) (by omega) (by omega)).2 | have b31 := i_bd (m 101 l5.toNatClampNeg)
      have li32 : (16 : Int32).toInt = 16 := rfl
      refine zd (fun (h33 : (m 101 l5.toNatClampNeg) = (16 : Int32)) => ?_) (fun (h33 : ¬ (m 101 l5.toNatClampNeg) = (16 : Int32)) => ?_)
      · skip
        have g34 := i_eq h33
        have li35 : (60 : Int32).toInt = 60 := rfl
        first | have e36 : (l5 * (60 : Int32)).toInt = l5.toInt * 60 := i_mulk rfl (by omega) (by omega) | have b37 := i_bd (l5 * (60 : Int32))
        first | have e38 : ((l5 * (60 : Int32)) + l6).toInt = (l5 * (60 : Int32)).toInt + l6.toInt := i_add (by omega) (by omega) | have b39 := i_bd ((l5 * (60 : Int32)) + l6)
        have hg40 : (0 ≤ ((l5 * (60 : Int32)) + l6) ∧ ((l5 * (60 : Int32)) + l6).toNatClampNeg < 186000) := i_ix (by omega) (by omega)
        refine ⟨hg40, ?_⟩
        try have e21 : (l2 + (1 : Int32)).toInt = l2.toInt + 1 := i_addk rfl (by omega) (by omega)
        have hV41 : zV (ma_u m 108 ((l5 * (60 : Int32)) + l6).toNatClampNeg (-1 : Int32)) := ua_108 hV
        have b42 := i_bd l3
        have b43 := i_bd l4
        first | have e44 : (l6 + (1 : Int32)).toInt = l6.toInt + (1) := i_addk rfl (by omega) (by omega) | have b45 := i_bd (l6 + (1 : Int32))
        exact IH (61 - (l6 + (1 : Int32)).toInt).toNat (by omega) _ (l2) (l3) (l4) (l5) ((l6 + (1 : Int32))) rfl (zF_u hF rfl) hV41 (by omega) (by omega) (by omega) (by omega) (by omega) (by omega) (by omega) (by omega) (by omega) (show (m 94 46).toInt ≤ 2999 from by omega) (show (m 102 l5.toNatClampNeg).toInt = l2.toInt from by omega) r_USn (show zWn (m 94 7) (m 98) (m 101) (m 102) ((ma_u m 108 ((l5 * (60 : Int32)) + l6).toNatClampNeg (-1 : Int32)) 108) l5.toNatClampNeg (l6 + (1 : Int32)).toNatClampNeg from by first | (exact Wn_put r_WN (zrf_oth (ix_word (by omega) (by omega) (by omega) (by omega)) (by rw [tn_eq]; omega) (fun t ht => (ra_102 hV ht).2)) (zrf_bef (ix_word (by omega) (by omega) (by omega) (by omega))) (zrf_m1 (ix_word (by omega) (by omega) (by omega) (by omega)) rfl) (tn_succ (by omega) (by omega))) | (exact Wn_put r_WN (zrf_oth (ix_word (by omega) (by omega) (by omega) (by omega)) (by rw [tn_eq]; omega) (fun t ht => (ra_102 hV ht).2)) (zrf_bef (ix_word (by omega) (by omega) (by omega) (by omega))) (zrf_nr rfl (by omega) (by assumption) (fun z => by first | exact absurd (Int32.lt_iff_toInt_lt.mp z.1) (by omega) | exact absurd z.2 (by assumption))) (tn_succ (by omega) (by omega))) | (exfalso; omega; done) | (exfalso; contradiction; done)) r_GW r_GUp r_OW (show zDX (m 94 10) (zmk (m 99) l5.toNatClampNeg) (m 112) (m 113) (m 114) (m 94 55) (m 98) (m 101) (m 102) ((ma_u m 108 ((l5 * (60 : Int32)) + l6).toNatClampNeg (-1 : Int32)) 108) from by first | (exact DXn_put r_DXn (zrf_oth (ix_word (by omega) (by omega) (by omega) (by omega)) (by rw [tn_eq]; omega) (fun t ht => (ra_102 hV ht).2))) | (exfalso; omega; done) | (exfalso; contradiction; done)) r_GG (show (m 94 58).toInt = 0 ∨ (m 94 10).toInt = 5 from by omega) r_HAs (show (m 94 10).toInt = 3 → zDC (m 94 14).toInt (m 94 16).toInt (zmk (m 99) l5.toNatClampNeg) (m 103) (m 102) (m 98) (m 101) ((ma_u m 108 ((l5 * (60 : Int32)) + l6).toNatClampNeg (-1 : Int32)) 108) (m 117) from by first | (exact DCn_put r_DCn (zrf_oth (ix_word (by omega) (by omega) (by omega) (by omega)) (by rw [tn_eq]; omega) (fun t ht => (ra_102 hV ht).2))) | (exfalso; omega; done) | (exfalso; contradiction; done)) r_RGc r_NS5 (show (m 94 0).toInt = (m0 94 0).toInt from by omega)
      · skip
        have g46 := i_ne h33
        have hg47 : (0 ≤ l5 ∧ l5.toNatClampNeg < 3100) := i_ix (by omega) (by omega)
        refine ⟨hg47, ?_⟩
        refine zd (fun (h48 : (16 : Int32) ≤ (m 101 l5.toNatClampNeg)) => ?_) (fun (h48 : ¬ (16 : Int32) ≤ (m 101 l5.toNatClampNeg)) => ?_)
        · skip
          have g49 := i_le h48
          have li50 : (60 : Int32).toInt = 60 := rfl
          first | have e51 : (l5 * (60 : Int32)).toInt = l5.toInt * 60 := i_mulk rfl (by omega) (by omega) | have b52 := i_bd (l5 * (60 : Int32))
          first | have e53 : ((l5 * (60 : Int32)) + l6).toInt = (l5 * (60 : Int32)).toInt + l6.toInt := i_add (by omega) (by omega) | have b54 := i_bd ((l5 * (60 : Int32)) + l6)
          have hg55 : (0 ≤ ((l5 * (60 : Int32)) + l6) ∧ ((l5 * (60 : Int32)) + l6).toNatClampNeg < 186000) := i_ix (by omega) (by omega)
          refine ⟨hg55, ?_⟩
          try have e21 : (l2 + (1 : Int32)).toInt = l2.toInt + 1 := i_addk rfl (by omega) (by omega)
          have hV56 : zV (ma_u m 108 ((l5 * (60 : Int32)) + l6).toNatClampNeg (0 : Int32)) := ua_108 hV
          have b57 := i_bd l3
          have b58 := i_bd l4
          first | have e59 : (l6 + (1 : Int32)).toInt = l6.toInt + (1) := i_addk rfl (by omega) (by omega) | have b60 := i_bd (l6 + (1 : Int32))
          exact IH (61 - (l6 + (1 : Int32)).toInt).toNat (by omega) _ (l2) (l3) (l4) (l5) ((l6 + (1 : Int32))) rfl (zF_u hF rfl) hV56 (by omega) (by omega) (by omega) (by omega) (by omega) (by omega) (by omega) (by omega) (by omega) (show (m 94 46).toInt ≤ 2999 from by omega) (show (m 102 l5.toNatClampNeg).toInt = l2.toInt from by omega) r_USn (show zWn (m 94 7) (m 98) (m 101) (m 102) ((ma_u m 108 ((l5 * (60 : Int32)) + l6).toNatClampNeg (0 : Int32)) 108) l5.toNatClampNeg (l6 + (1 : Int32)).toNatClampNeg from by first | (exact Wn_put r_WN (zrf_oth (ix_word (by omega) (by omega) (by omega) (by omega)) (by rw [tn_eq]; omega) (fun t ht => (ra_102 hV ht).2)) (zrf_bef (ix_word (by omega) (by omega) (by omega) (by omega))) (zrf_m1 (ix_word (by omega) (by omega) (by omega) (by omega)) rfl) (tn_succ (by omega) (by omega))) | (exact Wn_put r_WN (zrf_oth (ix_word (by omega) (by omega) (by omega) (by omega)) (by rw [tn_eq]; omega) (fun t ht => (ra_102 hV ht).2)) (zrf_bef (ix_word (by omega) (by omega) (by omega) (by omega))) (zrf_nr rfl (by omega) (by assumption) (fun z => by first | exact absurd (Int32.lt_iff_toInt_lt.mp z.1) (by omega) | exact absurd z.2 (by assumption))) (tn_succ (by omega) (by omega))) | (exfalso; omega; done) | (exfalso; contradiction; done)) r_GW r_GUp r_OW (show zDX (m 94 10) (zmk (m 99) l5.toNatClampNeg) (m 112) (m 113) (m 114) (m 94 55) (m 98) (m 101) (m 102) ((ma_u m 108 ((l5 * (60 : Int32)) + l6).toNatClampNeg (0 : Int32)) 108) from by first | (exact DXn_put r_DXn (zrf_oth (ix_word (by omega) (by omega) (by omega) (by omega)) (by rw [tn_eq]; omega) (fun t ht => (ra_102 hV ht).2))) | (exfalso; omega; done) | (exfalso; contradiction; done)) r_GG (show (m 94 58).toInt = 0 ∨ (m 94 10).toInt = 5 from by omega) r_HAs (show (m 94 10).toInt = 3 → zDC (m 94 14).toInt (m 94 16).toInt (zmk (m 99) l5.toNatClampNeg) (m 103) (m 102) (m 98) (m 101) ((ma_u m 108 ((l5 * (60 : Int32)) + l6).toNatClampNeg (0 : Int32)) 108) (m 117) from by first | (exact DCn_put r_DCn (zrf_oth (ix_word (by omega) (by omega) (by omega) (by omega)) (by rw [tn_eq]; omega) (fun t ht => (ra_102 hV ht).2))) | (exfalso; omega; done) | (exfalso; contradiction; done)) r_RGc r_NS5 (show (m 94 0).toInt = (m0 94 0).toInt from by omega)
        · skip
          have g61 := i_nle h48
          have hg62 : (0 ≤ l5 ∧ l5.toNatClampNeg < 3100) := i_ix (by omega) (by omega)
          refine ⟨hg62, ?_⟩
          have hg63 : (0 ≤ (m 101 l5.toNatClampNeg) ∧ (m 101 l5.toNatClampNeg).toNatClampNeg < 16) := i_ix (by omega) (by omega)
          refine ⟨hg63, ?_⟩
          have b64 := i_bd (((m 98 (m 101 l5.toNatClampNeg).toNatClampNeg) >>> (l6 &&& 31)) &&& (1 : Int32))
          have li65 : (1 : Int32).toInt = 1 := rfl
          refine zd (fun (h66 : (((m 98 (m 101 l5.toNatClampNeg).toNatClampNeg) >>> (l6 &&& 31)) &&& (1 : Int32)) = (1 : Int32)) => ?_) (fun (h66 : ¬ (((m 98 (m 101 l5.toNatClampNeg).toNatClampNeg) >>> (l6 &&& 31)) &&& (1 : Int32)) = (1 : Int32)) => ?_)
          · skip
            have g67 := i_eq h66
            have li68 : (60 : Int32).toInt = 60 := rfl
            first | have e69 : (l5 * (60 : Int32)).toInt = l5.toInt * 60 := i_mulk rfl (by omega) (by omega) | have b70 := i_bd (l5 * (60 : Int32))
            first | have e71 : ((l5 * (60 : Int32)) + l6).toInt = (l5 * (60 : Int32)).toInt + l6.toInt := i_add (by omega) (by omega) | have b72 := i_bd ((l5 * (60 : Int32)) + l6)
            have hg73 : (0 ≤ ((l5 * (60 : Int32)) + l6) ∧ ((l5 * (60 : Int32)) + l6).toNatClampNeg < 186000) := i_ix (by omega) (by omega)
            refine ⟨hg73, ?_⟩
            try have e21 : (l2 + (1 : Int32)).toInt = l2.toInt + 1 := i_addk rfl (by omega) (by omega)
            have hV74 : zV (ma_u m 108 ((l5 * (60 : Int32)) + l6).toNatClampNeg (-1 : Int32)) := ua_108 hV
            have b75 := i_bd l3
            have b76 := i_bd l4
            first | have e77 : (l6 + (1 : Int32)).toInt = l6.toInt + (1) := i_addk rfl (by omega) (by omega) | have b78 := i_bd (l6 + (1 : Int32))
            exact IH (61 - (l6 + (1 : Int32)).toInt).toNat (by omega) _ (l2) (l3) (l4) (l5) ((l6 + (1 : Int32))) rfl (zF_u hF rfl) hV74 (by omega) (by omega) (by omega) (by omega) (by omega) (by omega) (by omega) (by omega) (by omega) (show (m 94 46).toInt ≤ 2999 from by omega) (show (m 102 l5.toNatClampNeg).toInt = l2.toInt from by omega) r_USn (show zWn (m 94 7) (m 98) (m 101) (m 102) ((ma_u m 108 ((l5 * (60 : Int32)) + l6).toNatClampNeg (-1 : Int32)) 108) l5.toNatClampNeg (l6 + (1 : Int32)).toNatClampNeg from by first | (exact Wn_put r_WN (zrf_oth (ix_word (by omega) (by omega) (by omega) (by omega)) (by rw [tn_eq]; omega) (fun t ht => (ra_102 hV ht).2)) (zrf_bef (ix_word (by omega) (by omega) (by omega) (by omega))) (zrf_m1 (ix_word (by omega) (by omega) (by omega) (by omega)) rfl) (tn_succ (by omega) (by omega))) | (exact Wn_put r_WN (zrf_oth (ix_word (by omega) (by omega) (by omega) (by omega)) (by rw [tn_eq]; omega) (fun t ht => (ra_102 hV ht).2)) (zrf_bef (ix_word (by omega) (by omega) (by omega) (by omega))) (zrf_nr rfl (by omega) (by assumption) (fun z => by first | exact absurd (Int32.lt_iff_toInt_lt.mp z.1) (by omega) | exact absurd z.2 (by assumption))) (tn_succ (by omega) (by omega))) | (exfalso; omega; done) | (exfalso; contradiction; done)) r_GW r_GUp r_OW (show zDX (m 94 10) (zmk (m 99) l5.toNatClampNeg) (m 112) (m 113) (m 114) (m 94 55) (m 98) (m 101) (m 102) ((ma_u m 108 ((l5 * (60 : Int32)) + l6).toNatClampNeg (-1 : Int32)) 108) from by first | (exact DXn_put r_DXn (zrf_oth (ix_word (by omega) (by omega) (by omega) (by omega)) (by rw [tn_eq]; omega) (fun t ht => (ra_102 hV ht).2))) | (exfalso; omega; done) | (exfalso; contradiction; done)) r_GG (show (m 94 58).toInt = 0 ∨ (m 94 10).toInt = 5 from by omega) r_HAs (show (m 94 10).toInt = 3 → zDC (m 94 14).toInt (m 94 16).toInt (zmk (m 99) l5.toNatClampNeg) (m 103) (m 102) (m 98) (m 101) ((ma_u m 108 ((l5 * (60 : Int32)) + l6).toNatClampNeg (-1 : Int32)) 108) (m 117) from by first | (exact DCn_put r_DCn (zrf_oth (ix_word (by omega) (by omega) (by omega) (by omega)) (by rw [tn_eq]; omega) (fun t ht => (ra_102 hV ht).2))) | (exfalso; omega; done) | (exfalso; contradiction; done)) r_RGc r_NS5 (show (m 94 0).toInt = (m0 94 0).toInt from by omega)
          · skip
            have g79 := i_ne h66
            have li80 : (60 : Int32).toInt = 60 := rfl
            first | have e81 : (l5 * (60 : Int32)).toInt = l5.toInt * 60 := i_mulk rfl (by omega) (by omega) | have b82 := i_bd (l5 * (60 : Int32))
            first | have e83 : ((l5 * (60 : Int32)) + l6).toInt = (l5 * (60 : Int32)).toInt + l6.toInt := i_add (by omega) (by omega) | have b84 := i_bd ((l5 * (60 : Int32)) + l6)
            have hg85 : (0 ≤ ((l5 * (60 : Int32)) + l6) ∧ ((l5 * (60 : Int32)) + l6).toNatClampNeg < 186000) := i_ix (by omega) (by omega)
            refine ⟨hg85, ?_⟩
            try have e21 : (l2 + (1 : Int32)).toInt = l2.toInt + 1 := i_addk rfl (by omega) (by omega)
            have hV86 : zV (ma_u m 108 ((l5 * (60 : Int32)) + l6).toNatClampNeg (0 : Int32)) := ua_108 hV
            have b87 := i_bd l3
            have b88 := i_bd l4
            first | have e89 : (l6 + (1 : Int32)).toInt = l6.toInt + (1) := i_addk rfl (by omega) (by omega) | have b90 := i_bd (l6 + (1 : Int32))
            exact IH (61 - (l6 + (1 : Int32)).toInt).toNat (by omega) _ (l2) (l3) (l4) (l5) ((l6 + (1 : Int32))) rfl (zF_u hF rfl) hV86 (by omega) (by omega) (by omega) (by omega) (by omega) (by omega) (by omega) (by omega) (by omega) (show (m 94 46).toInt ≤ 2999 from by omega) (show (m 102 l5.toNatClampNeg).toInt = l2.toInt from by omega) r_USn (show zWn (m 94 7) (m 98) (m 101) (m 102) ((ma_u m 108 ((l5 * (60 : Int32)) + l6).toNatClampNeg (0 : Int32)) 108) l5.toNatClampNeg (l6 + (1 : Int32)).toNatClampNeg from by first | (exact Wn_put r_WN (zrf_oth (ix_word (by omega) (by omega) (by omega) (by omega)) (by rw [tn_eq]; omega) (fun t ht => (ra_102 hV ht).2)) (zrf_bef (ix_word (by omega) (by omega) (by omega) (by omega))) (zrf_m1 (ix_word (by omega) (by omega) (by omega) (by omega)) rfl) (tn_succ (by omega) (by omega))) | (exact Wn_put r_WN (zrf_oth (ix_word (by omega) (by omega) (by omega) (by omega)) (by rw [tn_eq]; omega) (fun t ht => (ra_102 hV ht).2)) (zrf_bef (ix_word (by omega) (by omega) (by omega) (by omega))) (zrf_nr rfl (by omega) (by assumption) (fun z => by first | exact absurd (Int32.lt_iff_toInt_lt.mp z.1) (by omega) | exact absurd z.2 (by assumption))) (tn_succ (by omega) (by omega))) | (exfalso; omega; done) | (exfalso; contradiction; done)) r_GW r_GUp r_OW (show zDX (m 94 10) (zmk (m 99) l5.toNatClampNeg) (m 112) (m 113) (m 114) (m 94 55) (m 98) (m 101) (m 102) ((ma_u m 108 ((l5 * (60 : Int32)) + l6).toNatClampNeg (0 : Int32)) 108) from by first | (exact DXn_put r_DXn (zrf_oth (ix_word (by omega) (by omega) (by omega) (by omega)) (by rw [tn_eq]; omega) (fun t ht => (ra_102 hV ht).2))) | (exfalso; omega; done) | (exfalso; contradiction; done)) r_GG (show (m 94 58).toInt = 0 ∨ (m 94 10).toInt = 5 from by omega) r_HAs (show (m 94 10).toInt = 3 → zDC (m 94 14).toInt (m 94 16).toInt (zmk (m 99) l5.toNatClampNeg) (m 103) (m 102) (m 98) (m 101) ((ma_u m 108 ((l5 * (60 : Int32)) + l6).toNatClampNeg (0 : Int32)) 108) (m 117) from by first | (exact DCn_put r_DCn (zrf_oth (ix_word (by omega) (by omega) (by omega) (by omega)) (by rw [tn_eq]; omega) (fun t ht => (ra_102 hV ht).2))) | (exfalso; omega; done) | (exfalso; contradiction; done)) r_RGc r_NS5 (show (m 94 0).toInt = (m0 94 0).toInt from by omega)
set_option maxHeartbeats 8000000 in
theorem lp_183af_123 {X : Nat × (Nat → Int32)} {P : Option ma_V → (Nat → Nat → Int32) → Prop} {T : Nat} {kk : Int32} {nn : Int32} {r1 : Int32} {m0 : Nat → Nat → Int32} (h0 : zV m0) (K : ∀ v m₉, zF wr_183 m0 m₉ → zV m₉ → (zW (m₉ 94 7) (m₉ 98) (m₉ 101) (m₉ 102) (m₉ 108)) → (zGW (T + 1) (m₉ 94 55) (m₉ 109)) → (zGU (T + 1) (m₉ 94 46) (m₉ 99)) → (zOw (m₉ 99) (m₉ 103) (m₉ 111)) → (zDX (m₉ 94 10) (m₉ 99) (m₉ 112) (m₉ 113) (m₉ 114) (m₉ 94 55) (m₉ 98) (m₉ 101) (m₉ 102) (m₉ 108)) → (zGG (m₉ 94 58) (m₉ 94 56) (m₉ 94 57) (m₉ 106)) → (zHA (m₉ 94 10) (m₉ 94 11) (m₉ 94 13) (m₉ 94 14) (m₉ 94 16) (m₉ 94 61) (m₉ 94 59) (m₉ 94 60) (m₉ 99) (m₉ 102) (m₉ 103) (m₉ 111) (m₉ 117) (m₉ 98) (m₉ 101) (m₉ 108)) → (zRG (m₉ 94 10) (m₉ 94 18) (m₉ 94 64) (m₉ 94 63) (m₉ 99) (m₉ 103) (m₉ 102) (m₉ 116)) → ((m₉ 94 58).toInt = 0 ∨ (m₉ 94 10).toInt = 5) → ((v = (m0 94 46) ∧ (m₉ 94 46) = (m0 94 46) + 1) ∨ (v = -1 ∧ (m₉ 94 46) = (m0 94 46))) → ((m₉ 94 0).toInt = (m0 94 0).toInt) → P (some (.inl v)) m₉) : ∀ (n : Nat) (m : Nat → Nat → Int32) (l2 : Int32) (l3 : Int32) (l4 : Int32) (l5 : Int32), ((0 : Int)).toNat = n → zF wr_183 m0 m → zV m → (0 ≤ l2.toInt) → (l2.toInt ≤ 60) → (0 ≤ l3.toInt) → (l3.toInt ≤ 15) → (0 ≤ l4.toInt) → (l4.toInt + l2.toInt ≤ 4599) → (0 ≤ l5.toInt) → (l5.toInt ≤ 3099) → ((m 94 46).toInt ≤ 2999) → ((m 102 l5.toNatClampNeg).toInt = l2.toInt) → ((m 99) l5.toNatClampNeg ≠ 0) → (zWn (m 94 7) (m 98) (m 101) (m 102) (m 108) l5.toNatClampNeg (0 : Int32).toNatClampNeg) → (zGW T (m 94 55) (m 109)) → (T + 1 ≤ 3000) → (zGUp T (m 94 46) (m 99)) → (zOw (m 99) (m 103) (m 111)) → (zDX (m 94 10) (zmk (m 99) l5.toNatClampNeg) (m 112) (m 113) (m 114) (m 94 55) (m 98) (m 101) (m 102) (m 108)) → (zGG (m 94 58) (m 94 56) (m 94 57) (m 106)) → ((m 94 58).toInt = 0 ∨ (m 94 10).toInt = 5) → (zHAs (m 94 10) (m 94 11) (m 94 13) (m 94 14) (m 94 16) (m 94 61) (m 94 59) (m 94 60) (m 99) (m 102) (m 103) (m 111)) → ((m 94 10).toInt = 3 → zDC (m 94 14).toInt (m 94 16).toInt (zmk (m 99) l5.toNatClampNeg) (m 103) (m 102) (m 98) (m 101) (m 108) (m 117)) → (zRG (m 94 10) (m 94 18) (m 94 64) (m 94 63) (m 99) (m 103) (m 102) (m 116)) → ((m 100) l5.toNatClampNeg = (m0 94 46) ∧ (m 94 46) = (m0 94 46)) → ((m 94 0).toInt = (m0 94 0).toInt) → zm X 9 198 183 123 [(0, .inr (.inr (some 94))), (2, .inl l2), (3, .inl l3), (4, .inl l4), (5, .inl l5)] m P := by
  intro n
  induction n using Nat.strongRecOn with
  | _ n IH =>
    intro m l2 l3 l4 l5 hmu hF hV hi0 hi1 hi2 hi3 hi4 hi5 hi6 hi7 hi8 hi9 r_USn r_WN r_GW hi13 r_GUp r_OW r_DXn r_GG hi18 r_HAs r_DCn r_RGc r_NS5 hi23
    refine g_183_123 l2 l3 l4 l5 ?_
    have f1 : 0 ≤ (m 94 46).toInt ∧ (m 94 46).toInt ≤ 100000 := rs_94_46 (m := m) hV
    have b2 := i_bd l5
    first | have f3 : 0 ≤ (m 102 l5.toNatClampNeg).toInt ∧ (m 102 l5.toNatClampNeg).toInt ≤ 60 := ra_102 (m := m) hV (k := l5.toNatClampNeg) (i_ix (n := 3100) (by omega) (by omega)).2 | have b4 := i_bd (m 102 l5.toNatClampNeg)
    have f5 : 0 ≤ (m 94 58).toInt ∧ (m 94 58).toInt ≤ 1 := rs_94_58 (m := m) hV
    have f6 : 0 ≤ (m 94 10).toInt ∧ (m 94 10).toInt ≤ 6 := rs_94_10 (m := m) hV
    have b7 := i_bd (m 94 0)
    have b8 := i_bd (m0 94 0)
    have hg9 : (0 ≤ l5 ∧ l5.toNatClampNeg < 3100) := i_ix (by omega) (by omega)
    refine ⟨hg9, ?_⟩
    have hg10 : (0 ≤ l5 ∧ l5.toNatClampNeg < 3100) := i_ix (by omega) (by omega)
    refine ⟨hg10, ?_⟩
    try have e21 : (l2 + (1 : Int32)).toInt = l2.toInt + 1 := i_addk rfl (by omega) (by omega)
    have hV11 : zV (ma_u m 107 l5.toNatClampNeg (0 : Int32)) := ua_107 hV
    have li13 : (0 : Int32).toInt = 0 := rfl
    have hV12 : zV (ma_u (ma_u m 107 l5.toNatClampNeg (0 : Int32)) 109 l5.toNatClampNeg (0 : Int32)) := ua_109 hV11 (by omega) (by omega)
    have b14 := i_bd l2
    have b15 := i_bd l3
    have b16 := i_bd l4
    exact lp_183af_142 (kk := kk) (nn := nn) (r1 := r1) h0 K _ _ (l2) (l3) (l4) (l5) ((0 : Int32)) rfl (zF_u (zF_u hF rfl) rfl) hV12 (by omega) (by omega) (by omega) (by omega) (by omega) (by omega) (by omega) (by omega) (by omega) (show (m 94 46).toInt ≤ 2999 from by omega) (show (m 102 l5.toNatClampNeg).toInt = l2.toInt from by omega) r_USn r_WN (show zGW (T + 1) (m 94 55) ((ma_u m 109 l5.toNatClampNeg (0 : Int32)) 109) from by first | (exact GW_up (GW_0 r_GW) (by omega)) | (exfalso; omega; done) | (exfalso; contradiction; done)) r_GUp r_OW r_DXn r_GG (show (m 94 58).toInt = 0 ∨ (m 94 10).toInt = 5 from by omega) r_HAs r_DCn r_RGc r_NS5 (show (m 94 0).toInt = (m0 94 0).toInt from by omega)
set_option maxHeartbeats 8000000 in
theorem lp_183af_88 {X : Nat × (Nat → Int32)} {P : Option ma_V → (Nat → Nat → Int32) → Prop} {T : Nat} {kk : Int32} {nn : Int32} {r1 : Int32} {m0 : Nat → Nat → Int32} (h0 : zV m0) (K : ∀ v m₉, zF wr_183 m0 m₉ → zV m₉ → (zW (m₉ 94 7) (m₉ 98) (m₉ 101) (m₉ 102) (m₉ 108)) → (zGW (T + 1) (m₉ 94 55) (m₉ 109)) → (zGU (T + 1) (m₉ 94 46) (m₉ 99)) → (zOw (m₉ 99) (m₉ 103) (m₉ 111)) → (zDX (m₉ 94 10) (m₉ 99) (m₉ 112) (m₉ 113) (m₉ 114) (m₉ 94 55) (m₉ 98) (m₉ 101) (m₉ 102) (m₉ 108)) → (zGG (m₉ 94 58) (m₉ 94 56) (m₉ 94 57) (m₉ 106)) → (zHA (m₉ 94 10) (m₉ 94 11) (m₉ 94 13) (m₉ 94 14) (m₉ 94 16) (m₉ 94 61) (m₉ 94 59) (m₉ 94 60) (m₉ 99) (m₉ 102) (m₉ 103) (m₉ 111) (m₉ 117) (m₉ 98) (m₉ 101) (m₉ 108)) → (zRG (m₉ 94 10) (m₉ 94 18) (m₉ 94 64) (m₉ 94 63) (m₉ 99) (m₉ 103) (m₉ 102) (m₉ 116)) → ((m₉ 94 58).toInt = 0 ∨ (m₉ 94 10).toInt = 5) → ((v = (m0 94 46) ∧ (m₉ 94 46) = (m0 94 46) + 1) ∨ (v = -1 ∧ (m₉ 94 46) = (m0 94 46))) → ((m₉ 94 0).toInt = (m0 94 0).toInt) → P (some (.inl v)) m₉) : ∀ (n : Nat) (m : Nat → Nat → Int32) (l2 : Int32) (l3 : Int32) (l4 : Int32) (l5 : Int32), ((0 : Int)).toNat = n → zF wr_183 m0 m → zV m → (0 ≤ l2.toInt) → (l2.toInt ≤ 60) → (0 ≤ l3.toInt) → (l3.toInt ≤ 15) → (0 ≤ l4.toInt) → (l4.toInt + l2.toInt ≤ 4599) → (0 ≤ l5.toInt) → (l5.toInt ≤ 3099) → (T + 1 ≤ 3000) → ((m 94 46).toInt ≤ 2999) → ((m 102 l5.toNatClampNeg).toInt = l2.toInt) → ((m 99) l5.toNatClampNeg ≠ 0) → (zWn (m 94 7) (m 98) (m 101) (m 102) (m 108) l5.toNatClampNeg (0 : Int32).toNatClampNeg) → (zGW T (m 94 55) (m 109)) → (zGUp T (m 94 46) (m 99)) → (zOw (m 99) (m 103) (m 111)) → (zDX (m 94 10) (zmk (m 99) l5.toNatClampNeg) (m 112) (m 113) (m 114) (m 94 55) (m 98) (m 101) (m 102) (m 108)) → (zGG (m 94 58) (m 94 56) (m 94 57) (m 106)) → ((m 94 58).toInt = 0 ∨ (m 94 10).toInt = 5) → (zHAs (m 94 10) (m 94 11) (m 94 13) (m 94 14) (m 94 16) (m 94 61) (m 94 59) (m 94 60) (m 99) (m 102) (m 103) (m 111)) → ((m 94 10).toInt = 3 → zDC (m 94 14).toInt (m 94 16).toInt (zmk (m 99) l5.toNatClampNeg) (m 103) (m 102) (m 98) (m 101) (m 108) (m 117)) → (zRG (m 94 10) (m 94 18) (m 94 64) (m 94 63) (m 99) (m 103) (m 102) (m 116)) → ((m 100) l5.toNatClampNeg = (m0 94 46) ∧ (m 94 46) = (m0 94 46)) → ((m 94 0).toInt = (m0 94 0).toInt) → zm X 9 198 183 88 [(0, .inr (.inr (some 94))), (2, .inl l2), (3, .inl l3), (4, .inl l4), (5, .inl l5)] m P := by
  intro n
  induction n using Nat.strongRecOn with
  | _ n IH =>
    intro m l2 l3 l4 l5 hmu hF hV hi0 hi1 hi2 hi3 hi4 hi5 hi6 hi7 hi8 hi9 hi10 r_USn r_WN r_GW r_GUp r_OW r_DXn r_GG hi18 r_HAs r_DCn r_RGc r_NS5 hi23
    refine g_183_88 l2 l3 l4 l5 ?_
    have f1 : 0 ≤ (m 94 46).toInt ∧ (m 94 46).toInt ≤ 100000 := rs_94_46 (m := m) hV
    have b2 := i_bd l5
    first | have f3 : 0 ≤ (m 102 l5.toNatClampNeg).toInt ∧ (m 102 l5.toNatClampNeg).toInt ≤ 60 := ra_102 (m := m) hV (k := l5.toNatClampNeg) (i_ix (n := 3100) (by omega) (by omega)).2 | have b4 := i_bd (m 102 l5.toNatClampNeg)
    have f5 : 0 ≤ (m 94 58).toInt ∧ (m 94 58).toInt ≤ 1 := rs_94_58 (m := m) hV
    have f6 : 0 ≤ (m 94 10).toInt ∧ (m 94 10).toInt ≤ 6 := rs_94_10 (m := m) hV
    have b7 := i_bd (m 94 0)
    have b8 := i_bd (m0 94 0)
    have hg9 : (0 ≤ l5 ∧ l5.toNatClampNeg < 3100) := i_ix (by omega) (by omega)
    refine ⟨hg9, ?_⟩
    have hg10 : (0 ≤ l5 ∧ l5.toNatClampNeg < 3100) := i_ix (by omega) (by omega)
    refine ⟨hg10, ?_⟩
    have li11 : (0 : Int32).toInt = 0 := rfl
    refine zd (fun (h12 : (m 94 58) = (0 : Int32)) => ?_) (fun (h12 : ¬ (m 94 58) = (0 : Int32)) => ?_)
    · skip
      have g13 := i_eq h12
      have hg14 : (0 ≤ l5 ∧ l5.toNatClampNeg < 3100) := i_ix (by omega) (by omega)
      refine ⟨hg14, ?_⟩
      try have e21 : (l2 + (1 : Int32)).toInt = l2.toInt + 1 := i_addk rfl (by omega) (by omega)
      have hV15 : zV (ma_u m 104 l5.toNatClampNeg (0 : Int32)) := ua_104 hV
      have hV16 : zV (ma_u (ma_u m 104 l5.toNatClampNeg (0 : Int32)) 105 l5.toNatClampNeg (0 : Int32)) := ua_105 hV15
      have hV17 : zV (ma_u (ma_u (ma_u m 104 l5.toNatClampNeg (0 : Int32)) 105 l5.toNatClampNeg (0 : Int32)) 106 l5.toNatClampNeg (0 : Int32)) := ua_106 hV16
      have b18 := i_bd l2
      have b19 := i_bd l3
      have b20 := i_bd l4
      exact lp_183af_123 (kk := kk) (nn := nn) (r1 := r1) h0 K _ _ (l2) (l3) (l4) (l5) rfl (zF_u (zF_u (zF_u hF rfl) rfl) rfl) hV17 (by omega) (by omega) (by omega) (by omega) (by omega) (by omega) (by omega) (by omega) (show (m 94 46).toInt ≤ 2999 from by omega) (show (m 102 l5.toNatClampNeg).toInt = l2.toInt from by omega) r_USn r_WN r_GW (by omega) r_GUp r_OW r_DXn (show zGG (m 94 58) (m 94 56) (m 94 57) ((ma_u m 106 l5.toNatClampNeg (0 : Int32)) 106) from by first | (exact fun z => G1_dark0 (r_GG z) (by decide)) | (exact fun z => absurd z (by omega)) | (exact fun z => absurd z (by decide)) | (exact fun z => absurd z (by omega)) | (exfalso; omega; done) | (exfalso; contradiction; done)) (show (m 94 58).toInt = 0 ∨ (m 94 10).toInt = 5 from by omega) r_HAs r_DCn r_RGc r_NS5 (show (m 94 0).toInt = (m0 94 0).toInt from by omega)
    · skip
      have g21 := i_ne h12
      have hg22 : (0 ≤ l5 ∧ l5.toNatClampNeg < 3100) := i_ix (by omega) (by omega)
      refine ⟨hg22, ?_⟩
      try have e21 : (l2 + (1 : Int32)).toInt = l2.toInt + 1 := i_addk rfl (by omega) (by omega)
      have hV23 : zV (ma_u m 104 l5.toNatClampNeg (0 : Int32)) := ua_104 hV
      have hV24 : zV (ma_u (ma_u m 104 l5.toNatClampNeg (0 : Int32)) 105 l5.toNatClampNeg (0 : Int32)) := ua_105 hV23
      have hV25 : zV (ma_u (ma_u (ma_u m 104 l5.toNatClampNeg (0 : Int32)) 105 l5.toNatClampNeg (0 : Int32)) 106 l5.toNatClampNeg (2 : Int32)) := ua_106 hV24
      have b26 := i_bd l2
      have b27 := i_bd l3
      have b28 := i_bd l4
      exact lp_183af_123 (kk := kk) (nn := nn) (r1 := r1) h0 K _ _ (l2) (l3) (l4) (l5) rfl (zF_u (zF_u (zF_u hF rfl) rfl) rfl) hV25 (by omega) (by omega) (by omega) (by omega) (by omega) (by omega) (by omega) (by omega) (show (m 94 46).toInt ≤ 2999 from by omega) (show (m 102 l5.toNatClampNeg).toInt = l2.toInt from by omega) r_USn r_WN r_GW (by omega) r_GUp r_OW r_DXn (show zGG (m 94 58) (m 94 56) (m 94 57) ((ma_u m 106 l5.toNatClampNeg (2 : Int32)) 106) from by first | (exact fun z => G1_dark0 (r_GG z) (by decide)) | (exact fun z => absurd z (by omega)) | (exact fun z => absurd z (by decide)) | (exact fun z => absurd z (by omega)) | (exfalso; omega; done) | (exfalso; contradiction; done)) (show (m 94 58).toInt = 0 ∨ (m 94 10).toInt = 5 from by omega) r_HAs r_DCn r_RGc r_NS5 (show (m 94 0).toInt = (m0 94 0).toInt from by omega)
set_option maxHeartbeats 8000000 in
theorem lp_183af_19 {X : Nat × (Nat → Int32)} {P : Option ma_V → (Nat → Nat → Int32) → Prop} {T : Nat} {kk : Int32} {nn : Int32} {r1 : Int32} {m0 : Nat → Nat → Int32} (h0 : zV m0) (K : ∀ v m₉, zF wr_183 m0 m₉ → zV m₉ → (zW (m₉ 94 7) (m₉ 98) (m₉ 101) (m₉ 102) (m₉ 108)) → (zGW (T + 1) (m₉ 94 55) (m₉ 109)) → (zGU (T + 1) (m₉ 94 46) (m₉ 99)) → (zOw (m₉ 99) (m₉ 103) (m₉ 111)) → (zDX (m₉ 94 10) (m₉ 99) (m₉ 112) (m₉ 113) (m₉ 114) (m₉ 94 55) (m₉ 98) (m₉ 101) (m₉ 102) (m₉ 108)) → (zGG (m₉ 94 58) (m₉ 94 56) (m₉ 94 57) (m₉ 106)) → (zHA (m₉ 94 10) (m₉ 94 11) (m₉ 94 13) (m₉ 94 14) (m₉ 94 16) (m₉ 94 61) (m₉ 94 59) (m₉ 94 60) (m₉ 99) (m₉ 102) (m₉ 103) (m₉ 111) (m₉ 117) (m₉ 98) (m₉ 101) (m₉ 108)) → (zRG (m₉ 94 10) (m₉ 94 18) (m₉ 94 64) (m₉ 94 63) (m₉ 99) (m₉ 103) (m₉ 102) (m₉ 116)) → ((m₉ 94 58).toInt = 0 ∨ (m₉ 94 10).toInt = 5) → ((v = (m0 94 46) ∧ (m₉ 94 46) = (m0 94 46) + 1) ∨ (v = -1 ∧ (m₉ 94 46) = (m0 94 46))) → ((m₉ 94 0).toInt = (m0 94 0).toInt) → P (some (.inl v)) m₉) : ∀ (n : Nat) (m : Nat → Nat → Int32) (l1 : Int32) (l2 : Int32) (l3 : Int32) (l4 : Int32) (l5 : Int32), (3100 - l5.toInt).toNat = n → zF wr_183 m0 m → zV m → (0 ≤ l5.toInt) → (l5.toInt ≤ 3100) → (0 ≤ l4.toInt) → (l4.toInt + l2.toInt ≤ 4599) → (0 ≤ l2.toInt) → (l2.toInt ≤ 60) → (0 ≤ l3.toInt) → (l3.toInt ≤ 15) → (0 ≤ l1.toInt) → (l1.toInt ≤ 17) → (T + 1 ≤ 3000) → (16 ≤ l1.toInt ∨ l1.toInt < (m 94 7).toInt) → (zW (m 94 7) (m 98) (m 101) (m 102) (m 108)) → (zGW T (m 94 55) (m 109)) → (zGU T (m 94 46) (m 99)) → (zOw (m 99) (m 103) (m 111)) → (zDX (m 94 10) (m 99) (m 112) (m 113) (m 114) (m 94 55) (m 98) (m 101) (m 102) (m 108)) → (zGG (m 94 58) (m 94 56) (m 94 57) (m 106)) → (zHA (m 94 10) (m 94 11) (m 94 13) (m 94 14) (m 94 16) (m 94 61) (m 94 59) (m 94 60) (m 99) (m 102) (m 103) (m 111) (m 117) (m 98) (m 101) (m 108)) → (zRG (m 94 10) (m 94 18) (m 94 64) (m 94 63) (m 99) (m 103) (m 102) (m 116)) → ((m 94 58).toInt = 0 ∨ (m 94 10).toInt = 5) → (zPL (m 94 10) (m 94 11) (m 94 13) (m 94 14) (m 94 61) (m 94 59) (m 94 60) (m 94 18) (m 94 64) (m 99) (m 102) (m 103) (m 111) l4 (l2 + (1 : Int32))) → (∀ j : Nat, (j : Int) < l5.toInt → (m 99) j ≠ 0) → ((m 94 46) = (m0 94 46)) → ((m 94 0).toInt = (m0 94 0).toInt) → zm X 9 198 183 19 [(0, .inr (.inr (some 94))), (1, .inl l1), (2, .inl l2), (3, .inl l3), (4, .inl l4), (5, .inl l5)] m P := by
  intro n
  induction n using Nat.strongRecOn with
  | _ n IH =>
    intro m l1 l2 l3 l4 l5 hmu hF hV hi0 hi1 hi2 hi3 hi4 hi5 hi6 hi7 hi8 hi9 hi10 hi11 r_W r_GW r_GU r_OW r_DX r_GG r_HA r_RGc hi20 r_PL r_AU r_N46 hi24
    refine g_183_19 l1 l2 l3 l4 l5 ?_
    have f1 : 0 ≤ (m 94 7).toInt ∧ (m 94 7).toInt ≤ 16 := rs_94_7 (m := m) hV
    have f2 : 0 ≤ (m 94 58).toInt ∧ (m 94 58).toInt ≤ 1 := rs_94_58 (m := m) hV
    have f3 : 0 ≤ (m 94 10).toInt ∧ (m 94 10).toInt ≤ 6 := rs_94_10 (m := m) hV
    have b4 := i_bd (m 94 0)
    have b5 := i_bd (m0 94 0)
    have b6 := i_bd l5
    try have gk := AU_room r_AU r_GU (by omega)
    have hg7 : (0 ≤ l5 ∧ l5.toNatClampNeg < 3100) := i_ix (by omega) (by omega)
    refine ⟨hg7, ?_⟩
    first | have f8 : 0 ≤ (m 99 l5.toNatClampNeg).toInt ∧ (m 99 l5.toNatClampNeg).toInt ≤ 1 := ra_99 (m := m) hV (k := l5.toNatClampNeg) (i_ix (n := 3100) (by omega) (by omega)).2 | have b9 := i_bd (m 99 l5.toNatClampNeg)
    have li10 : (0 : Int32).toInt = 0 := rfl
    refine zd (fun (h11 : (m 99 l5.toNatClampNeg) = (0 : Int32)) => ?_) (fun (h11 : ¬ (m 99 l5.toNatClampNeg) = (0 : Int32)) => ?_)
    · skip
      have g12 := i_eq h11
      try have gk := AU_room r_AU r_GU (by omega)
      have hg13 : (0 ≤ l5 ∧ l5.toNatClampNeg < 3100) := i_ix (by omega) (by omega)
      refine ⟨hg13, ?_⟩
      have hg14 : (0 ≤ l5 ∧ l5.toNatClampNeg < 3100) := i_ix (by omega) (by omega)
      refine ⟨hg14, ?_⟩
      have hg15 : (0 ≤ l5 ∧ l5.toNatClampNeg < 3100) := i_ix (by omega) (by omega)
      refine ⟨hg15, ?_⟩
      have hg16 : (0 ≤ l5 ∧ l5.toNatClampNeg < 3100) := i_ix (by omega) (by omega)
      refine ⟨hg16, ?_⟩
      have hg17 : (0 ≤ l5 ∧ l5.toNatClampNeg < 3100) := i_ix (by omega) (by omega)
      refine ⟨hg17, ?_⟩
      have b18 := i_bd l4
      have hg19 : (0 ≤ l4 ∧ l4.toNatClampNeg < 4600) := i_ix (by omega) (by omega)
      refine ⟨hg19, ?_⟩
      try have gk := AU_room r_AU r_GU (by omega)
      try have e21 : (l2 + (1 : Int32)).toInt = l2.toInt + 1 := i_addk rfl (by omega) (by omega)
      try have gun := GU_nu r_GU
      have li21 : (1 : Int32).toInt = 1 := rfl
      have hV20 : zV (ma_u m 99 l5.toNatClampNeg (1 : Int32)) := ua_99 hV (by omega) (by omega)
      have f23 : 0 ≤ (m 94 46).toInt ∧ (m 94 46).toInt ≤ 100000 := rs_94_46 (m := m) hV
      have hV22 : zV (ma_u (ma_u m 99 l5.toNatClampNeg (1 : Int32)) 100 l5.toNatClampNeg (m 94 46)) := ua_100 hV20 (by omega) (by omega)
      have b25 := i_bd l1
      have hV24 : zV (ma_u (ma_u (ma_u m 99 l5.toNatClampNeg (1 : Int32)) 100 l5.toNatClampNeg (m 94 46)) 101 l5.toNatClampNeg l1) := ua_101 hV22 (by omega) (by omega)
      have b27 := i_bd l2
      have hV26 : zV (ma_u (ma_u (ma_u (ma_u m 99 l5.toNatClampNeg (1 : Int32)) 100 l5.toNatClampNeg (m 94 46)) 101 l5.toNatClampNeg l1) 102 l5.toNatClampNeg l2) := ua_102 hV24 (by omega) (by omega)
      have hV28 : zV (ma_u (ma_u (ma_u (ma_u (ma_u m 99 l5.toNatClampNeg (1 : Int32)) 100 l5.toNatClampNeg (m 94 46)) 101 l5.toNatClampNeg l1) 102 l5.toNatClampNeg l2) 103 l5.toNatClampNeg l4) := ua_103 hV26 (by omega) (by omega)
      have hV29 : zV (ma_u (ma_u (ma_u (ma_u (ma_u (ma_u m 99 l5.toNatClampNeg (1 : Int32)) 100 l5.toNatClampNeg (m 94 46)) 101 l5.toNatClampNeg l1) 102 l5.toNatClampNeg l2) 103 l5.toNatClampNeg l4) 111 l4.toNatClampNeg l5) := ua_111 hV28 (by omega) (by omega)
      have b30 := i_bd l3
      have q31 : ((ma_u m 102 l5.toNatClampNeg l2) 102 l5.toNatClampNeg).toInt = l2.toInt := congrArg Int32.toInt mu_self
      first | have f32 : 0 ≤ ((ma_u m 102 l5.toNatClampNeg l2) 102 l5.toNatClampNeg).toInt ∧ ((ma_u m 102 l5.toNatClampNeg l2) 102 l5.toNatClampNeg).toInt ≤ 60 := ra_102 (m := (ma_u (ma_u (ma_u (ma_u m 99 l5.toNatClampNeg (1 : Int32)) 100 l5.toNatClampNeg (m 94 46)) 101 l5.toNatClampNeg l1) 102 l5.toNatClampNeg l2)) hV26 (k := l5.toNatClampNeg) (i_ix (n := 3100) (by omega) (by omega)).2 | have b33 := i_bd ((ma_u m 102 l5.toNatClampNeg l2) 102 l5.toNatClampNeg)
      exact lp_183af_88 (kk := kk) (nn := nn) (r1 := r1) h0 K _ _ (l2) (l3) (l4) (l5) rfl (zF_u (zF_u (zF_u (zF_u (zF_u (zF_u hF rfl) rfl) rfl) rfl) rfl) rfl) hV29 (by omega) (by omega) (by omega) (by omega) (by omega) (by omega) (by omega) (by omega) (by omega) (show (m 94 46).toInt ≤ 2999 from by omega) (show ((ma_u m 102 l5.toNatClampNeg l2) 102 l5.toNatClampNeg).toInt = l2.toInt from by omega) (show ((ma_u m 99 l5.toNatClampNeg (1 : Int32)) 99) l5.toNatClampNeg ≠ 0 from by first | (rw [mu_self]; decide; done) | (exfalso; omega; done) | (exfalso; contradiction; done)) (show zWn (m 94 7) (m 98) ((ma_u m 101 l5.toNatClampNeg l1) 101) ((ma_u m 102 l5.toNatClampNeg l2) 102) (m 108) l5.toNatClampNeg (0 : Int32).toNatClampNeg from by first | (exact Wn_0 r_W (fun t ht => mu_ne ht) (fun t ht => mu_ne ht) (by rw [mu_self]; assumption) rfl) | (exfalso; omega; done) | (exfalso; contradiction; done)) r_GW (show zGUp T (m 94 46) ((ma_u m 99 l5.toNatClampNeg (1 : Int32)) 99) from by first | (exact GUp_0 r_GU (by omega)) | (exfalso; omega; done) | (exfalso; contradiction; done)) (show zOw ((ma_u m 99 l5.toNatClampNeg (1 : Int32)) 99) ((ma_u m 103 l5.toNatClampNeg l4) 103) ((ma_u m 111 l4.toNatClampNeg l5) 111) from by first | (exact Ow_new r_OW (by assumption) (fun t ht => mu_ne ht) (by rw [mu_self]; decide) (fun t ht => mu_ne ht) mu_self (by omega) (fun t ht => mu_ne ht) (by rw [mu_self])) | (exact Ow_rm r_OW (by decide) (tn_cast (by omega)).symm) | (exfalso; omega; done) | (exfalso; contradiction; done)) (show zDX (m 94 10) (zmk ((ma_u m 99 l5.toNatClampNeg (1 : Int32)) 99) l5.toNatClampNeg) (m 112) (m 113) (m 114) (m 94 55) (m 98) ((ma_u m 101 l5.toNatClampNeg l1) 101) ((ma_u m 102 l5.toNatClampNeg l2) 102) (m 108) from by first | (exact DXn_0 r_DX (by assumption) (fun t ht => mu_ne ht) (fun t ht => mu_ne ht) (fun t ht => mu_ne ht)) | (exfalso; omega; done) | (exfalso; contradiction; done)) r_GG (show (m 94 58).toInt = 0 ∨ (m 94 10).toInt = 5 from by omega) (show zHAs (m 94 10) (m 94 11) (m 94 13) (m 94 14) (m 94 16) (m 94 61) (m 94 59) (m 94 60) ((ma_u m 99 l5.toNatClampNeg (1 : Int32)) 99) ((ma_u m 102 l5.toNatClampNeg l2) 102) ((ma_u m 103 l5.toNatClampNeg l4) 103) ((ma_u m 111 l4.toNatClampNeg l5) 111) from by first | (exact HAs_new r_HA r_PL (by omega) (by assumption) (by omega) (fun t ht => mu_ne ht) (by rw [mu_self]; decide) (fun t ht => mu_ne ht) (by rw [mu_self]; omega) (by rw [mu_self]; omega) (fun t ht => mu_ne ht) mu_self (fun t ht => mu_ne ht) (by rw [mu_self]) (by rw [mu_self]; omega) (fun t ht => (ra_103 hV ht).1) (fun t ht => (ra_102 hV ht).1)) | (exfalso; omega; done) | (exfalso; contradiction; done)) (show (m 94 10).toInt = 3 → zDC (m 94 14).toInt (m 94 16).toInt (zmk ((ma_u m 99 l5.toNatClampNeg (1 : Int32)) 99) l5.toNatClampNeg) ((ma_u m 103 l5.toNatClampNeg l4) 103) ((ma_u m 102 l5.toNatClampNeg l2) 102) (m 98) ((ma_u m 101 l5.toNatClampNeg l1) 101) (m 108) (m 117) from by first | (exact DCn_0 r_HA r_DX (by assumption) (fun t ht => mu_ne ht) (fun t ht => mu_ne ht) (fun t ht => mu_ne ht) (fun t ht => mu_ne ht)) | (exfalso; omega; done) | (exfalso; contradiction; done)) (show zRG (m 94 10) (m 94 18) (m 94 64) (m 94 63) ((ma_u m 99 l5.toNatClampNeg (1 : Int32)) 99) ((ma_u m 103 l5.toNatClampNeg l4) 103) ((ma_u m 102 l5.toNatClampNeg l2) 102) (m 116) from by first | (exact RG_new r_RGc r_PL (by omega) (fun t ht => mu_ne ht) (fun t ht => mu_ne ht) (by rw [mu_self]; omega) (fun t ht => mu_ne ht) mu_self) | (exfalso; omega; done) | (exfalso; contradiction; done)) (show ((ma_u m 100 l5.toNatClampNeg (m 94 46)) 100) l5.toNatClampNeg = (m0 94 46) ∧ (m 94 46) = (m0 94 46) from by first | (exact ⟨by rw [mu_self]; exact r_N46, r_N46⟩) | (exfalso; omega; done) | (exfalso; contradiction; done)) (show (m 94 0).toInt = (m0 94 0).toInt from by omega)
    · skip
      have g34 := i_ne h11
      try have gk := AU_room r_AU r_GU (by omega)
      try have e21 : (l2 + (1 : Int32)).toInt = l2.toInt + 1 := i_addk rfl (by omega) (by omega)
      try have gun := GU_nu r_GU
      have b35 := i_bd l1
      have b36 := i_bd l2
      have b37 := i_bd l3
      have b38 := i_bd l4
      first | have e39 : (l5 + (1 : Int32)).toInt = l5.toInt + (1) := i_addk rfl (by omega) (by omega) | have b40 := i_bd (l5 + (1 : Int32))
      exact IH (3100 - (l5 + (1 : Int32)).toInt).toNat (by omega) _ (l1) (l2) (l3) (l4) ((l5 + (1 : Int32))) rfl hF hV (by omega) (by omega) (by omega) (by omega) (by omega) (by omega) (by omega) (by omega) (by omega) (by omega) (by omega) (show 16 ≤ l1.toInt ∨ l1.toInt < (m 94 7).toInt from by omega) r_W r_GW r_GU r_OW r_DX r_GG r_HA r_RGc (show (m 94 58).toInt = 0 ∨ (m 94 10).toInt = 5 from by omega) r_PL (show ∀ j : Nat, (j : Int) < (l5 + (1 : Int32)).toInt → (m 99) j ≠ 0 from by first | (exact AU_step r_AU (by omega) (by assumption) (by omega)) | (exfalso; omega; done) | (exfalso; contradiction; done)) r_N46 (show (m 94 0).toInt = (m0 94 0).toInt from by omega)
set_option maxHeartbeats 8000000 in
theorem sp_183af {X : Nat × (Nat → Int32)} {P : Option ma_V → (Nat → Nat → Int32) → Prop} {T : Nat} {m : Nat → Nat → Int32} (kk : Int32) (nn : Int32) (r1 : Int32) (hV : zV m) (hpre0 : 0 ≤ nn.toInt) (hpre1 : nn.toInt ≤ 60) (hpre2 : 0 ≤ r1.toInt) (hpre3 : r1.toInt ≤ 15) (hpre4 : 0 ≤ kk.toInt) (hpre5 : kk.toInt ≤ 17) (hpre6 : T + 1 ≤ 3000) (hpre7 : 16 ≤ kk.toInt ∨ kk.toInt < (m 94 7).toInt) (r_W : zW (m 94 7) (m 98) (m 101) (m 102) (m 108)) (r_GW : zGW T (m 94 55) (m 109)) (r_GU : zGU T (m 94 46) (m 99)) (r_OW : zOw (m 99) (m 103) (m 111)) (r_DX : zDX (m 94 10) (m 99) (m 112) (m 113) (m 114) (m 94 55) (m 98) (m 101) (m 102) (m 108)) (r_GG : zGG (m 94 58) (m 94 56) (m 94 57) (m 106)) (r_HA : zHA (m 94 10) (m 94 11) (m 94 13) (m 94 14) (m 94 16) (m 94 61) (m 94 59) (m 94 60) (m 99) (m 102) (m 103) (m 111) (m 117) (m 98) (m 101) (m 108)) (r_RGc : zRG (m 94 10) (m 94 18) (m 94 64) (m 94 63) (m 99) (m 103) (m 102) (m 116)) (hpre16 : (m 94 58).toInt = 0 ∨ (m 94 10).toInt = 5) (KZ : ∀ v m₉, zV (zov wr_183 m m₉) → (zW (m 94 7) (m 98) (m₉ 101) (m₉ 102) (m₉ 108)) → (zGW (T + 1) (m₉ 94 55) (m₉ 109)) → (zGU (T + 1) (m₉ 94 46) (m₉ 99)) → (zOw (m₉ 99) (m₉ 103) (m₉ 111)) → (zDX (m 94 10) (m₉ 99) (m₉ 112) (m₉ 113) (m₉ 114) (m₉ 94 55) (m 98) (m₉ 101) (m₉ 102) (m₉ 108)) → (zGG (m₉ 94 58) (m₉ 94 56) (m₉ 94 57) (m₉ 106)) → (zHA (m 94 10) (m 94 11) (m 94 13) (m 94 14) (m 94 16) (m₉ 94 61) (m₉ 94 59) (m₉ 94 60) (m₉ 99) (m₉ 102) (m₉ 103) (m₉ 111) (m₉ 117) (m 98) (m₉ 101) (m₉ 108)) → (zRG (m 94 10) (m 94 18) (m 94 64) (m₉ 94 63) (m₉ 99) (m₉ 103) (m₉ 102) (m₉ 116)) → ((m₉ 94 58).toInt = 0 ∨ (m 94 10).toInt = 5) → ((v = (m 94 46) ∧ (m₉ 94 46) = (m 94 46) + 1) ∨ (v = -1 ∧ (m₉ 94 46) = (m 94 46))) → ((m 94 0).toInt = (m 94 0).toInt) → P (some (.inl v)) (zov wr_183 m m₉)) : zm X 9 198 183 0 [(0, .inr (.inr (some 94))), (1, .inl kk), (2, .inl nn), (3, .inl r1)] m P := by
  have K : ∀ v m₉, zF wr_183 m m₉ → zV m₉ → (zW (m₉ 94 7) (m₉ 98) (m₉ 101) (m₉ 102) (m₉ 108)) → (zGW (T + 1) (m₉ 94 55) (m₉ 109)) → (zGU (T + 1) (m₉ 94 46) (m₉ 99)) → (zOw (m₉ 99) (m₉ 103) (m₉ 111)) → (zDX (m₉ 94 10) (m₉ 99) (m₉ 112) (m₉ 113) (m₉ 114) (m₉ 94 55) (m₉ 98) (m₉ 101) (m₉ 102) (m₉ 108)) → (zGG (m₉ 94 58) (m₉ 94 56) (m₉ 94 57) (m₉ 106)) → (zHA (m₉ 94 10) (m₉ 94 11) (m₉ 94 13) (m₉ 94 14) (m₉ 94 16) (m₉ 94 61) (m₉ 94 59) (m₉ 94 60) (m₉ 99) (m₉ 102) (m₉ 103) (m₉ 111) (m₉ 117) (m₉ 98) (m₉ 101) (m₉ 108)) → (zRG (m₉ 94 10) (m₉ 94 18) (m₉ 94 64) (m₉ 94 63) (m₉ 99) (m₉ 103) (m₉ 102) (m₉ 116)) → ((m₉ 94 58).toInt = 0 ∨ (m₉ 94 10).toInt = 5) → ((v = (m 94 46) ∧ (m₉ 94 46) = (m 94 46) + 1) ∨ (v = -1 ∧ (m₉ 94 46) = (m 94 46))) → ((m₉ 94 0).toInt = (m 94 0).toInt) → P (some (.inl v)) m₉ := by
    intro v m₉ hf z q0 q1 q2 q3 q4 q5 q6 q7 q8 q9 q10
    have e := zov_eq hf
    rw [e] at z ⊢
    try rw [e] at q0
    try rw [e] at q1
    try rw [e] at q2
    try rw [e] at q3
    try rw [e] at q4
    try rw [e] at q5
    try rw [e] at q6
    try rw [e] at q7
    try rw [e] at q8
    try rw [e] at q9
    try rw [e] at q10
    exact KZ v m₉ z q0 q1 q2 q3 q4 q5 q6 q7 q8 q9 q10
  refine g_183_0 kk nn r1 ?_
  have f1 : 0 ≤ (m 94 7).toInt ∧ (m 94 7).toInt ≤ 16 := rs_94_7 (m := m) hV
  have f2 : 0 ≤ (m 94 58).toInt ∧ (m 94 58).toInt ≤ 1 := rs_94_58 (m := m) hV
  have f3 : 0 ≤ (m 94 10).toInt ∧ (m 94 10).toInt ≤ 6 := rs_94_10 (m := m) hV
  have b4 := i_bd nn
  first | have e5 : (nn + (1 : Int32)).toInt = nn.toInt + (1) := i_addk rfl (by omega) (by omega) | have b6 := i_bd (nn + (1 : Int32))
  refine sp_184 ((nn + (1 : Int32))) hV (by omega) (by omega) r_W r_GW r_GU r_OW r_DX r_GG r_HA r_RGc (show (m 94 58).toInt = 0 ∨ (m 94 10).toInt = 5 from by omega) (fun v2 m1 hV_m1 p0_m1 p1_m1 p2_m1 p3_m1 p4_m1 p5_m1 p6_m1 p7_m1 p8_m1 => zmi_n ?_)
  have p0_m1 : zGW T (m1 94 55) (m1 109) := p0_m1
  have p1_m1 : zGU T (m 94 46) (m1 99) := p1_m1
  have p2_m1 : zOw (m1 99) (m1 103) (m1 111) := p2_m1
  have p3_m1 : zDX (m 94 10) (m1 99) (m 112) (m1 113) (m1 114) (m1 94 55) (m 98) (m 101) (m 102) (m 108) := p3_m1
  have p4_m1 : zGG (m1 94 58) (m1 94 56) (m1 94 57) (m1 106) := p4_m1
  have p5_m1 : zHA (m 94 10) (m 94 11) (m 94 13) (m 94 14) (m 94 16) (m1 94 61) (m1 94 59) (m1 94 60) (m1 99) (m 102) (m1 103) (m1 111) (m1 117) (m 98) (m 101) (m 108) := p5_m1
  have p6_m1 : zRG (m 94 10) (m 94 18) (m 94 64) (m1 94 63) (m1 99) (m1 103) (m 102) (m1 116) := p6_m1
  have p7_m1 : (m1 94 58).toInt = 0 ∨ (m 94 10).toInt = 5 := p7_m1
  have p8_m1 : zPL (m 94 10) (m 94 11) (m 94 13) (m 94 14) (m1 94 61) (m1 94 59) (m1 94 60) (m 94 18) (m 94 64) (m1 99) (m 102) (m1 103) (m1 111) v2 (nn + (1 : Int32)) := p8_m1
  have f7 : 0 ≤ (m1 94 58).toInt ∧ (m1 94 58).toInt ≤ 1 := rs_94_58 (m := (zov wr_184 m m1)) hV_m1
  try have plx := PL_lo p8_m1
  have li8 : (0 : Int32).toInt = 0 := rfl
  have b9 := i_bd v2
  refine zd (fun (h10 : (0 : Int32) ≤ v2) => ?_) (fun (h10 : ¬ (0 : Int32) ≤ v2) => ?_)
  · skip
    have g11 := i_le h10
    try have e21 : (l2 + (1 : Int32)).toInt = l2.toInt + 1 := i_addk rfl (by omega) (by omega)
    try have gun := GU_nu p1_m1
    have b12 := i_bd kk
    have b13 := i_bd r1
    have b14 := i_bd (m 94 0)
    exact lp_183af_19 (kk := kk) (nn := nn) (r1 := r1) hV K _ _ (kk) (nn) (r1) (v2) ((0 : Int32)) rfl (zF_zov zF_rfl ws_184_183) hV_m1 (by omega) (by omega) (by omega) (by omega) (by omega) (by omega) (by omega) (by omega) (by omega) (by omega) (by omega) (show 16 ≤ kk.toInt ∨ kk.toInt < (m 94 7).toInt from by omega) r_W p0_m1 p1_m1 p2_m1 p3_m1 p4_m1 p5_m1 p6_m1 (show (m1 94 58).toInt = 0 ∨ (m 94 10).toInt = 5 from by omega) p8_m1 (show ∀ j : Nat, (j : Int) < (0 : Int32).toInt → (m1 99) j ≠ 0 from by first | (intro j hj; omega; done) | (exfalso; omega; done) | (exfalso; contradiction; done)) (show (m 94 46) = (m 94 46) from by first | (exact rfl) | (exfalso; omega; done) | (exfalso; contradiction; done)) (show (m 94 0).toInt = (m 94 0).toInt from by omega)
  · skip
    have g15 := i_nle h10
    try have e21 : (l2 + (1 : Int32)).toInt = l2.toInt + 1 := i_addk rfl (by omega) (by omega)
    try have gun := GU_nu p1_m1
    have li16 : (-1 : Int32).toInt = -1 := rfl
    have b17 := i_bd (m 94 0)
    exact K ((-1 : Int32)) _ (zF_zov zF_rfl ws_184_183) hV_m1 r_W (show zGW (T + 1) (m1 94 55) (m1 109) from by first | (exact GW_up p0_m1 (by omega)) | (exfalso; omega; done) | (exfalso; contradiction; done)) (show zGU (T + 1) (m 94 46) (m1 99) from by first | (exact GU_up p1_m1 (by omega)) | (exact GU_0 p1_m1) | (exfalso; omega; done) | (exfalso; contradiction; done)) p2_m1 p3_m1 p4_m1 p5_m1 p6_m1 (show (m1 94 58).toInt = 0 ∨ (m 94 10).toInt = 5 from by omega) (show ((-1 : Int32) = (m 94 46) ∧ (m 94 46) = (m 94 46) + 1) ∨ ((-1 : Int32) = -1 ∧ (m 94 46) = (m 94 46)) from by first | (exact Or.inr ⟨rfl, rfl⟩) | (exfalso; omega; done) | (exfalso; contradiction; done)) (show (m 94 0).toInt = (m 94 0).toInt from by omega)
set_option maxHeartbeats 8000000 in
theorem sp_243af {X : Nat × (Nat → Int32)} {P : Option ma_V → (Nat → Nat → Int32) → Prop} {T : Nat} {m : Nat → Nat → Int32} (rf : Int32) (nn : Int32) (r1 : Int32) (hV : zV m) (hpre0 : (m 94 8).toInt ≠ 0) (hpre1 : T + 1 ≤ 3000) (hpre2 : 0 ≤ rf.toInt) (hpre3 : rf.toInt ≤ 1) (r_W : zW (m 94 7) (m 98) (m 101) (m 102) (m 108)) (r_GW : zGW T (m 94 55) (m 109)) (r_GU : zGU T (m 94 46) (m 99)) (r_OW : zOw (m 99) (m 103) (m 111)) (r_DX : zDX (m 94 10) (m 99) (m 112) (m 113) (m 114) (m 94 55) (m 98) (m 101) (m 102) (m 108)) (r_GG : zGG (m 94 58) (m 94 56) (m 94 57) (m 106)) (r_HA : zHA (m 94 10) (m 94 11) (m 94 13) (m 94 14) (m 94 16) (m 94 61) (m 94 59) (m 94 60) (m 99) (m 102) (m 103) (m 111) (m 117) (m 98) (m 101) (m 108)) (r_RGc : zRG (m 94 10) (m 94 18) (m 94 64) (m 94 63) (m 99) (m 103) (m 102) (m 116)) (hpre12 : (m 94 58).toInt = 0 ∨ (m 94 10).toInt = 5) (KZ : ∀ v m₉, zV (zov wr_243 m m₉) → (zW (m 94 7) (m 98) (m₉ 101) (m₉ 102) (m₉ 108)) → (zGW (T + 1) (m₉ 94 55) (m₉ 109)) → (zGU (T + 1) (m₉ 94 46) (m₉ 99)) → (zOw (m₉ 99) (m₉ 103) (m₉ 111)) → (zDX (m 94 10) (m₉ 99) (m₉ 112) (m₉ 113) (m₉ 114) (m₉ 94 55) (m 98) (m₉ 101) (m₉ 102) (m₉ 108)) → (zGG (m₉ 94 58) (m₉ 94 56) (m₉ 94 57) (m₉ 106)) → (zHA (m 94 10) (m 94 11) (m 94 13) (m 94 14) (m 94 16) (m₉ 94 61) (m₉ 94 59) (m₉ 94 60) (m₉ 99) (m₉ 102) (m₉ 103) (m₉ 111) (m₉ 117) (m 98) (m₉ 101) (m₉ 108)) → (zRG (m 94 10) (m 94 18) (m 94 64) (m₉ 94 63) (m₉ 99) (m₉ 103) (m₉ 102) (m₉ 116)) → ((m₉ 94 58).toInt = 0 ∨ (m 94 10).toInt = 5) → (zSel (0 ≤ nn.toInt ∧ nn.toInt ≤ 60 ∧ 0 ≤ r1.toInt ∧ r1.toInt ≤ 15) ((m₉ 94 0).toInt = 1) ((m₉ 94 0).toInt = 0 ∧ ((v = (m 94 46) ∧ (m₉ 94 46) = (m 94 46) + 1) ∨ (v = -1 ∧ (m₉ 94 46) = (m 94 46))))) → P (some (.inl v)) (zov wr_243 m m₉)) : zm X 10 224 243 0 [(0, .inr (.inr (some 94))), (1, .inl rf), (2, .inl nn), (3, .inl r1)] m P := by
  have K : ∀ v m₉, zF wr_243 m m₉ → zV m₉ → (zW (m₉ 94 7) (m₉ 98) (m₉ 101) (m₉ 102) (m₉ 108)) → (zGW (T + 1) (m₉ 94 55) (m₉ 109)) → (zGU (T + 1) (m₉ 94 46) (m₉ 99)) → (zOw (m₉ 99) (m₉ 103) (m₉ 111)) → (zDX (m₉ 94 10) (m₉ 99) (m₉ 112) (m₉ 113) (m₉ 114) (m₉ 94 55) (m₉ 98) (m₉ 101) (m₉ 102) (m₉ 108)) → (zGG (m₉ 94 58) (m₉ 94 56) (m₉ 94 57) (m₉ 106)) → (zHA (m₉ 94 10) (m₉ 94 11) (m₉ 94 13) (m₉ 94 14) (m₉ 94 16) (m₉ 94 61) (m₉ 94 59) (m₉ 94 60) (m₉ 99) (m₉ 102) (m₉ 103) (m₉ 111) (m₉ 117) (m₉ 98) (m₉ 101) (m₉ 108)) → (zRG (m₉ 94 10) (m₉ 94 18) (m₉ 94 64) (m₉ 94 63) (m₉ 99) (m₉ 103) (m₉ 102) (m₉ 116)) → ((m₉ 94 58).toInt = 0 ∨ (m₉ 94 10).toInt = 5) → (zSel (0 ≤ nn.toInt ∧ nn.toInt ≤ 60 ∧ 0 ≤ r1.toInt ∧ r1.toInt ≤ 15) ((m₉ 94 0).toInt = 1) ((m₉ 94 0).toInt = 0 ∧ ((v = (m 94 46) ∧ (m₉ 94 46) = (m 94 46) + 1) ∨ (v = -1 ∧ (m₉ 94 46) = (m 94 46))))) → P (some (.inl v)) m₉ := by
    intro v m₉ hf z q0 q1 q2 q3 q4 q5 q6 q7 q8 q9
    have e := zov_eq hf
    rw [e] at z ⊢
    try rw [e] at q0
    try rw [e] at q1
    try rw [e] at q2
    try rw [e] at q3
    try rw [e] at q4
    try rw [e] at q5
    try rw [e] at q6
    try rw [e] at q7
    try rw [e] at q8
    try rw [e] at q9
    exact KZ v m₉ z q0 q1 q2 q3 q4 q5 q6 q7 q8 q9
  refine g_243_0 rf nn r1 ?_
  have f1 : 0 ≤ (m 94 8).toInt ∧ (m 94 8).toInt ≤ 1 := rs_94_8 (m := m) hV
  have f2 : 0 ≤ (m 94 58).toInt ∧ (m 94 58).toInt ≤ 1 := rs_94_58 (m := m) hV
  have f3 : 0 ≤ (m 94 10).toInt ∧ (m 94 10).toInt ≤ 6 := rs_94_10 (m := m) hV
  have b4 := i_bd nn
  have li5 : (0 : Int32).toInt = 0 := rfl
  refine zd (fun (h6 : nn < (0 : Int32)) => ?_) (fun (h6 : ¬ nn < (0 : Int32)) => ?_)
  · skip
    have g7 := i_lt h6
    have hV8 : zV (ma_u m 94 0 (1 : Int32)) := uf_94_0 hV
    exact K ((0 : Int32)) _ (zF_u zF_rfl rfl) hV8 r_W (show zGW (T + 1) (m 94 55) (m 109) from by first | (exact GW_up r_GW (by omega)) | (exfalso; omega; done) | (exfalso; contradiction; done)) (show zGU (T + 1) (m 94 46) (m 99) from by first | (exact GU_up r_GU (by omega)) | (exact GU_0 r_GU) | (exfalso; omega; done) | (exfalso; contradiction; done)) r_OW r_DX r_GG r_HA r_RGc (show (m 94 58).toInt = 0 ∨ (m 94 10).toInt = 5 from by omega) (show zSel (0 ≤ nn.toInt ∧ nn.toInt ≤ 60 ∧ 0 ≤ r1.toInt ∧ r1.toInt ≤ 15) ((1 : Int32).toInt = 1) ((1 : Int32).toInt = 0 ∧ (((0 : Int32) = (m 94 46) ∧ (m 94 46) = (m 94 46) + 1) ∨ ((0 : Int32) = -1 ∧ (m 94 46) = (m 94 46)))) from by first | (exfalso; omega; done) | (exact Or.inl ⟨fun w => by have w1 := w.1; have w2 := w.2.1; have w3 := w.2.2.1; have w4 := w.2.2.2; omega, rfl⟩) | (exfalso; omega; done) | (exfalso; contradiction; done))
  · skip
    have g9 := i_nlt h6
    have li10 : (60 : Int32).toInt = 60 := rfl
    refine zd (fun (h11 : (60 : Int32) < nn) => ?_) (fun (h11 : ¬ (60 : Int32) < nn) => ?_)
    · skip
      have g12 := i_lt h11
      have hV13 : zV (ma_u m 94 0 (1 : Int32)) := uf_94_0 hV
      exact K ((0 : Int32)) _ (zF_u zF_rfl rfl) hV13 r_W (show zGW (T + 1) (m 94 55) (m 109) from by first | (exact GW_up r_GW (by omega)) | (exfalso; omega; done) | (exfalso; contradiction; done)) (show zGU (T + 1) (m 94 46) (m 99) from by first | (exact GU_up r_GU (by omega)) | (exact GU_0 r_GU) | (exfalso; omega; done) | (exfalso; contradiction; done)) r_OW r_DX r_GG r_HA r_RGc (show (m 94 58).toInt = 0 ∨ (m 94 10).toInt = 5 from by omega) (show zSel (0 ≤ nn.toInt ∧ nn.toInt ≤ 60 ∧ 0 ≤ r1.toInt ∧ r1.toInt ≤ 15) ((1 : Int32).toInt = 1) ((1 : Int32).toInt = 0 ∧ (((0 : Int32) = (m 94 46) ∧ (m 94 46) = (m 94 46) + 1) ∨ ((0 : Int32) = -1 ∧ (m 94 46) = (m 94 46)))) from by first | (exfalso; omega; done) | (exact Or.inl ⟨fun w => by have w1 := w.1; have w2 := w.2.1; have w3 := w.2.2.1; have w4 := w.2.2.2; omega, rfl⟩) | (exfalso; omega; done) | (exfalso; contradiction; done))
    · skip
      have g14 := i_nlt h11
      have b15 := i_bd r1
      refine zd (fun (h16 : r1 < (0 : Int32)) => ?_) (fun (h16 : ¬ r1 < (0 : Int32)) => ?_)
      · skip
        have g17 := i_lt h16
        have hV18 : zV (ma_u m 94 0 (1 : Int32)) := uf_94_0 hV
        exact K ((0 : Int32)) _ (zF_u zF_rfl rfl) hV18 r_W (show zGW (T + 1) (m 94 55) (m 109) from by first | (exact GW_up r_GW (by omega)) | (exfalso; omega; done) | (exfalso; contradiction; done)) (show zGU (T + 1) (m 94 46) (m 99) from by first | (exact GU_up r_GU (by omega)) | (exact GU_0 r_GU) | (exfalso; omega; done) | (exfalso; contradiction; done)) r_OW r_DX r_GG r_HA r_RGc (show (m 94 58).toInt = 0 ∨ (m 94 10).toInt = 5 from by omega) (show zSel (0 ≤ nn.toInt ∧ nn.toInt ≤ 60 ∧ 0 ≤ r1.toInt ∧ r1.toInt ≤ 15) ((1 : Int32).toInt = 1) ((1 : Int32).toInt = 0 ∧ (((0 : Int32) = (m 94 46) ∧ (m 94 46) = (m 94 46) + 1) ∨ ((0 : Int32) = -1 ∧ (m 94 46) = (m 94 46)))) from by first | (exfalso; omega; done) | (exact Or.inl ⟨fun w => by have w1 := w.1; have w2 := w.2.1; have w3 := w.2.2.1; have w4 := w.2.2.2; omega, rfl⟩) | (exfalso; omega; done) | (exfalso; contradiction; done))
      · skip
        have g19 := i_nlt h16
        have li20 : (16 : Int32).toInt = 16 := rfl
        refine zd (fun (h21 : (16 : Int32) ≤ r1) => ?_) (fun (h21 : ¬ (16 : Int32) ≤ r1) => ?_)
        · skip
          have g22 := i_le h21
          have hV23 : zV (ma_u m 94 0 (1 : Int32)) := uf_94_0 hV
          exact K ((0 : Int32)) _ (zF_u zF_rfl rfl) hV23 r_W (show zGW (T + 1) (m 94 55) (m 109) from by first | (exact GW_up r_GW (by omega)) | (exfalso; omega; done) | (exfalso; contradiction; done)) (show zGU (T + 1) (m 94 46) (m 99) from by first | (exact GU_up r_GU (by omega)) | (exact GU_0 r_GU) | (exfalso; omega; done) | (exfalso; contradiction; done)) r_OW r_DX r_GG r_HA r_RGc (show (m 94 58).toInt = 0 ∨ (m 94 10).toInt = 5 from by omega) (show zSel (0 ≤ nn.toInt ∧ nn.toInt ≤ 60 ∧ 0 ≤ r1.toInt ∧ r1.toInt ≤ 15) ((1 : Int32).toInt = 1) ((1 : Int32).toInt = 0 ∧ (((0 : Int32) = (m 94 46) ∧ (m 94 46) = (m 94 46) + 1) ∨ ((0 : Int32) = -1 ∧ (m 94 46) = (m 94 46)))) from by first | (exfalso; omega; done) | (exact Or.inl ⟨fun w => by have w1 := w.1; have w2 := w.2.1; have w3 := w.2.2.1; have w4 := w.2.2.2; omega, rfl⟩) | (exfalso; omega; done) | (exfalso; contradiction; done))
        · skip
          have g24 := i_nle h21
          refine zd (fun (h25 : (m 94 8) = (0 : Int32)) => ?_) (fun (h25 : ¬ (m 94 8) = (0 : Int32)) => ?_)
          · skip
            have g26 := i_eq h25
            have hV27 : zV (ma_u m 94 0 (2 : Int32)) := uf_94_0 hV
            exact K ((0 : Int32)) _ (zF_u zF_rfl rfl) hV27 r_W (show zGW (T + 1) (m 94 55) (m 109) from by first | (exact GW_up r_GW (by omega)) | (exfalso; omega; done) | (exfalso; contradiction; done)) (show zGU (T + 1) (m 94 46) (m 99) from by first | (exact GU_up r_GU (by omega)) | (exact GU_0 r_GU) | (exfalso; omega; done) | (exfalso; contradiction; done)) r_OW r_DX r_GG r_HA r_RGc (show (m 94 58).toInt = 0 ∨ (m 94 10).toInt = 5 from by omega) (show zSel (0 ≤ nn.toInt ∧ nn.toInt ≤ 60 ∧ 0 ≤ r1.toInt ∧ r1.toInt ≤ 15) ((2 : Int32).toInt = 1) ((2 : Int32).toInt = 0 ∧ (((0 : Int32) = (m 94 46) ∧ (m 94 46) = (m 94 46) + 1) ∨ ((0 : Int32) = -1 ∧ (m 94 46) = (m 94 46)))) from by first | (exfalso; omega; done) | (exact Or.inl ⟨fun w => by have w1 := w.1; have w2 := w.2.1; have w3 := w.2.2.1; have w4 := w.2.2.2; omega, rfl⟩) | (exfalso; omega; done) | (exfalso; contradiction; done))
          · skip
            have g28 := i_ne h25
            have b29 := i_bd rf
            refine zd (fun (h30 : rf = (0 : Int32)) => ?_) (fun (h30 : ¬ rf = (0 : Int32)) => ?_)
            · skip
              have g31 := i_eq h30
              have li32 : (17 : Int32).toInt = 17 := rfl
              have hV33 : zV (ma_u m 94 0 (0 : Int32)) := uf_94_0 hV
              have f34 : 0 ≤ (m 94 7).toInt ∧ (m 94 7).toInt ≤ 16 := rs_94_7 (m := m) hV
              refine sp_183af ((17 : Int32)) (nn) (r1) hV33 (by omega) (by omega) (by omega) (by omega) (by omega) (by omega) (by omega) (show 16 ≤ (17 : Int32).toInt ∨ (17 : Int32).toInt < (m 94 7).toInt from by omega) r_W r_GW r_GU r_OW r_DX r_GG r_HA r_RGc (show (m 94 58).toInt = 0 ∨ (m 94 10).toInt = 5 from by omega) (fun v2 m1 hV_m1 p0_m1 p1_m1 p2_m1 p3_m1 p4_m1 p5_m1 p6_m1 p7_m1 p8_m1 p9_m1 p10_m1 => zmi_n ?_)
              have p0_m1 : zW (m 94 7) (m 98) (m1 101) (m1 102) (m1 108) := p0_m1
              have p1_m1 : zGW (T + 1) (m1 94 55) (m1 109) := p1_m1
              have p2_m1 : zGU (T + 1) (m1 94 46) (m1 99) := p2_m1
              have p3_m1 : zOw (m1 99) (m1 103) (m1 111) := p3_m1
              have p4_m1 : zDX (m 94 10) (m1 99) (m1 112) (m1 113) (m1 114) (m1 94 55) (m 98) (m1 101) (m1 102) (m1 108) := p4_m1
              have p5_m1 : zGG (m1 94 58) (m1 94 56) (m1 94 57) (m1 106) := p5_m1
              have p6_m1 : zHA (m 94 10) (m 94 11) (m 94 13) (m 94 14) (m 94 16) (m1 94 61) (m1 94 59) (m1 94 60) (m1 99) (m1 102) (m1 103) (m1 111) (m1 117) (m 98) (m1 101) (m1 108) := p6_m1
              have p7_m1 : zRG (m 94 10) (m 94 18) (m 94 64) (m1 94 63) (m1 99) (m1 103) (m1 102) (m1 116) := p7_m1
              have p8_m1 : (m1 94 58).toInt = 0 ∨ (m 94 10).toInt = 5 := p8_m1
              have p9_m1 : (v2 = (m 94 46) ∧ (m1 94 46) = (m 94 46) + 1) ∨ (v2 = -1 ∧ (m1 94 46) = (m 94 46)) := p9_m1
              have p10_m1 : (0 : Int32).toInt = (0 : Int32).toInt := p10_m1
              have f35 : 0 ≤ (m1 94 58).toInt ∧ (m1 94 58).toInt ≤ 1 := rs_94_58 (m := (zov wr_183 (ma_u m 94 0 (0 : Int32)) m1)) hV_m1
              have b36 := i_bd v2
              exact K (v2) _ (zF_zov (zF_u zF_rfl rfl) ws_183_243) hV_m1 p0_m1 p1_m1 p2_m1 p3_m1 p4_m1 p5_m1 p6_m1 p7_m1 (show (m1 94 58).toInt = 0 ∨ (m 94 10).toInt = 5 from by omega) (show zSel (0 ≤ nn.toInt ∧ nn.toInt ≤ 60 ∧ 0 ≤ r1.toInt ∧ r1.toInt ≤ 15) ((0 : Int32).toInt = 1) ((0 : Int32).toInt = 0 ∧ ((v2 = (m 94 46) ∧ (m1 94 46) = (m 94 46) + 1) ∨ (v2 = -1 ∧ (m1 94 46) = (m 94 46)))) from by first | (exfalso; omega; done) | (exact Or.inl ⟨fun w => by have w1 := w.1; have w2 := w.2.1; have w3 := w.2.2.1; have w4 := w.2.2.2; omega, rfl⟩) | (exact Or.inr ⟨⟨by omega, by omega, by omega, by omega⟩, by omega, p9_m1⟩) | (exfalso; omega; done) | (exfalso; contradiction; done))
            · skip
              have g37 := i_ne h30
              have hV38 : zV (ma_u m 94 0 (0 : Int32)) := uf_94_0 hV
              have f39 : 0 ≤ (m 94 7).toInt ∧ (m 94 7).toInt ≤ 16 := rs_94_7 (m := m) hV
              refine sp_183af ((16 : Int32)) (nn) (r1) hV38 (by omega) (by omega) (by omega) (by omega) (by omega) (by omega) (by omega) (show 16 ≤ (16 : Int32).toInt ∨ (16 : Int32).toInt < (m 94 7).toInt from by omega) r_W r_GW r_GU r_OW r_DX r_GG r_HA r_RGc (show (m 94 58).toInt = 0 ∨ (m 94 10).toInt = 5 from by omega) (fun v4 m3 hV_m3 p0_m3 p1_m3 p2_m3 p3_m3 p4_m3 p5_m3 p6_m3 p7_m3 p8_m3 p9_m3 p10_m3 => zmi_n ?_)
              have p0_m3 : zW (m 94 7) (m 98) (m3 101) (m3 102) (m3 108) := p0_m3
              have p1_m3 : zGW (T + 1) (m3 94 55) (m3 109) := p1_m3
              have p2_m3 : zGU (T + 1) (m3 94 46) (m3 99) := p2_m3
              have p3_m3 : zOw (m3 99) (m3 103) (m3 111) := p3_m3
              have p4_m3 : zDX (m 94 10) (m3 99) (m3 112) (m3 113) (m3 114) (m3 94 55) (m 98) (m3 101) (m3 102) (m3 108) := p4_m3
              have p5_m3 : zGG (m3 94 58) (m3 94 56) (m3 94 57) (m3 106) := p5_m3
              have p6_m3 : zHA (m 94 10) (m 94 11) (m 94 13) (m 94 14) (m 94 16) (m3 94 61) (m3 94 59) (m3 94 60) (m3 99) (m3 102) (m3 103) (m3 111) (m3 117) (m 98) (m3 101) (m3 108) := p6_m3
              have p7_m3 : zRG (m 94 10) (m 94 18) (m 94 64) (m3 94 63) (m3 99) (m3 103) (m3 102) (m3 116) := p7_m3
              have p8_m3 : (m3 94 58).toInt = 0 ∨ (m 94 10).toInt = 5 := p8_m3
              have p9_m3 : (v4 = (m 94 46) ∧ (m3 94 46) = (m 94 46) + 1) ∨ (v4 = -1 ∧ (m3 94 46) = (m 94 46)) := p9_m3
              have p10_m3 : (0 : Int32).toInt = (0 : Int32).toInt := p10_m3
              have f40 : 0 ≤ (m3 94 58).toInt ∧ (m3 94 58).toInt ≤ 1 := rs_94_58 (m := (zov wr_183 (ma_u m 94 0 (0 : Int32)) m3)) hV_m3
              have b41 := i_bd v4
              exact K (v4) _ (zF_zov (zF_u zF_rfl rfl) ws_183_243) hV_m3 p0_m3 p1_m3 p2_m3 p3_m3 p4_m3 p5_m3 p6_m3 p7_m3 (show (m3 94 58).toInt = 0 ∨ (m 94 10).toInt = 5 from by omega) (show zSel (0 ≤ nn.toInt ∧ nn.toInt ≤ 60 ∧ 0 ≤ r1.toInt ∧ r1.toInt ≤ 15) ((0 : Int32).toInt = 1) ((0 : Int32).toInt = 0 ∧ ((v4 = (m 94 46) ∧ (m3 94 46) = (m 94 46) + 1) ∨ (v4 = -1 ∧ (m3 94 46) = (m 94 46)))) from by first | (exfalso; omega; done) | (exact Or.inl ⟨fun w => by have w1 := w.1; have w2 := w.2.1; have w3 := w.2.2.1; have w4 := w.2.2.2; omega, rfl⟩) | (exact Or.inr ⟨⟨by omega, by omega, by omega, by omega⟩, by omega, p9_m3⟩) | (exfalso; omega; done) | (exfalso; contradiction; done))
theorem sp_243av {X : Nat × (Nat → Int32)} {P : Option ma_V → (Nat → Nat → Int32) → Prop} {T : Nat} {m : Nat → Nat → Int32} (rf : Int32) (nn : Int32) (r1 : Int32) (hV : zV m) (hpre0 : (m 94 8).toInt = 0) (KZ : ∀ v m₉, zV (zov wr_243 m m₉) → ((¬ (0 ≤ nn.toInt ∧ nn.toInt ≤ 60 ∧ 0 ≤ r1.toInt ∧ r1.toInt ≤ 15) ∧ (m₉ 94 0).toInt = 1) ∨ ((0 ≤ nn.toInt ∧ nn.toInt ≤ 60 ∧ 0 ≤ r1.toInt ∧ r1.toInt ≤ 15) ∧ (m₉ 94 0).toInt = 2)) → P (some (.inl v)) (zov wr_243 m m₉)) : zm X 10 224 243 0 [(0, .inr (.inr (some 94))), (1, .inl rf), (2, .inl nn), (3, .inl r1)] m P := by
  have K : ∀ v m₉, zF wr_243 m m₉ → zV m₉ → ((¬ (0 ≤ nn.toInt ∧ nn.toInt ≤ 60 ∧ 0 ≤ r1.toInt ∧ r1.toInt ≤ 15) ∧ (m₉ 94 0).toInt = 1) ∨ ((0 ≤ nn.toInt ∧ nn.toInt ≤ 60 ∧ 0 ≤ r1.toInt ∧ r1.toInt ≤ 15) ∧ (m₉ 94 0).toInt = 2)) → P (some (.inl v)) m₉ := by
    intro v m₉ hf z q0
    have e := zov_eq hf
    rw [e] at z ⊢
    try rw [e] at q0
    exact KZ v m₉ z q0
  refine g_243_0 rf nn r1 ?_
  have f1 : 0 ≤ (m 94 8).toInt ∧ (m 94 8).toInt ≤ 1 := rs_94_8 (m := m) hV
  have b2 := i_bd nn
  have li3 : (0 : Int32).toInt = 0 := rfl
  refine zd (fun (h4 : nn < (0 : Int32)) => ?_) (fun (h4 : ¬ nn < (0 : Int32)) => ?_)
  · skip
    have g5 := i_lt h4
    have hV6 : zV (ma_u m 94 0 (1 : Int32)) := uf_94_0 hV
    have li7 : (1 : Int32).toInt = 1 := rfl
    have f8 : 0 ≤ (m 94 7).toInt ∧ (m 94 7).toInt ≤ 16 := rs_94_7 (m := m) hV
    exact K ((0 : Int32)) _ (zF_u zF_rfl rfl) hV6 (show (¬ (0 ≤ nn.toInt ∧ nn.toInt ≤ 60 ∧ 0 ≤ r1.toInt ∧ r1.toInt ≤ 15) ∧ (1 : Int32).toInt = 1) ∨ ((0 ≤ nn.toInt ∧ nn.toInt ≤ 60 ∧ 0 ≤ r1.toInt ∧ r1.toInt ≤ 15) ∧ (1 : Int32).toInt = 2) from by omega)
  · skip
    have g9 := i_nlt h4
    have li10 : (60 : Int32).toInt = 60 := rfl
    refine zd (fun (h11 : (60 : Int32) < nn) => ?_) (fun (h11 : ¬ (60 : Int32) < nn) => ?_)
    · skip
      have g12 := i_lt h11
      have hV13 : zV (ma_u m 94 0 (1 : Int32)) := uf_94_0 hV
      have li14 : (1 : Int32).toInt = 1 := rfl
      have f15 : 0 ≤ (m 94 7).toInt ∧ (m 94 7).toInt ≤ 16 := rs_94_7 (m := m) hV
      exact K ((0 : Int32)) _ (zF_u zF_rfl rfl) hV13 (show (¬ (0 ≤ nn.toInt ∧ nn.toInt ≤ 60 ∧ 0 ≤ r1.toInt ∧ r1.toInt ≤ 15) ∧ (1 : Int32).toInt = 1) ∨ ((0 ≤ nn.toInt ∧ nn.toInt ≤ 60 ∧ 0 ≤ r1.toInt ∧ r1.toInt ≤ 15) ∧ (1 : Int32).toInt = 2) from by omega)
    · skip
      have g16 := i_nlt h11
      have b17 := i_bd r1
      refine zd (fun (h18 : r1 < (0 : Int32)) => ?_) (fun (h18 : ¬ r1 < (0 : Int32)) => ?_)
      · skip
        have g19 := i_lt h18
        have hV20 : zV (ma_u m 94 0 (1 : Int32)) := uf_94_0 hV
        have li21 : (1 : Int32).toInt = 1 := rfl
        have f22 : 0 ≤ (m 94 7).toInt ∧ (m 94 7).toInt ≤ 16 := rs_94_7 (m := m) hV
        exact K ((0 : Int32)) _ (zF_u zF_rfl rfl) hV20 (show (¬ (0 ≤ nn.toInt ∧ nn.toInt ≤ 60 ∧ 0 ≤ r1.toInt ∧ r1.toInt ≤ 15) ∧ (1 : Int32).toInt = 1) ∨ ((0 ≤ nn.toInt ∧ nn.toInt ≤ 60 ∧ 0 ≤ r1.toInt ∧ r1.toInt ≤ 15) ∧ (1 : Int32).toInt = 2) from by omega)
      · skip
        have g23 := i_nlt h18
        have li24 : (16 : Int32).toInt = 16 := rfl
        refine zd (fun (h25 : (16 : Int32) ≤ r1) => ?_) (fun (h25 : ¬ (16 : Int32) ≤ r1) => ?_)
        · skip
          have g26 := i_le h25
          have hV27 : zV (ma_u m 94 0 (1 : Int32)) := uf_94_0 hV
          have li28 : (1 : Int32).toInt = 1 := rfl
          have f29 : 0 ≤ (m 94 7).toInt ∧ (m 94 7).toInt ≤ 16 := rs_94_7 (m := m) hV
          exact K ((0 : Int32)) _ (zF_u zF_rfl rfl) hV27 (show (¬ (0 ≤ nn.toInt ∧ nn.toInt ≤ 60 ∧ 0 ≤ r1.toInt ∧ r1.toInt ≤ 15) ∧ (1 : Int32).toInt = 1) ∨ ((0 ≤ nn.toInt ∧ nn.toInt ≤ 60 ∧ 0 ≤ r1.toInt ∧ r1.toInt ≤ 15) ∧ (1 : Int32).toInt = 2) from by omega)
        · skip
          have g30 := i_nle h25
          refine zd (fun (h31 : (m 94 8) = (0 : Int32)) => ?_) (fun (h31 : ¬ (m 94 8) = (0 : Int32)) => ?_)
          · skip
            have g32 := i_eq h31
            have hV33 : zV (ma_u m 94 0 (2 : Int32)) := uf_94_0 hV
            have li34 : (2 : Int32).toInt = 2 := rfl
            have f35 : 0 ≤ (m 94 7).toInt ∧ (m 94 7).toInt ≤ 16 := rs_94_7 (m := m) hV
            exact K ((0 : Int32)) _ (zF_u zF_rfl rfl) hV33 (show (¬ (0 ≤ nn.toInt ∧ nn.toInt ≤ 60 ∧ 0 ≤ r1.toInt ∧ r1.toInt ≤ 15) ∧ (2 : Int32).toInt = 1) ∨ ((0 ≤ nn.toInt ∧ nn.toInt ≤ 60 ∧ 0 ≤ r1.toInt ∧ r1.toInt ≤ 15) ∧ (2 : Int32).toInt = 2) from by omega)
          · skip
            have g36 := i_ne h31
            have b37 := i_bd rf
            refine zd (fun (h38 : rf = (0 : Int32)) => ?_) (fun (h38 : ¬ rf = (0 : Int32)) => ?_)
            · skip
              have g39 := i_eq h38
              have li40 : (17 : Int32).toInt = 17 := rfl
              have hV41 : zV (ma_u m 94 0 (0 : Int32)) := uf_94_0 hV
              have f42 : 0 ≤ (m 94 7).toInt ∧ (m 94 7).toInt ≤ 16 := rs_94_7 (m := m) hV
              have f43 : 0 ≤ (m 94 58).toInt ∧ (m 94 58).toInt ≤ 1 := rs_94_58 (m := m) hV
              have f44 : 0 ≤ (m 94 10).toInt ∧ (m 94 10).toInt ≤ 6 := rs_94_10 (m := m) hV
              refine sp_183 ((17 : Int32)) (nn) (r1) hV41 (by omega) (by omega) (by omega) (by omega) (by omega) (by omega) (by omega) (show 16 ≤ (17 : Int32).toInt ∨ (17 : Int32).toInt < (m 94 7).toInt from by omega) (show zW (m 94 7) (m 98) (m 101) (m 102) (m 108) from by first | (exfalso; omega; done) | (exfalso; contradiction; done)) (show zGW T (m 94 55) (m 109) from by first | (exfalso; omega; done) | (exfalso; contradiction; done)) (show zGU T (m 94 46) (m 99) from by first | (exfalso; omega; done) | (exfalso; contradiction; done)) (show zOw (m 99) (m 103) (m 111) from by first | (exfalso; omega; done) | (exfalso; contradiction; done)) (show zDX (m 94 10) (m 99) (m 112) (m 113) (m 114) (m 94 55) (m 98) (m 101) (m 102) (m 108) from by first | (exfalso; omega; done) | (exfalso; contradiction; done)) (show zGG (m 94 58) (m 94 56) (m 94 57) (m 106) from by first | (exact fun z => absurd z (by decide)) | (exact fun z => absurd z (by omega)) | (exfalso; omega; done) | (exfalso; contradiction; done)) (show zHA (m 94 10) (m 94 11) (m 94 13) (m 94 14) (m 94 16) (m 94 61) (m 94 59) (m 94 60) (m 99) (m 102) (m 103) (m 111) (m 117) (m 98) (m 101) (m 108) from by first | (exfalso; omega; done) | (exfalso; contradiction; done)) (show zRG (m 94 10) (m 94 18) (m 94 64) (m 94 63) (m 99) (m 103) (m 102) (m 116) from by first | (exfalso; omega; done) | (exfalso; contradiction; done)) (show (m 94 58).toInt = 0 ∨ (m 94 10).toInt = 5 from by omega) (fun v2 m1 hV_m1 p0_m1 p1_m1 p2_m1 p3_m1 p4_m1 p5_m1 p6_m1 p7_m1 p8_m1 => zmi_n ?_)
              have p0_m1 : zW (m 94 7) (m 98) (m1 101) (m1 102) (m1 108) := p0_m1
              have p1_m1 : zGW (T + 1) (m1 94 55) (m1 109) := p1_m1
              have p2_m1 : zGU (T + 1) (m1 94 46) (m1 99) := p2_m1
              have p3_m1 : zOw (m1 99) (m1 103) (m1 111) := p3_m1
              have p4_m1 : zDX (m 94 10) (m1 99) (m1 112) (m1 113) (m1 114) (m1 94 55) (m 98) (m1 101) (m1 102) (m1 108) := p4_m1
              have p5_m1 : zGG (m1 94 58) (m1 94 56) (m1 94 57) (m1 106) := p5_m1
              have p6_m1 : zHA (m 94 10) (m 94 11) (m 94 13) (m 94 14) (m 94 16) (m1 94 61) (m1 94 59) (m1 94 60) (m1 99) (m1 102) (m1 103) (m1 111) (m1 117) (m 98) (m1 101) (m1 108) := p6_m1
              have p7_m1 : zRG (m 94 10) (m 94 18) (m 94 64) (m1 94 63) (m1 99) (m1 103) (m1 102) (m1 116) := p7_m1
              have p8_m1 : (m1 94 58).toInt = 0 ∨ (m 94 10).toInt = 5 := p8_m1
              have f45 : 0 ≤ (m1 94 58).toInt ∧ (m1 94 58).toInt ≤ 1 := rs_94_58 (m := (zov wr_183 (ma_u m 94 0 (0 : Int32)) m1)) hV_m1
              have b46 := i_bd v2
              exact K (v2) _ (zF_zov (zF_u zF_rfl rfl) ws_183_243) hV_m1 (show (¬ (0 ≤ nn.toInt ∧ nn.toInt ≤ 60 ∧ 0 ≤ r1.toInt ∧ r1.toInt ≤ 15) ∧ (0 : Int32).toInt = 1) ∨ ((0 ≤ nn.toInt ∧ nn.toInt ≤ 60 ∧ 0 ≤ r1.toInt ∧ r1.toInt ≤ 15) ∧ (0 : Int32).toInt = 2) from by omega)
            · skip
              have g47 := i_ne h38
              have hV48 : zV (ma_u m 94 0 (0 : Int32)) := uf_94_0 hV
              have f49 : 0 ≤ (m 94 7).toInt ∧ (m 94 7).toInt ≤ 16 := rs_94_7 (m := m) hV
              have f50 : 0 ≤ (m 94 58).toInt ∧ (m 94 58).toInt ≤ 1 := rs_94_58 (m := m) hV
              have f51 : 0 ≤ (m 94 10).toInt ∧ (m 94 10).toInt ≤ 6 := rs_94_10 (m := m) hV
              refine sp_183 ((16 : Int32)) (nn) (r1) hV48 (by omega) (by omega) (by omega) (by omega) (by omega) (by omega) (by omega) (show 16 ≤ (16 : Int32).toInt ∨ (16 : Int32).toInt < (m 94 7).toInt from by omega) (show zW (m 94 7) (m 98) (m 101) (m 102) (m 108) from by first | (exfalso; omega; done) | (exfalso; contradiction; done)) (show zGW T (m 94 55) (m 109) from by first | (exfalso; omega; done) | (exfalso; contradiction; done)) (show zGU T (m 94 46) (m 99) from by first | (exfalso; omega; done) | (exfalso; contradiction; done)) (show zOw (m 99) (m 103) (m 111) from by first | (exfalso; omega; done) | (exfalso; contradiction; done)) (show zDX (m 94 10) (m 99) (m 112) (m 113) (m 114) (m 94 55) (m 98) (m 101) (m 102) (m 108) from by first | (exfalso; omega; done) | (exfalso; contradiction; done)) (show zGG (m 94 58) (m 94 56) (m 94 57) (m 106) from by first | (exact fun z => absurd z (by decide)) | (exact fun z => absurd z (by omega)) | (exfalso; omega; done) | (exfalso; contradiction; done)) (show zHA (m 94 10) (m 94 11) (m 94 13) (m 94 14) (m 94 16) (m 94 61) (m 94 59) (m 94 60) (m 99) (m 102) (m 103) (m 111) (m 117) (m 98) (m 101) (m 108) from by first | (exfalso; omega; done) | (exfalso; contradiction; done)) (show zRG (m 94 10) (m 94 18) (m 94 64) (m 94 63) (m 99) (m 103) (m 102) (m 116) from by first | (exfalso; omega; done) | (exfalso; contradiction; done)) (show (m 94 58).toInt = 0 ∨ (m 94 10).toInt = 5 from by omega) (fun v4 m3 hV_m3 p0_m3 p1_m3 p2_m3 p3_m3 p4_m3 p5_m3 p6_m3 p7_m3 p8_m3 => zmi_n ?_)
              have p0_m3 : zW (m 94 7) (m 98) (m3 101) (m3 102) (m3 108) := p0_m3
              have p1_m3 : zGW (T + 1) (m3 94 55) (m3 109) := p1_m3
              have p2_m3 : zGU (T + 1) (m3 94 46) (m3 99) := p2_m3
              have p3_m3 : zOw (m3 99) (m3 103) (m3 111) := p3_m3
              have p4_m3 : zDX (m 94 10) (m3 99) (m3 112) (m3 113) (m3 114) (m3 94 55) (m 98) (m3 101) (m3 102) (m3 108) := p4_m3
              have p5_m3 : zGG (m3 94 58) (m3 94 56) (m3 94 57) (m3 106) := p5_m3
              have p6_m3 : zHA (m 94 10) (m 94 11) (m 94 13) (m 94 14) (m 94 16) (m3 94 61) (m3 94 59) (m3 94 60) (m3 99) (m3 102) (m3 103) (m3 111) (m3 117) (m 98) (m3 101) (m3 108) := p6_m3
              have p7_m3 : zRG (m 94 10) (m 94 18) (m 94 64) (m3 94 63) (m3 99) (m3 103) (m3 102) (m3 116) := p7_m3
              have p8_m3 : (m3 94 58).toInt = 0 ∨ (m 94 10).toInt = 5 := p8_m3
              have f52 : 0 ≤ (m3 94 58).toInt ∧ (m3 94 58).toInt ≤ 1 := rs_94_58 (m := (zov wr_183 (ma_u m 94 0 (0 : Int32)) m3)) hV_m3
              have b53 := i_bd v4
              exact K (v4) _ (zF_zov (zF_u zF_rfl rfl) ws_183_243) hV_m3 (show (¬ (0 ≤ nn.toInt ∧ nn.toInt ≤ 60 ∧ 0 ≤ r1.toInt ∧ r1.toInt ≤ 15) ∧ (0 : Int32).toInt = 1) ∨ ((0 ≤ nn.toInt ∧ nn.toInt ≤ 60 ∧ 0 ≤ r1.toInt ∧ r1.toInt ≤ 15) ∧ (0 : Int32).toInt = 2) from by omega)

