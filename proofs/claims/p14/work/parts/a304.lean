/-! from 95.y02 -/
/-! the reference opens a heap (written by wip/tools/gen15w.py) -/
theorem lp_180qm_224 {X : Nat × (Nat → Int32)} {P : Option ma_V → (Nat → Nat → Int32) → Prop} {T : Nat} {m0 : Nat → Nat → Int32} (h0 : zV m0) (K : ∀ m₉, zF wr_180 m0 m₉ → zV m₉ → (zGW T (m₉ 94 55) (m₉ 109)) → (zGU T (m₉ 94 46) (m₉ 99)) → (zOw (m₉ 99) (m₉ 103) (m₉ 111)) → (zDX (m₉ 94 10) (m₉ 99) (m₉ 112) (m₉ 113) (m₉ 114) (m₉ 94 55) (m₉ 98) (m₉ 101) (m₉ 102) (m₉ 108)) → (zGG (m₉ 94 58) (m₉ 94 56) (m₉ 94 57) (m₉ 106)) → (zHA (m₉ 94 10) (m₉ 94 11) (m₉ 94 13) (m₉ 94 14) (m₉ 94 16) (m₉ 94 61) (m₉ 94 59) (m₉ 94 60) (m₉ 99) (m₉ 102) (m₉ 103) (m₉ 111) (m₉ 117) (m₉ 98) (m₉ 101) (m₉ 108)) → (zRG (m₉ 94 10) (m₉ 94 18) (m₉ 94 64) (m₉ 94 63) (m₉ 99) (m₉ 103) (m₉ 102) (m₉ 116)) → ((m₉ 94 58).toInt = 0 ∨ (m₉ 94 10).toInt = 5) → ((m₉ 94 10).toInt = 6 → (m₉ 94 64) = (m₉ 94 11) / (m₉ 94 18)) → (∀ s : Nat, s < 3100 → (m₉ 99) s = 0) → (∀ s : Nat, s < 4600 → ((m₉ 111) s).toInt < 0) → (∀ s : Nat, (s : Int) < 16 → ((m₉ 112) s).toInt < 0) → (∀ s : Nat, (s : Int) < 16 → ((m₉ 113) s).toInt < 0) → ((m₉ 94 45).toInt = 0 ∧ (m₉ 94 46).toInt = 0 ∧ (m₉ 94 55).toInt = 0 ∧ (m₉ 94 58).toInt = 0 ∧ (m₉ 94 62).toInt = 0) → ((m₉ 94 8).toInt = 1) → ((m₉ 94 60).toInt = 0 ∧ (m₉ 94 61).toInt = 0 ∧ (m₉ 94 63).toInt = 0) → (((m₉ 94 10).toInt = 3 ∧ (m₉ 94 59).toInt = (m₉ 94 14).toInt) ∨ ((m₉ 94 10).toInt ≠ 3 ∧ (m₉ 94 59).toInt = 0)) → (∀ s : Nat, s < 128 → (m₉ 116) s = 0) → (∀ s : Nat, s < 512 → (m₉ 117) s = 0) → P none m₉) : ∀ (n : Nat) (m : Nat → Nat → Int32) (l1 : Int32), (512 - l1.toInt).toNat = n → zF wr_180 m0 m → zV m → (0 ≤ l1.toInt) → (∀ s : Nat, s < 3100 → (m 99) s = 0) → (∀ s : Nat, s < 4600 → ((m 111) s).toInt < 0) → (∀ s : Nat, (s : Int) < 16 → ((m 112) s).toInt < 0) → (∀ s : Nat, (s : Int) < 16 → ((m 113) s).toInt < 0) → (zGW T (m 94 55) (m 109)) → (((m 94 10).toInt ≠ 3 ∨ 4 ≤ (m 94 16).toInt) ∧ ((m 94 10).toInt ≠ 6 ∨ (16 ≤ (m 94 18).toInt ∧ 4 * (m 94 18).toInt ≤ (m 94 11).toInt)) ∧ (m 94 11).toInt ≤ 1500 ∧ 0 ≤ (m 94 13).toInt ∧ 0 ≤ (m 94 14).toInt ∧ 0 ≤ (m 94 11).toInt) → ((m 94 58).toInt = 0 ∧ (m 94 55).toInt = 0 ∧ (m 94 46).toInt = 0 ∧ (m 94 61).toInt = 0 ∧ (m 94 60).toInt = 0 ∧ (m 94 63).toInt = 0 ∧ (((m 94 10).toInt = 3 ∧ (m 94 59).toInt = (m 94 14).toInt) ∨ ((m 94 10).toInt ≠ 3 ∧ (m 94 59).toInt = 0)) ∧ (m 94 64).toInt ≤ 93) → ((m 94 10).toInt = 6 → (m 94 64) = (m 94 11) / (m 94 18)) → (∀ s : Nat, s < 128 → (m 116) s = 0) → ((m 94 8).toInt = 1) → ((m 94 45).toInt = 0) → ((m 94 62).toInt = 0) → (∀ s : Nat, (s : Int) < l1.toInt → (m 117) s = 0) → zm X 0 0 180 224 [(0, .inr (.inr (some 94))), (1, .inl l1)] m P := by
  intro n
  induction n using Nat.strongRecOn with
  | _ n IH =>
    intro m l1 hmu hF hV hi0 r_U0 r_O0 r_NR r_NK r_GW hi6 hi7 r_RGQ r_T0 hi10 hi11 hi12 r_D0l
    refine g_180_224 l1 ?_
    have f1 : 0 ≤ (m 94 10).toInt ∧ (m 94 10).toInt ≤ 6 := rs_94_10 (m := m) hV
    have f2 : 0 ≤ (m 94 16).toInt ∧ (m 94 16).toInt ≤ 64 := rs_94_16 (m := m) hV
    have f3 : 0 ≤ (m 94 18).toInt ∧ (m 94 18).toInt ≤ 256 := rs_94_18 (m := m) hV
    have f4 : 0 ≤ (m 94 11).toInt ∧ (m 94 11).toInt ≤ 1500 := rs_94_11 (m := m) hV
    have f5 : 0 ≤ (m 94 13).toInt ∧ (m 94 13).toInt ≤ 1500 := rs_94_13 (m := m) hV
    have f6 : 0 ≤ (m 94 14).toInt ∧ (m 94 14).toInt ≤ 1500 := rs_94_14 (m := m) hV
    have f7 : 0 ≤ (m 94 58).toInt ∧ (m 94 58).toInt ≤ 1 := rs_94_58 (m := m) hV
    have f8 : 0 ≤ (m 94 55).toInt ∧ (m 94 55).toInt ≤ 3100 := rs_94_55 (m := m) hV
    have f9 : 0 ≤ (m 94 46).toInt ∧ (m 94 46).toInt ≤ 100000 := rs_94_46 (m := m) hV
    have f10 : 0 ≤ (m 94 61).toInt ∧ (m 94 61).toInt ≤ 1 := rs_94_61 (m := m) hV
    have f11 : 0 ≤ (m 94 60).toInt ∧ (m 94 60).toInt ≤ 1600 := rs_94_60 (m := m) hV
    have f12 : 0 ≤ (m 94 63).toInt ∧ (m 94 63).toInt ≤ 127 := rs_94_63 (m := m) hV
    have f13 : 0 ≤ (m 94 59).toInt ∧ (m 94 59).toInt ≤ 4600 := rs_94_59 (m := m) hV
    have f14 : 0 ≤ (m 94 64).toInt ∧ (m 94 64).toInt ≤ 93 := rs_94_64 (m := m) hV
    have f15 : 0 ≤ (m 94 8).toInt ∧ (m 94 8).toInt ≤ 1 := rs_94_8 (m := m) hV
    have b16 := i_bd (m 94 45)
    have f17 : 0 ≤ (m 94 62).toInt ∧ (m 94 62).toInt ≤ 4600 := rs_94_62 (m := m) hV
    have li18 : (512 : Int32).toInt = 512 := rfl
    have b19 := i_bd l1
    refine zd (fun (h20 : (512 : Int32) ≤ l1) => ?_) (fun (h20 : ¬ (512 : Int32) ≤ l1) => ?_)
    · skip
      have g21 := i_le h20
      exact K _ hF hV r_GW (show zGU T (m 94 46) (m 99) from by first | (exact GU_e r_U0 (by omega) r_GW.2) | (exfalso; omega; done) | (exfalso; contradiction; done)) (show zOw (m 99) (m 103) (m 111) from by first | (exact OW_e r_O0) | (exfalso; omega; done) | (exfalso; contradiction; done)) (show zDX (m 94 10) (m 99) (m 112) (m 113) (m 114) (m 94 55) (m 98) (m 101) (m 102) (m 108) from by first | (exact DX_e r_U0 r_NR r_NK (by omega)) | (exfalso; omega; done) | (exfalso; contradiction; done)) (show zGG (m 94 58) (m 94 56) (m 94 57) (m 106) from by first | (exact fun z => absurd z (by omega)) | (exact fun z => absurd z (by decide)) | (exact fun z => absurd z (by omega)) | (exfalso; omega; done) | (exfalso; contradiction; done)) (show zHA (m 94 10) (m 94 11) (m 94 13) (m 94 14) (m 94 16) (m 94 61) (m 94 59) (m 94 60) (m 99) (m 102) (m 103) (m 111) (m 117) (m 98) (m 101) (m 108) from by first | (exact HA_e r_U0 (fun z => by omega) (fun z => by omega) (by omega) (by omega)) | (exfalso; omega; done) | (exfalso; contradiction; done)) (show zRG (m 94 10) (m 94 18) (m 94 64) (m 94 63) (m 99) (m 103) (m 102) (m 116) from by first | (exact fun z => RG_e r_U0 (by omega) (by omega) (by omega) (r_RGQ z) (by omega) r_T0 (by omega)) | (exfalso; omega; done) | (exfalso; contradiction; done)) (show (m 94 58).toInt = 0 ∨ (m 94 10).toInt = 5 from by omega) r_RGQ r_U0 r_O0 r_NR r_NK (show (m 94 45).toInt = 0 ∧ (m 94 46).toInt = 0 ∧ (m 94 55).toInt = 0 ∧ (m 94 58).toInt = 0 ∧ (m 94 62).toInt = 0 from by omega) (show (m 94 8).toInt = 1 from by omega) (show (m 94 60).toInt = 0 ∧ (m 94 61).toInt = 0 ∧ (m 94 63).toInt = 0 from by omega) (show ((m 94 10).toInt = 3 ∧ (m 94 59).toInt = (m 94 14).toInt) ∨ ((m 94 10).toInt ≠ 3 ∧ (m 94 59).toInt = 0) from by omega) r_T0 (show ∀ s : Nat, s < 512 → (m 117) s = 0 from by first | (exact fun s hs => r_D0l s (by omega)) | (exfalso; omega; done) | (exfalso; contradiction; done))
    · skip
      have g22 := i_nle h20
      have hg23 : (0 ≤ l1 ∧ l1.toNatClampNeg < 512) := i_ix (by omega) (by omega)
      refine ⟨hg23, ?_⟩
      have li25 : (0 : Int32).toInt = 0 := rfl
      have hV24 : zV (ma_u m 117 l1.toNatClampNeg (0 : Int32)) := ua_117 hV (by omega) (by omega)
      first | have e26 : (l1 + (1 : Int32)).toInt = l1.toInt + (1) := i_addk rfl (by omega) (by omega) | have b27 := i_bd (l1 + (1 : Int32))
      exact IH (512 - (l1 + (1 : Int32)).toInt).toNat (by omega) _ ((l1 + (1 : Int32))) rfl (zF_u hF rfl) hV24 (by omega) r_U0 r_O0 r_NR r_NK r_GW (show ((m 94 10).toInt ≠ 3 ∨ 4 ≤ (m 94 16).toInt) ∧ ((m 94 10).toInt ≠ 6 ∨ (16 ≤ (m 94 18).toInt ∧ 4 * (m 94 18).toInt ≤ (m 94 11).toInt)) ∧ (m 94 11).toInt ≤ 1500 ∧ 0 ≤ (m 94 13).toInt ∧ 0 ≤ (m 94 14).toInt ∧ 0 ≤ (m 94 11).toInt from by omega) (show (m 94 58).toInt = 0 ∧ (m 94 55).toInt = 0 ∧ (m 94 46).toInt = 0 ∧ (m 94 61).toInt = 0 ∧ (m 94 60).toInt = 0 ∧ (m 94 63).toInt = 0 ∧ (((m 94 10).toInt = 3 ∧ (m 94 59).toInt = (m 94 14).toInt) ∨ ((m 94 10).toInt ≠ 3 ∧ (m 94 59).toInt = 0)) ∧ (m 94 64).toInt ≤ 93 from by omega) r_RGQ r_T0 (show (m 94 8).toInt = 1 from by omega) (show (m 94 45).toInt = 0 from by omega) (show (m 94 62).toInt = 0 from by omega) (show ∀ s : Nat, (s : Int) < (l1 + (1 : Int32)).toInt → ((ma_u m 117 l1.toNatClampNeg (0 : Int32)) 117) s = 0 from by first | (exact z0_step r_D0l (by omega) (by omega)) | (intro s hs; omega; done) | (exfalso; omega; done) | (exfalso; contradiction; done))
theorem lp_180qm_200 {X : Nat × (Nat → Int32)} {P : Option ma_V → (Nat → Nat → Int32) → Prop} {T : Nat} {m0 : Nat → Nat → Int32} (h0 : zV m0) (K : ∀ m₉, zF wr_180 m0 m₉ → zV m₉ → (zGW T (m₉ 94 55) (m₉ 109)) → (zGU T (m₉ 94 46) (m₉ 99)) → (zOw (m₉ 99) (m₉ 103) (m₉ 111)) → (zDX (m₉ 94 10) (m₉ 99) (m₉ 112) (m₉ 113) (m₉ 114) (m₉ 94 55) (m₉ 98) (m₉ 101) (m₉ 102) (m₉ 108)) → (zGG (m₉ 94 58) (m₉ 94 56) (m₉ 94 57) (m₉ 106)) → (zHA (m₉ 94 10) (m₉ 94 11) (m₉ 94 13) (m₉ 94 14) (m₉ 94 16) (m₉ 94 61) (m₉ 94 59) (m₉ 94 60) (m₉ 99) (m₉ 102) (m₉ 103) (m₉ 111) (m₉ 117) (m₉ 98) (m₉ 101) (m₉ 108)) → (zRG (m₉ 94 10) (m₉ 94 18) (m₉ 94 64) (m₉ 94 63) (m₉ 99) (m₉ 103) (m₉ 102) (m₉ 116)) → ((m₉ 94 58).toInt = 0 ∨ (m₉ 94 10).toInt = 5) → ((m₉ 94 10).toInt = 6 → (m₉ 94 64) = (m₉ 94 11) / (m₉ 94 18)) → (∀ s : Nat, s < 3100 → (m₉ 99) s = 0) → (∀ s : Nat, s < 4600 → ((m₉ 111) s).toInt < 0) → (∀ s : Nat, (s : Int) < 16 → ((m₉ 112) s).toInt < 0) → (∀ s : Nat, (s : Int) < 16 → ((m₉ 113) s).toInt < 0) → ((m₉ 94 45).toInt = 0 ∧ (m₉ 94 46).toInt = 0 ∧ (m₉ 94 55).toInt = 0 ∧ (m₉ 94 58).toInt = 0 ∧ (m₉ 94 62).toInt = 0) → ((m₉ 94 8).toInt = 1) → ((m₉ 94 60).toInt = 0 ∧ (m₉ 94 61).toInt = 0 ∧ (m₉ 94 63).toInt = 0) → (((m₉ 94 10).toInt = 3 ∧ (m₉ 94 59).toInt = (m₉ 94 14).toInt) ∨ ((m₉ 94 10).toInt ≠ 3 ∧ (m₉ 94 59).toInt = 0)) → (∀ s : Nat, s < 128 → (m₉ 116) s = 0) → (∀ s : Nat, s < 512 → (m₉ 117) s = 0) → P none m₉) : ∀ (n : Nat) (m : Nat → Nat → Int32) (l1 : Int32), (128 - l1.toInt).toNat = n → zF wr_180 m0 m → zV m → (0 ≤ l1.toInt) → (∀ s : Nat, s < 3100 → (m 99) s = 0) → (∀ s : Nat, s < 4600 → ((m 111) s).toInt < 0) → (∀ s : Nat, (s : Int) < 16 → ((m 112) s).toInt < 0) → (∀ s : Nat, (s : Int) < 16 → ((m 113) s).toInt < 0) → (zGW T (m 94 55) (m 109)) → (((m 94 10).toInt ≠ 3 ∨ 4 ≤ (m 94 16).toInt) ∧ ((m 94 10).toInt ≠ 6 ∨ (16 ≤ (m 94 18).toInt ∧ 4 * (m 94 18).toInt ≤ (m 94 11).toInt)) ∧ (m 94 11).toInt ≤ 1500 ∧ 0 ≤ (m 94 13).toInt ∧ 0 ≤ (m 94 14).toInt ∧ 0 ≤ (m 94 11).toInt) → ((m 94 58).toInt = 0 ∧ (m 94 55).toInt = 0 ∧ (m 94 46).toInt = 0 ∧ (m 94 61).toInt = 0 ∧ (m 94 60).toInt = 0 ∧ (m 94 63).toInt = 0 ∧ (((m 94 10).toInt = 3 ∧ (m 94 59).toInt = (m 94 14).toInt) ∨ ((m 94 10).toInt ≠ 3 ∧ (m 94 59).toInt = 0)) ∧ (m 94 64).toInt ≤ 93) → ((m 94 10).toInt = 6 → (m 94 64) = (m 94 11) / (m 94 18)) → (∀ s : Nat, (s : Int) < l1.toInt → (m 116) s = 0) → ((m 94 8).toInt = 1) → ((m 94 45).toInt = 0) → ((m 94 62).toInt = 0) → zm X 0 0 180 200 [(0, .inr (.inr (some 94))), (1, .inl l1)] m P := by
  intro n
  induction n using Nat.strongRecOn with
  | _ n IH =>
    intro m l1 hmu hF hV hi0 r_U0 r_O0 r_NR r_NK r_GW hi6 hi7 r_RGQ r_T0l hi10 hi11 hi12
    refine g_180_200 l1 ?_
    have f1 : 0 ≤ (m 94 10).toInt ∧ (m 94 10).toInt ≤ 6 := rs_94_10 (m := m) hV
    have f2 : 0 ≤ (m 94 16).toInt ∧ (m 94 16).toInt ≤ 64 := rs_94_16 (m := m) hV
    have f3 : 0 ≤ (m 94 18).toInt ∧ (m 94 18).toInt ≤ 256 := rs_94_18 (m := m) hV
    have f4 : 0 ≤ (m 94 11).toInt ∧ (m 94 11).toInt ≤ 1500 := rs_94_11 (m := m) hV
    have f5 : 0 ≤ (m 94 13).toInt ∧ (m 94 13).toInt ≤ 1500 := rs_94_13 (m := m) hV
    have f6 : 0 ≤ (m 94 14).toInt ∧ (m 94 14).toInt ≤ 1500 := rs_94_14 (m := m) hV
    have f7 : 0 ≤ (m 94 58).toInt ∧ (m 94 58).toInt ≤ 1 := rs_94_58 (m := m) hV
    have f8 : 0 ≤ (m 94 55).toInt ∧ (m 94 55).toInt ≤ 3100 := rs_94_55 (m := m) hV
    have f9 : 0 ≤ (m 94 46).toInt ∧ (m 94 46).toInt ≤ 100000 := rs_94_46 (m := m) hV
    have f10 : 0 ≤ (m 94 61).toInt ∧ (m 94 61).toInt ≤ 1 := rs_94_61 (m := m) hV
    have f11 : 0 ≤ (m 94 60).toInt ∧ (m 94 60).toInt ≤ 1600 := rs_94_60 (m := m) hV
    have f12 : 0 ≤ (m 94 63).toInt ∧ (m 94 63).toInt ≤ 127 := rs_94_63 (m := m) hV
    have f13 : 0 ≤ (m 94 59).toInt ∧ (m 94 59).toInt ≤ 4600 := rs_94_59 (m := m) hV
    have f14 : 0 ≤ (m 94 64).toInt ∧ (m 94 64).toInt ≤ 93 := rs_94_64 (m := m) hV
    have f15 : 0 ≤ (m 94 8).toInt ∧ (m 94 8).toInt ≤ 1 := rs_94_8 (m := m) hV
    have b16 := i_bd (m 94 45)
    have f17 : 0 ≤ (m 94 62).toInt ∧ (m 94 62).toInt ≤ 4600 := rs_94_62 (m := m) hV
    have li18 : (128 : Int32).toInt = 128 := rfl
    have b19 := i_bd l1
    refine zd (fun (h20 : (128 : Int32) ≤ l1) => ?_) (fun (h20 : ¬ (128 : Int32) ≤ l1) => ?_)
    · skip
      have g21 := i_le h20
      have li22 : (0 : Int32).toInt = 0 := rfl
      exact lp_180qm_224 h0 K _ _ ((0 : Int32)) rfl hF hV (by omega) r_U0 r_O0 r_NR r_NK r_GW (show ((m 94 10).toInt ≠ 3 ∨ 4 ≤ (m 94 16).toInt) ∧ ((m 94 10).toInt ≠ 6 ∨ (16 ≤ (m 94 18).toInt ∧ 4 * (m 94 18).toInt ≤ (m 94 11).toInt)) ∧ (m 94 11).toInt ≤ 1500 ∧ 0 ≤ (m 94 13).toInt ∧ 0 ≤ (m 94 14).toInt ∧ 0 ≤ (m 94 11).toInt from by omega) (show (m 94 58).toInt = 0 ∧ (m 94 55).toInt = 0 ∧ (m 94 46).toInt = 0 ∧ (m 94 61).toInt = 0 ∧ (m 94 60).toInt = 0 ∧ (m 94 63).toInt = 0 ∧ (((m 94 10).toInt = 3 ∧ (m 94 59).toInt = (m 94 14).toInt) ∨ ((m 94 10).toInt ≠ 3 ∧ (m 94 59).toInt = 0)) ∧ (m 94 64).toInt ≤ 93 from by omega) r_RGQ (show ∀ s : Nat, s < 128 → (m 116) s = 0 from by first | (exact fun s hs => r_T0l s (by omega)) | (exfalso; omega; done) | (exfalso; contradiction; done)) (show (m 94 8).toInt = 1 from by omega) (show (m 94 45).toInt = 0 from by omega) (show (m 94 62).toInt = 0 from by omega) (show ∀ s : Nat, (s : Int) < (0 : Int32).toInt → (m 117) s = 0 from by first | (intro s hs; omega; done) | (exfalso; omega; done) | (exfalso; contradiction; done))
    · skip
      have g23 := i_nle h20
      have hg24 : (0 ≤ l1 ∧ l1.toNatClampNeg < 128) := i_ix (by omega) (by omega)
      refine ⟨hg24, ?_⟩
      have li26 : (0 : Int32).toInt = 0 := rfl
      have hV25 : zV (ma_u m 116 l1.toNatClampNeg (0 : Int32)) := ua_116 hV (by omega) (by omega)
      first | have e27 : (l1 + (1 : Int32)).toInt = l1.toInt + (1) := i_addk rfl (by omega) (by omega) | have b28 := i_bd (l1 + (1 : Int32))
      exact IH (128 - (l1 + (1 : Int32)).toInt).toNat (by omega) _ ((l1 + (1 : Int32))) rfl (zF_u hF rfl) hV25 (by omega) r_U0 r_O0 r_NR r_NK r_GW (show ((m 94 10).toInt ≠ 3 ∨ 4 ≤ (m 94 16).toInt) ∧ ((m 94 10).toInt ≠ 6 ∨ (16 ≤ (m 94 18).toInt ∧ 4 * (m 94 18).toInt ≤ (m 94 11).toInt)) ∧ (m 94 11).toInt ≤ 1500 ∧ 0 ≤ (m 94 13).toInt ∧ 0 ≤ (m 94 14).toInt ∧ 0 ≤ (m 94 11).toInt from by omega) (show (m 94 58).toInt = 0 ∧ (m 94 55).toInt = 0 ∧ (m 94 46).toInt = 0 ∧ (m 94 61).toInt = 0 ∧ (m 94 60).toInt = 0 ∧ (m 94 63).toInt = 0 ∧ (((m 94 10).toInt = 3 ∧ (m 94 59).toInt = (m 94 14).toInt) ∨ ((m 94 10).toInt ≠ 3 ∧ (m 94 59).toInt = 0)) ∧ (m 94 64).toInt ≤ 93 from by omega) r_RGQ (show ∀ s : Nat, (s : Int) < (l1 + (1 : Int32)).toInt → ((ma_u m 116 l1.toNatClampNeg (0 : Int32)) 116) s = 0 from by first | (exact z0_step r_T0l (by omega) (by omega)) | (intro s hs; omega; done) | (exfalso; omega; done) | (exfalso; contradiction; done)) (show (m 94 8).toInt = 1 from by omega) (show (m 94 45).toInt = 0 from by omega) (show (m 94 62).toInt = 0 from by omega)
theorem lp_180qm_172 {X : Nat × (Nat → Int32)} {P : Option ma_V → (Nat → Nat → Int32) → Prop} {T : Nat} {m0 : Nat → Nat → Int32} (h0 : zV m0) (K : ∀ m₉, zF wr_180 m0 m₉ → zV m₉ → (zGW T (m₉ 94 55) (m₉ 109)) → (zGU T (m₉ 94 46) (m₉ 99)) → (zOw (m₉ 99) (m₉ 103) (m₉ 111)) → (zDX (m₉ 94 10) (m₉ 99) (m₉ 112) (m₉ 113) (m₉ 114) (m₉ 94 55) (m₉ 98) (m₉ 101) (m₉ 102) (m₉ 108)) → (zGG (m₉ 94 58) (m₉ 94 56) (m₉ 94 57) (m₉ 106)) → (zHA (m₉ 94 10) (m₉ 94 11) (m₉ 94 13) (m₉ 94 14) (m₉ 94 16) (m₉ 94 61) (m₉ 94 59) (m₉ 94 60) (m₉ 99) (m₉ 102) (m₉ 103) (m₉ 111) (m₉ 117) (m₉ 98) (m₉ 101) (m₉ 108)) → (zRG (m₉ 94 10) (m₉ 94 18) (m₉ 94 64) (m₉ 94 63) (m₉ 99) (m₉ 103) (m₉ 102) (m₉ 116)) → ((m₉ 94 58).toInt = 0 ∨ (m₉ 94 10).toInt = 5) → ((m₉ 94 10).toInt = 6 → (m₉ 94 64) = (m₉ 94 11) / (m₉ 94 18)) → (∀ s : Nat, s < 3100 → (m₉ 99) s = 0) → (∀ s : Nat, s < 4600 → ((m₉ 111) s).toInt < 0) → (∀ s : Nat, (s : Int) < 16 → ((m₉ 112) s).toInt < 0) → (∀ s : Nat, (s : Int) < 16 → ((m₉ 113) s).toInt < 0) → ((m₉ 94 45).toInt = 0 ∧ (m₉ 94 46).toInt = 0 ∧ (m₉ 94 55).toInt = 0 ∧ (m₉ 94 58).toInt = 0 ∧ (m₉ 94 62).toInt = 0) → ((m₉ 94 8).toInt = 1) → ((m₉ 94 60).toInt = 0 ∧ (m₉ 94 61).toInt = 0 ∧ (m₉ 94 63).toInt = 0) → (((m₉ 94 10).toInt = 3 ∧ (m₉ 94 59).toInt = (m₉ 94 14).toInt) ∨ ((m₉ 94 10).toInt ≠ 3 ∧ (m₉ 94 59).toInt = 0)) → (∀ s : Nat, s < 128 → (m₉ 116) s = 0) → (∀ s : Nat, s < 512 → (m₉ 117) s = 0) → P none m₉) : ∀ (n : Nat) (m : Nat → Nat → Int32) , ((0 : Int)).toNat = n → zF wr_180 m0 m → zV m → (∀ s : Nat, s < 3100 → (m 99) s = 0) → (∀ s : Nat, s < 4600 → ((m 111) s).toInt < 0) → (∀ s : Nat, (s : Int) < 16 → ((m 112) s).toInt < 0) → (∀ s : Nat, (s : Int) < 16 → ((m 113) s).toInt < 0) → (zGW T (m 94 55) (m 109)) → (((m 94 10).toInt ≠ 3 ∨ 4 ≤ (m 94 16).toInt) ∧ ((m 94 10).toInt ≠ 6 ∨ (16 ≤ (m 94 18).toInt ∧ 4 * (m 94 18).toInt ≤ (m 94 11).toInt)) ∧ (m 94 11).toInt ≤ 1500 ∧ 0 ≤ (m 94 13).toInt ∧ 0 ≤ (m 94 14).toInt ∧ 0 ≤ (m 94 11).toInt) → ((m 94 46).toInt = 0 ∧ (m 94 55).toInt = 0 ∧ (m 94 58).toInt = 0 ∧ (m 94 61).toInt = 0 ∧ (m 94 60).toInt = 0 ∧ (m 94 63).toInt = 0) → (((m 94 10).toInt = 3 ∧ (m 94 59).toInt = (m 94 14).toInt) ∨ ((m 94 10).toInt ≠ 3 ∧ (m 94 59).toInt = 0)) → ((m 94 8).toInt = 1) → ((m 94 45).toInt = 0) → ((m 94 62).toInt = 0) → zm X 0 0 180 172 [(0, .inr (.inr (some 94)))] m P := by
  intro n
  induction n using Nat.strongRecOn with
  | _ n IH =>
    intro m  hmu hF hV r_U0 r_O0 r_NR r_NK r_GW hi5 hi6 hi7 hi8 hi9 hi10
    refine g_180_172  ?_
    have f1 : 0 ≤ (m 94 10).toInt ∧ (m 94 10).toInt ≤ 6 := rs_94_10 (m := m) hV
    have f2 : 0 ≤ (m 94 16).toInt ∧ (m 94 16).toInt ≤ 64 := rs_94_16 (m := m) hV
    have f3 : 0 ≤ (m 94 18).toInt ∧ (m 94 18).toInt ≤ 256 := rs_94_18 (m := m) hV
    have f4 : 0 ≤ (m 94 11).toInt ∧ (m 94 11).toInt ≤ 1500 := rs_94_11 (m := m) hV
    have f5 : 0 ≤ (m 94 13).toInt ∧ (m 94 13).toInt ≤ 1500 := rs_94_13 (m := m) hV
    have f6 : 0 ≤ (m 94 14).toInt ∧ (m 94 14).toInt ≤ 1500 := rs_94_14 (m := m) hV
    have f7 : 0 ≤ (m 94 46).toInt ∧ (m 94 46).toInt ≤ 100000 := rs_94_46 (m := m) hV
    have f8 : 0 ≤ (m 94 55).toInt ∧ (m 94 55).toInt ≤ 3100 := rs_94_55 (m := m) hV
    have f9 : 0 ≤ (m 94 58).toInt ∧ (m 94 58).toInt ≤ 1 := rs_94_58 (m := m) hV
    have f10 : 0 ≤ (m 94 61).toInt ∧ (m 94 61).toInt ≤ 1 := rs_94_61 (m := m) hV
    have f11 : 0 ≤ (m 94 60).toInt ∧ (m 94 60).toInt ≤ 1600 := rs_94_60 (m := m) hV
    have f12 : 0 ≤ (m 94 63).toInt ∧ (m 94 63).toInt ≤ 127 := rs_94_63 (m := m) hV
    have f13 : 0 ≤ (m 94 59).toInt ∧ (m 94 59).toInt ≤ 4600 := rs_94_59 (m := m) hV
    have f14 : 0 ≤ (m 94 8).toInt ∧ (m 94 8).toInt ≤ 1 := rs_94_8 (m := m) hV
    have b15 := i_bd (m 94 45)
    have f16 : 0 ≤ (m 94 62).toInt ∧ (m 94 62).toInt ≤ 4600 := rs_94_62 (m := m) hV
    have li17 : (6 : Int32).toInt = 6 := rfl
    refine zd (fun (h18 : (m 94 10) = (6 : Int32)) => ?_) (fun (h18 : ¬ (m 94 10) = (6 : Int32)) => ?_)
    · skip
      have g19 := i_eq h18
      try have dv := i_div16 (x := m 94 11) (y := m 94 18) (by omega) (by omega) (by omega)
      have hg20 : (m 94 18) ≠ 0 := i_nz (by omega)
      refine ⟨hg20, ?_⟩
      first | have f22 := i_div (x := (m 94 11)) (y := (m 94 18)) (by omega) (by omega) | have b23 := i_bd ((m 94 11) / (m 94 18))
      have hV21 : zV (ma_u m 94 64 ((m 94 11) / (m 94 18))) := us_94_64 hV (by omega) (by omega)
      have li24 : (0 : Int32).toInt = 0 := rfl
      exact lp_180qm_200 h0 K _ _ ((0 : Int32)) rfl (zF_u hF rfl) hV21 (by omega) r_U0 r_O0 r_NR r_NK r_GW (show ((m 94 10).toInt ≠ 3 ∨ 4 ≤ (m 94 16).toInt) ∧ ((m 94 10).toInt ≠ 6 ∨ (16 ≤ (m 94 18).toInt ∧ 4 * (m 94 18).toInt ≤ (m 94 11).toInt)) ∧ (m 94 11).toInt ≤ 1500 ∧ 0 ≤ (m 94 13).toInt ∧ 0 ≤ (m 94 14).toInt ∧ 0 ≤ (m 94 11).toInt from by omega) (show (m 94 58).toInt = 0 ∧ (m 94 55).toInt = 0 ∧ (m 94 46).toInt = 0 ∧ (m 94 61).toInt = 0 ∧ (m 94 60).toInt = 0 ∧ (m 94 63).toInt = 0 ∧ (((m 94 10).toInt = 3 ∧ (m 94 59).toInt = (m 94 14).toInt) ∨ ((m 94 10).toInt ≠ 3 ∧ (m 94 59).toInt = 0)) ∧ ((m 94 11) / (m 94 18)).toInt ≤ 93 from by omega) (show (m 94 10).toInt = 6 → ((m 94 11) / (m 94 18)) = (m 94 11) / (m 94 18) from by first | (exact fun _ => rfl) | (exact fun z => absurd z (by omega)) | (exfalso; omega; done) | (exfalso; contradiction; done)) (show ∀ s : Nat, (s : Int) < (0 : Int32).toInt → (m 116) s = 0 from by first | (intro s hs; omega; done) | (exfalso; omega; done) | (exfalso; contradiction; done)) (show (m 94 8).toInt = 1 from by omega) (show (m 94 45).toInt = 0 from by omega) (show (m 94 62).toInt = 0 from by omega)
    · skip
      have g25 := i_ne h18
      have li27 : (0 : Int32).toInt = 0 := rfl
      have hV26 : zV (ma_u m 94 64 (0 : Int32)) := us_94_64 hV (by omega) (by omega)
      exact lp_180qm_200 h0 K _ _ ((0 : Int32)) rfl (zF_u hF rfl) hV26 (by omega) r_U0 r_O0 r_NR r_NK r_GW (show ((m 94 10).toInt ≠ 3 ∨ 4 ≤ (m 94 16).toInt) ∧ ((m 94 10).toInt ≠ 6 ∨ (16 ≤ (m 94 18).toInt ∧ 4 * (m 94 18).toInt ≤ (m 94 11).toInt)) ∧ (m 94 11).toInt ≤ 1500 ∧ 0 ≤ (m 94 13).toInt ∧ 0 ≤ (m 94 14).toInt ∧ 0 ≤ (m 94 11).toInt from by omega) (show (m 94 58).toInt = 0 ∧ (m 94 55).toInt = 0 ∧ (m 94 46).toInt = 0 ∧ (m 94 61).toInt = 0 ∧ (m 94 60).toInt = 0 ∧ (m 94 63).toInt = 0 ∧ (((m 94 10).toInt = 3 ∧ (m 94 59).toInt = (m 94 14).toInt) ∨ ((m 94 10).toInt ≠ 3 ∧ (m 94 59).toInt = 0)) ∧ (0 : Int32).toInt ≤ 93 from by omega) (show (m 94 10).toInt = 6 → (0 : Int32) = (m 94 11) / (m 94 18) from by first | (exact fun _ => rfl) | (exact fun z => absurd z (by omega)) | (exfalso; omega; done) | (exfalso; contradiction; done)) (show ∀ s : Nat, (s : Int) < (0 : Int32).toInt → (m 116) s = 0 from by first | (intro s hs; omega; done) | (exfalso; omega; done) | (exfalso; contradiction; done)) (show (m 94 8).toInt = 1 from by omega) (show (m 94 45).toInt = 0 from by omega) (show (m 94 62).toInt = 0 from by omega)
theorem lp_180qm_157 {X : Nat × (Nat → Int32)} {P : Option ma_V → (Nat → Nat → Int32) → Prop} {T : Nat} {m0 : Nat → Nat → Int32} (h0 : zV m0) (K : ∀ m₉, zF wr_180 m0 m₉ → zV m₉ → (zGW T (m₉ 94 55) (m₉ 109)) → (zGU T (m₉ 94 46) (m₉ 99)) → (zOw (m₉ 99) (m₉ 103) (m₉ 111)) → (zDX (m₉ 94 10) (m₉ 99) (m₉ 112) (m₉ 113) (m₉ 114) (m₉ 94 55) (m₉ 98) (m₉ 101) (m₉ 102) (m₉ 108)) → (zGG (m₉ 94 58) (m₉ 94 56) (m₉ 94 57) (m₉ 106)) → (zHA (m₉ 94 10) (m₉ 94 11) (m₉ 94 13) (m₉ 94 14) (m₉ 94 16) (m₉ 94 61) (m₉ 94 59) (m₉ 94 60) (m₉ 99) (m₉ 102) (m₉ 103) (m₉ 111) (m₉ 117) (m₉ 98) (m₉ 101) (m₉ 108)) → (zRG (m₉ 94 10) (m₉ 94 18) (m₉ 94 64) (m₉ 94 63) (m₉ 99) (m₉ 103) (m₉ 102) (m₉ 116)) → ((m₉ 94 58).toInt = 0 ∨ (m₉ 94 10).toInt = 5) → ((m₉ 94 10).toInt = 6 → (m₉ 94 64) = (m₉ 94 11) / (m₉ 94 18)) → (∀ s : Nat, s < 3100 → (m₉ 99) s = 0) → (∀ s : Nat, s < 4600 → ((m₉ 111) s).toInt < 0) → (∀ s : Nat, (s : Int) < 16 → ((m₉ 112) s).toInt < 0) → (∀ s : Nat, (s : Int) < 16 → ((m₉ 113) s).toInt < 0) → ((m₉ 94 45).toInt = 0 ∧ (m₉ 94 46).toInt = 0 ∧ (m₉ 94 55).toInt = 0 ∧ (m₉ 94 58).toInt = 0 ∧ (m₉ 94 62).toInt = 0) → ((m₉ 94 8).toInt = 1) → ((m₉ 94 60).toInt = 0 ∧ (m₉ 94 61).toInt = 0 ∧ (m₉ 94 63).toInt = 0) → (((m₉ 94 10).toInt = 3 ∧ (m₉ 94 59).toInt = (m₉ 94 14).toInt) ∨ ((m₉ 94 10).toInt ≠ 3 ∧ (m₉ 94 59).toInt = 0)) → (∀ s : Nat, s < 128 → (m₉ 116) s = 0) → (∀ s : Nat, s < 512 → (m₉ 117) s = 0) → P none m₉) : ∀ (n : Nat) (m : Nat → Nat → Int32) , ((0 : Int)).toNat = n → zF wr_180 m0 m → zV m → (∀ s : Nat, s < 3100 → (m 99) s = 0) → (∀ s : Nat, s < 4600 → ((m 111) s).toInt < 0) → (∀ s : Nat, (s : Int) < 16 → ((m 112) s).toInt < 0) → (∀ s : Nat, (s : Int) < 16 → ((m 113) s).toInt < 0) → (zGW T (m 94 55) (m 109)) → (((m 94 10).toInt ≠ 3 ∨ 4 ≤ (m 94 16).toInt) ∧ ((m 94 10).toInt ≠ 6 ∨ (16 ≤ (m 94 18).toInt ∧ 4 * (m 94 18).toInt ≤ (m 94 11).toInt)) ∧ (m 94 11).toInt ≤ 1500 ∧ 0 ≤ (m 94 13).toInt ∧ 0 ≤ (m 94 14).toInt ∧ 0 ≤ (m 94 11).toInt) → ((m 94 46).toInt = 0 ∧ (m 94 55).toInt = 0 ∧ (m 94 58).toInt = 0 ∧ (m 94 61).toInt = 0) → (((m 94 10).toInt = 3 ∧ (m 94 59).toInt = (m 94 14).toInt) ∨ ((m 94 10).toInt ≠ 3 ∧ (m 94 59).toInt = 0)) → ((m 94 8).toInt = 1) → ((m 94 45).toInt = 0) → zm X 0 0 180 157 [(0, .inr (.inr (some 94)))] m P := by
  intro n
  induction n using Nat.strongRecOn with
  | _ n IH =>
    intro m  hmu hF hV r_U0 r_O0 r_NR r_NK r_GW hi5 hi6 hi7 hi8 hi9
    refine g_180_157  ?_
    have f1 : 0 ≤ (m 94 10).toInt ∧ (m 94 10).toInt ≤ 6 := rs_94_10 (m := m) hV
    have f2 : 0 ≤ (m 94 16).toInt ∧ (m 94 16).toInt ≤ 64 := rs_94_16 (m := m) hV
    have f3 : 0 ≤ (m 94 18).toInt ∧ (m 94 18).toInt ≤ 256 := rs_94_18 (m := m) hV
    have f4 : 0 ≤ (m 94 11).toInt ∧ (m 94 11).toInt ≤ 1500 := rs_94_11 (m := m) hV
    have f5 : 0 ≤ (m 94 13).toInt ∧ (m 94 13).toInt ≤ 1500 := rs_94_13 (m := m) hV
    have f6 : 0 ≤ (m 94 14).toInt ∧ (m 94 14).toInt ≤ 1500 := rs_94_14 (m := m) hV
    have f7 : 0 ≤ (m 94 46).toInt ∧ (m 94 46).toInt ≤ 100000 := rs_94_46 (m := m) hV
    have f8 : 0 ≤ (m 94 55).toInt ∧ (m 94 55).toInt ≤ 3100 := rs_94_55 (m := m) hV
    have f9 : 0 ≤ (m 94 58).toInt ∧ (m 94 58).toInt ≤ 1 := rs_94_58 (m := m) hV
    have f10 : 0 ≤ (m 94 61).toInt ∧ (m 94 61).toInt ≤ 1 := rs_94_61 (m := m) hV
    have f11 : 0 ≤ (m 94 59).toInt ∧ (m 94 59).toInt ≤ 4600 := rs_94_59 (m := m) hV
    have f12 : 0 ≤ (m 94 8).toInt ∧ (m 94 8).toInt ≤ 1 := rs_94_8 (m := m) hV
    have b13 := i_bd (m 94 45)
    have li15 : (0 : Int32).toInt = 0 := rfl
    have hV14 : zV (ma_u m 94 60 (0 : Int32)) := us_94_60 hV (by omega) (by omega)
    have hV16 : zV (ma_u (ma_u m 94 60 (0 : Int32)) 94 62 (0 : Int32)) := us_94_62 hV14 (by omega) (by omega)
    have hV17 : zV (ma_u (ma_u (ma_u m 94 60 (0 : Int32)) 94 62 (0 : Int32)) 94 63 (0 : Int32)) := us_94_63 hV16 (by omega) (by omega)
    exact lp_180qm_172 h0 K _ _  rfl (zF_u (zF_u (zF_u hF rfl) rfl) rfl) hV17 r_U0 r_O0 r_NR r_NK r_GW (show ((m 94 10).toInt ≠ 3 ∨ 4 ≤ (m 94 16).toInt) ∧ ((m 94 10).toInt ≠ 6 ∨ (16 ≤ (m 94 18).toInt ∧ 4 * (m 94 18).toInt ≤ (m 94 11).toInt)) ∧ (m 94 11).toInt ≤ 1500 ∧ 0 ≤ (m 94 13).toInt ∧ 0 ≤ (m 94 14).toInt ∧ 0 ≤ (m 94 11).toInt from by omega) (show (m 94 46).toInt = 0 ∧ (m 94 55).toInt = 0 ∧ (m 94 58).toInt = 0 ∧ (m 94 61).toInt = 0 ∧ (0 : Int32).toInt = 0 ∧ (0 : Int32).toInt = 0 from by omega) (show ((m 94 10).toInt = 3 ∧ (m 94 59).toInt = (m 94 14).toInt) ∨ ((m 94 10).toInt ≠ 3 ∧ (m 94 59).toInt = 0) from by omega) (show (m 94 8).toInt = 1 from by omega) (show (m 94 45).toInt = 0 from by omega) (show (0 : Int32).toInt = 0 from by omega)
theorem lp_180qm_137 {X : Nat × (Nat → Int32)} {P : Option ma_V → (Nat → Nat → Int32) → Prop} {T : Nat} {m0 : Nat → Nat → Int32} (h0 : zV m0) (K : ∀ m₉, zF wr_180 m0 m₉ → zV m₉ → (zGW T (m₉ 94 55) (m₉ 109)) → (zGU T (m₉ 94 46) (m₉ 99)) → (zOw (m₉ 99) (m₉ 103) (m₉ 111)) → (zDX (m₉ 94 10) (m₉ 99) (m₉ 112) (m₉ 113) (m₉ 114) (m₉ 94 55) (m₉ 98) (m₉ 101) (m₉ 102) (m₉ 108)) → (zGG (m₉ 94 58) (m₉ 94 56) (m₉ 94 57) (m₉ 106)) → (zHA (m₉ 94 10) (m₉ 94 11) (m₉ 94 13) (m₉ 94 14) (m₉ 94 16) (m₉ 94 61) (m₉ 94 59) (m₉ 94 60) (m₉ 99) (m₉ 102) (m₉ 103) (m₉ 111) (m₉ 117) (m₉ 98) (m₉ 101) (m₉ 108)) → (zRG (m₉ 94 10) (m₉ 94 18) (m₉ 94 64) (m₉ 94 63) (m₉ 99) (m₉ 103) (m₉ 102) (m₉ 116)) → ((m₉ 94 58).toInt = 0 ∨ (m₉ 94 10).toInt = 5) → ((m₉ 94 10).toInt = 6 → (m₉ 94 64) = (m₉ 94 11) / (m₉ 94 18)) → (∀ s : Nat, s < 3100 → (m₉ 99) s = 0) → (∀ s : Nat, s < 4600 → ((m₉ 111) s).toInt < 0) → (∀ s : Nat, (s : Int) < 16 → ((m₉ 112) s).toInt < 0) → (∀ s : Nat, (s : Int) < 16 → ((m₉ 113) s).toInt < 0) → ((m₉ 94 45).toInt = 0 ∧ (m₉ 94 46).toInt = 0 ∧ (m₉ 94 55).toInt = 0 ∧ (m₉ 94 58).toInt = 0 ∧ (m₉ 94 62).toInt = 0) → ((m₉ 94 8).toInt = 1) → ((m₉ 94 60).toInt = 0 ∧ (m₉ 94 61).toInt = 0 ∧ (m₉ 94 63).toInt = 0) → (((m₉ 94 10).toInt = 3 ∧ (m₉ 94 59).toInt = (m₉ 94 14).toInt) ∨ ((m₉ 94 10).toInt ≠ 3 ∧ (m₉ 94 59).toInt = 0)) → (∀ s : Nat, s < 128 → (m₉ 116) s = 0) → (∀ s : Nat, s < 512 → (m₉ 117) s = 0) → P none m₉) : ∀ (n : Nat) (m : Nat → Nat → Int32) , ((0 : Int)).toNat = n → zF wr_180 m0 m → zV m → (∀ s : Nat, s < 3100 → (m 99) s = 0) → (∀ s : Nat, s < 4600 → ((m 111) s).toInt < 0) → (∀ s : Nat, (s : Int) < 16 → ((m 112) s).toInt < 0) → (∀ s : Nat, (s : Int) < 16 → ((m 113) s).toInt < 0) → (zGW T (m 94 55) (m 109)) → (((m 94 10).toInt ≠ 3 ∨ 4 ≤ (m 94 16).toInt) ∧ ((m 94 10).toInt ≠ 6 ∨ (16 ≤ (m 94 18).toInt ∧ 4 * (m 94 18).toInt ≤ (m 94 11).toInt)) ∧ (m 94 11).toInt ≤ 1500 ∧ 0 ≤ (m 94 13).toInt ∧ 0 ≤ (m 94 14).toInt ∧ 0 ≤ (m 94 11).toInt) → ((m 94 46).toInt = 0 ∧ (m 94 55).toInt = 0 ∧ (m 94 58).toInt = 0 ∧ (m 94 61).toInt = 0) → ((m 94 8).toInt = 1) → ((m 94 45).toInt = 0) → zm X 0 0 180 137 [(0, .inr (.inr (some 94)))] m P := by
  intro n
  induction n using Nat.strongRecOn with
  | _ n IH =>
    intro m  hmu hF hV r_U0 r_O0 r_NR r_NK r_GW hi5 hi6 hi7 hi8
    refine g_180_137  ?_
    have f1 : 0 ≤ (m 94 10).toInt ∧ (m 94 10).toInt ≤ 6 := rs_94_10 (m := m) hV
    have f2 : 0 ≤ (m 94 16).toInt ∧ (m 94 16).toInt ≤ 64 := rs_94_16 (m := m) hV
    have f3 : 0 ≤ (m 94 18).toInt ∧ (m 94 18).toInt ≤ 256 := rs_94_18 (m := m) hV
    have f4 : 0 ≤ (m 94 11).toInt ∧ (m 94 11).toInt ≤ 1500 := rs_94_11 (m := m) hV
    have f5 : 0 ≤ (m 94 13).toInt ∧ (m 94 13).toInt ≤ 1500 := rs_94_13 (m := m) hV
    have f6 : 0 ≤ (m 94 14).toInt ∧ (m 94 14).toInt ≤ 1500 := rs_94_14 (m := m) hV
    have f7 : 0 ≤ (m 94 46).toInt ∧ (m 94 46).toInt ≤ 100000 := rs_94_46 (m := m) hV
    have f8 : 0 ≤ (m 94 55).toInt ∧ (m 94 55).toInt ≤ 3100 := rs_94_55 (m := m) hV
    have f9 : 0 ≤ (m 94 58).toInt ∧ (m 94 58).toInt ≤ 1 := rs_94_58 (m := m) hV
    have f10 : 0 ≤ (m 94 61).toInt ∧ (m 94 61).toInt ≤ 1 := rs_94_61 (m := m) hV
    have f11 : 0 ≤ (m 94 8).toInt ∧ (m 94 8).toInt ≤ 1 := rs_94_8 (m := m) hV
    have b12 := i_bd (m 94 45)
    have li13 : (3 : Int32).toInt = 3 := rfl
    refine zd (fun (h14 : (m 94 10) = (3 : Int32)) => ?_) (fun (h14 : ¬ (m 94 10) = (3 : Int32)) => ?_)
    · skip
      have g15 := i_eq h14
      have hV16 : zV (ma_u m 94 59 (m 94 14)) := us_94_59 hV (by omega) (by omega)
      exact lp_180qm_157 h0 K _ _  rfl (zF_u hF rfl) hV16 r_U0 r_O0 r_NR r_NK r_GW (show ((m 94 10).toInt ≠ 3 ∨ 4 ≤ (m 94 16).toInt) ∧ ((m 94 10).toInt ≠ 6 ∨ (16 ≤ (m 94 18).toInt ∧ 4 * (m 94 18).toInt ≤ (m 94 11).toInt)) ∧ (m 94 11).toInt ≤ 1500 ∧ 0 ≤ (m 94 13).toInt ∧ 0 ≤ (m 94 14).toInt ∧ 0 ≤ (m 94 11).toInt from by omega) (show (m 94 46).toInt = 0 ∧ (m 94 55).toInt = 0 ∧ (m 94 58).toInt = 0 ∧ (m 94 61).toInt = 0 from by omega) (show ((m 94 10).toInt = 3 ∧ (m 94 14).toInt = (m 94 14).toInt) ∨ ((m 94 10).toInt ≠ 3 ∧ (m 94 14).toInt = 0) from by omega) (show (m 94 8).toInt = 1 from by omega) (show (m 94 45).toInt = 0 from by omega)
    · skip
      have g17 := i_ne h14
      have li19 : (0 : Int32).toInt = 0 := rfl
      have hV18 : zV (ma_u m 94 59 (0 : Int32)) := us_94_59 hV (by omega) (by omega)
      exact lp_180qm_157 h0 K _ _  rfl (zF_u hF rfl) hV18 r_U0 r_O0 r_NR r_NK r_GW (show ((m 94 10).toInt ≠ 3 ∨ 4 ≤ (m 94 16).toInt) ∧ ((m 94 10).toInt ≠ 6 ∨ (16 ≤ (m 94 18).toInt ∧ 4 * (m 94 18).toInt ≤ (m 94 11).toInt)) ∧ (m 94 11).toInt ≤ 1500 ∧ 0 ≤ (m 94 13).toInt ∧ 0 ≤ (m 94 14).toInt ∧ 0 ≤ (m 94 11).toInt from by omega) (show (m 94 46).toInt = 0 ∧ (m 94 55).toInt = 0 ∧ (m 94 58).toInt = 0 ∧ (m 94 61).toInt = 0 from by omega) (show ((m 94 10).toInt = 3 ∧ (0 : Int32).toInt = (m 94 14).toInt) ∨ ((m 94 10).toInt ≠ 3 ∧ (0 : Int32).toInt = 0) from by omega) (show (m 94 8).toInt = 1 from by omega) (show (m 94 45).toInt = 0 from by omega)
theorem lp_180qm_117 {X : Nat × (Nat → Int32)} {P : Option ma_V → (Nat → Nat → Int32) → Prop} {T : Nat} {m0 : Nat → Nat → Int32} (h0 : zV m0) (K : ∀ m₉, zF wr_180 m0 m₉ → zV m₉ → (zGW T (m₉ 94 55) (m₉ 109)) → (zGU T (m₉ 94 46) (m₉ 99)) → (zOw (m₉ 99) (m₉ 103) (m₉ 111)) → (zDX (m₉ 94 10) (m₉ 99) (m₉ 112) (m₉ 113) (m₉ 114) (m₉ 94 55) (m₉ 98) (m₉ 101) (m₉ 102) (m₉ 108)) → (zGG (m₉ 94 58) (m₉ 94 56) (m₉ 94 57) (m₉ 106)) → (zHA (m₉ 94 10) (m₉ 94 11) (m₉ 94 13) (m₉ 94 14) (m₉ 94 16) (m₉ 94 61) (m₉ 94 59) (m₉ 94 60) (m₉ 99) (m₉ 102) (m₉ 103) (m₉ 111) (m₉ 117) (m₉ 98) (m₉ 101) (m₉ 108)) → (zRG (m₉ 94 10) (m₉ 94 18) (m₉ 94 64) (m₉ 94 63) (m₉ 99) (m₉ 103) (m₉ 102) (m₉ 116)) → ((m₉ 94 58).toInt = 0 ∨ (m₉ 94 10).toInt = 5) → ((m₉ 94 10).toInt = 6 → (m₉ 94 64) = (m₉ 94 11) / (m₉ 94 18)) → (∀ s : Nat, s < 3100 → (m₉ 99) s = 0) → (∀ s : Nat, s < 4600 → ((m₉ 111) s).toInt < 0) → (∀ s : Nat, (s : Int) < 16 → ((m₉ 112) s).toInt < 0) → (∀ s : Nat, (s : Int) < 16 → ((m₉ 113) s).toInt < 0) → ((m₉ 94 45).toInt = 0 ∧ (m₉ 94 46).toInt = 0 ∧ (m₉ 94 55).toInt = 0 ∧ (m₉ 94 58).toInt = 0 ∧ (m₉ 94 62).toInt = 0) → ((m₉ 94 8).toInt = 1) → ((m₉ 94 60).toInt = 0 ∧ (m₉ 94 61).toInt = 0 ∧ (m₉ 94 63).toInt = 0) → (((m₉ 94 10).toInt = 3 ∧ (m₉ 94 59).toInt = (m₉ 94 14).toInt) ∨ ((m₉ 94 10).toInt ≠ 3 ∧ (m₉ 94 59).toInt = 0)) → (∀ s : Nat, s < 128 → (m₉ 116) s = 0) → (∀ s : Nat, s < 512 → (m₉ 117) s = 0) → P none m₉) : ∀ (n : Nat) (m : Nat → Nat → Int32) , ((0 : Int)).toNat = n → zF wr_180 m0 m → zV m → (∀ s : Nat, s < 3100 → (m 99) s = 0) → (∀ s : Nat, s < 4600 → ((m 111) s).toInt < 0) → (∀ s : Nat, (s : Int) < 16 → ((m 112) s).toInt < 0) → (∀ s : Nat, (s : Int) < 16 → ((m 113) s).toInt < 0) → (zGW T (m 94 55) (m 109)) → (((m 94 10).toInt ≠ 3 ∨ 4 ≤ (m 94 16).toInt) ∧ ((m 94 10).toInt ≠ 6 ∨ (16 ≤ (m 94 18).toInt ∧ 4 * (m 94 18).toInt ≤ (m 94 11).toInt)) ∧ (m 94 11).toInt ≤ 1500 ∧ 0 ≤ (m 94 13).toInt ∧ 0 ≤ (m 94 14).toInt ∧ 0 ≤ (m 94 11).toInt) → ((m 94 46).toInt = 0 ∧ (m 94 55).toInt = 0) → ((m 94 8).toInt = 1) → ((m 94 45).toInt = 0) → zm X 0 0 180 117 [(0, .inr (.inr (some 94)))] m P := by
  intro n
  induction n using Nat.strongRecOn with
  | _ n IH =>
    intro m  hmu hF hV r_U0 r_O0 r_NR r_NK r_GW hi5 hi6 hi7 hi8
    refine g_180_117  ?_
    have f1 : 0 ≤ (m 94 10).toInt ∧ (m 94 10).toInt ≤ 6 := rs_94_10 (m := m) hV
    have f2 : 0 ≤ (m 94 16).toInt ∧ (m 94 16).toInt ≤ 64 := rs_94_16 (m := m) hV
    have f3 : 0 ≤ (m 94 18).toInt ∧ (m 94 18).toInt ≤ 256 := rs_94_18 (m := m) hV
    have f4 : 0 ≤ (m 94 11).toInt ∧ (m 94 11).toInt ≤ 1500 := rs_94_11 (m := m) hV
    have f5 : 0 ≤ (m 94 13).toInt ∧ (m 94 13).toInt ≤ 1500 := rs_94_13 (m := m) hV
    have f6 : 0 ≤ (m 94 14).toInt ∧ (m 94 14).toInt ≤ 1500 := rs_94_14 (m := m) hV
    have f7 : 0 ≤ (m 94 46).toInt ∧ (m 94 46).toInt ≤ 100000 := rs_94_46 (m := m) hV
    have f8 : 0 ≤ (m 94 55).toInt ∧ (m 94 55).toInt ≤ 3100 := rs_94_55 (m := m) hV
    have f9 : 0 ≤ (m 94 8).toInt ∧ (m 94 8).toInt ≤ 1 := rs_94_8 (m := m) hV
    have b10 := i_bd (m 94 45)
    have li12 : (0 : Int32).toInt = 0 := rfl
    have hV11 : zV (ma_u m 94 56 (0 : Int32)) := us_94_56 hV (by omega) (by omega)
    have hV13 : zV (ma_u (ma_u m 94 56 (0 : Int32)) 94 57 (0 : Int32)) := us_94_57 hV11 (by omega) (by omega)
    have hV14 : zV (ma_u (ma_u (ma_u m 94 56 (0 : Int32)) 94 57 (0 : Int32)) 94 58 (0 : Int32)) := us_94_58 hV13 (by omega) (by omega)
    have hV15 : zV (ma_u (ma_u (ma_u (ma_u m 94 56 (0 : Int32)) 94 57 (0 : Int32)) 94 58 (0 : Int32)) 94 61 (0 : Int32)) := us_94_61 hV14 (by omega) (by omega)
    exact lp_180qm_137 h0 K _ _  rfl (zF_u (zF_u (zF_u (zF_u hF rfl) rfl) rfl) rfl) hV15 r_U0 r_O0 r_NR r_NK r_GW (show ((m 94 10).toInt ≠ 3 ∨ 4 ≤ (m 94 16).toInt) ∧ ((m 94 10).toInt ≠ 6 ∨ (16 ≤ (m 94 18).toInt ∧ 4 * (m 94 18).toInt ≤ (m 94 11).toInt)) ∧ (m 94 11).toInt ≤ 1500 ∧ 0 ≤ (m 94 13).toInt ∧ 0 ≤ (m 94 14).toInt ∧ 0 ≤ (m 94 11).toInt from by omega) (show (m 94 46).toInt = 0 ∧ (m 94 55).toInt = 0 ∧ (0 : Int32).toInt = 0 ∧ (0 : Int32).toInt = 0 from by omega) (show (m 94 8).toInt = 1 from by omega) (show (m 94 45).toInt = 0 from by omega)
theorem lp_180qm_97 {X : Nat × (Nat → Int32)} {P : Option ma_V → (Nat → Nat → Int32) → Prop} {T : Nat} {m0 : Nat → Nat → Int32} (h0 : zV m0) (K : ∀ m₉, zF wr_180 m0 m₉ → zV m₉ → (zGW T (m₉ 94 55) (m₉ 109)) → (zGU T (m₉ 94 46) (m₉ 99)) → (zOw (m₉ 99) (m₉ 103) (m₉ 111)) → (zDX (m₉ 94 10) (m₉ 99) (m₉ 112) (m₉ 113) (m₉ 114) (m₉ 94 55) (m₉ 98) (m₉ 101) (m₉ 102) (m₉ 108)) → (zGG (m₉ 94 58) (m₉ 94 56) (m₉ 94 57) (m₉ 106)) → (zHA (m₉ 94 10) (m₉ 94 11) (m₉ 94 13) (m₉ 94 14) (m₉ 94 16) (m₉ 94 61) (m₉ 94 59) (m₉ 94 60) (m₉ 99) (m₉ 102) (m₉ 103) (m₉ 111) (m₉ 117) (m₉ 98) (m₉ 101) (m₉ 108)) → (zRG (m₉ 94 10) (m₉ 94 18) (m₉ 94 64) (m₉ 94 63) (m₉ 99) (m₉ 103) (m₉ 102) (m₉ 116)) → ((m₉ 94 58).toInt = 0 ∨ (m₉ 94 10).toInt = 5) → ((m₉ 94 10).toInt = 6 → (m₉ 94 64) = (m₉ 94 11) / (m₉ 94 18)) → (∀ s : Nat, s < 3100 → (m₉ 99) s = 0) → (∀ s : Nat, s < 4600 → ((m₉ 111) s).toInt < 0) → (∀ s : Nat, (s : Int) < 16 → ((m₉ 112) s).toInt < 0) → (∀ s : Nat, (s : Int) < 16 → ((m₉ 113) s).toInt < 0) → ((m₉ 94 45).toInt = 0 ∧ (m₉ 94 46).toInt = 0 ∧ (m₉ 94 55).toInt = 0 ∧ (m₉ 94 58).toInt = 0 ∧ (m₉ 94 62).toInt = 0) → ((m₉ 94 8).toInt = 1) → ((m₉ 94 60).toInt = 0 ∧ (m₉ 94 61).toInt = 0 ∧ (m₉ 94 63).toInt = 0) → (((m₉ 94 10).toInt = 3 ∧ (m₉ 94 59).toInt = (m₉ 94 14).toInt) ∨ ((m₉ 94 10).toInt ≠ 3 ∧ (m₉ 94 59).toInt = 0)) → (∀ s : Nat, s < 128 → (m₉ 116) s = 0) → (∀ s : Nat, s < 512 → (m₉ 117) s = 0) → P none m₉) : ∀ (n : Nat) (m : Nat → Nat → Int32) , ((0 : Int)).toNat = n → zF wr_180 m0 m → zV m → (∀ s : Nat, s < 3100 → (m 99) s = 0) → (∀ s : Nat, s < 4600 → ((m 111) s).toInt < 0) → (∀ s : Nat, (s : Int) < 16 → ((m 112) s).toInt < 0) → (∀ s : Nat, (s : Int) < 16 → ((m 113) s).toInt < 0) → (zGW T (m 94 55) (m 109)) → (((m 94 10).toInt ≠ 3 ∨ 4 ≤ (m 94 16).toInt) ∧ ((m 94 10).toInt ≠ 6 ∨ (16 ≤ (m 94 18).toInt ∧ 4 * (m 94 18).toInt ≤ (m 94 11).toInt)) ∧ (m 94 11).toInt ≤ 1500 ∧ 0 ≤ (m 94 13).toInt ∧ 0 ≤ (m 94 14).toInt ∧ 0 ≤ (m 94 11).toInt) → ((m 94 46).toInt = 0) → ((m 94 8).toInt = 1) → ((m 94 45).toInt = 0) → zm X 0 0 180 97 [(0, .inr (.inr (some 94)))] m P := by
  intro n
  induction n using Nat.strongRecOn with
  | _ n IH =>
    intro m  hmu hF hV r_U0 r_O0 r_NR r_NK r_GW hi5 hi6 hi7 hi8
    refine g_180_97  ?_
    have f1 : 0 ≤ (m 94 10).toInt ∧ (m 94 10).toInt ≤ 6 := rs_94_10 (m := m) hV
    have f2 : 0 ≤ (m 94 16).toInt ∧ (m 94 16).toInt ≤ 64 := rs_94_16 (m := m) hV
    have f3 : 0 ≤ (m 94 18).toInt ∧ (m 94 18).toInt ≤ 256 := rs_94_18 (m := m) hV
    have f4 : 0 ≤ (m 94 11).toInt ∧ (m 94 11).toInt ≤ 1500 := rs_94_11 (m := m) hV
    have f5 : 0 ≤ (m 94 13).toInt ∧ (m 94 13).toInt ≤ 1500 := rs_94_13 (m := m) hV
    have f6 : 0 ≤ (m 94 14).toInt ∧ (m 94 14).toInt ≤ 1500 := rs_94_14 (m := m) hV
    have f7 : 0 ≤ (m 94 46).toInt ∧ (m 94 46).toInt ≤ 100000 := rs_94_46 (m := m) hV
    have f8 : 0 ≤ (m 94 8).toInt ∧ (m 94 8).toInt ≤ 1 := rs_94_8 (m := m) hV
    have b9 := i_bd (m 94 45)
    have hV10 : zV (ma_u m 94 48 (0 : Int32)) := uf_94_48 hV
    have hV11 : zV (ma_u (ma_u m 94 48 (0 : Int32)) 94 49 (0 : Int32)) := uf_94_49 hV10
    have hV12 : zV (ma_u (ma_u (ma_u m 94 48 (0 : Int32)) 94 49 (0 : Int32)) 94 50 (0 : Int32)) := uf_94_50 hV11
    have li14 : (0 : Int32).toInt = 0 := rfl
    have hV13 : zV (ma_u (ma_u (ma_u (ma_u m 94 48 (0 : Int32)) 94 49 (0 : Int32)) 94 50 (0 : Int32)) 94 55 (0 : Int32)) := us_94_55 hV12 (by omega) (by omega)
    exact lp_180qm_117 h0 K _ _  rfl (zF_u (zF_u (zF_u (zF_u hF rfl) rfl) rfl) rfl) hV13 r_U0 r_O0 r_NR r_NK (show zGW T (0 : Int32) (m 109) from by first | (exact GW_le r_GW (by have := rs_94_55 hV; have z : (0 : Int32).toInt = 0 := rfl; omega)) | (exfalso; omega; done) | (exfalso; contradiction; done)) (show ((m 94 10).toInt ≠ 3 ∨ 4 ≤ (m 94 16).toInt) ∧ ((m 94 10).toInt ≠ 6 ∨ (16 ≤ (m 94 18).toInt ∧ 4 * (m 94 18).toInt ≤ (m 94 11).toInt)) ∧ (m 94 11).toInt ≤ 1500 ∧ 0 ≤ (m 94 13).toInt ∧ 0 ≤ (m 94 14).toInt ∧ 0 ≤ (m 94 11).toInt from by omega) (show (m 94 46).toInt = 0 ∧ (0 : Int32).toInt = 0 from by omega) (show (m 94 8).toInt = 1 from by omega) (show (m 94 45).toInt = 0 from by omega)
theorem lp_180qm_51 {X : Nat × (Nat → Int32)} {P : Option ma_V → (Nat → Nat → Int32) → Prop} {T : Nat} {m0 : Nat → Nat → Int32} (h0 : zV m0) (K : ∀ m₉, zF wr_180 m0 m₉ → zV m₉ → (zGW T (m₉ 94 55) (m₉ 109)) → (zGU T (m₉ 94 46) (m₉ 99)) → (zOw (m₉ 99) (m₉ 103) (m₉ 111)) → (zDX (m₉ 94 10) (m₉ 99) (m₉ 112) (m₉ 113) (m₉ 114) (m₉ 94 55) (m₉ 98) (m₉ 101) (m₉ 102) (m₉ 108)) → (zGG (m₉ 94 58) (m₉ 94 56) (m₉ 94 57) (m₉ 106)) → (zHA (m₉ 94 10) (m₉ 94 11) (m₉ 94 13) (m₉ 94 14) (m₉ 94 16) (m₉ 94 61) (m₉ 94 59) (m₉ 94 60) (m₉ 99) (m₉ 102) (m₉ 103) (m₉ 111) (m₉ 117) (m₉ 98) (m₉ 101) (m₉ 108)) → (zRG (m₉ 94 10) (m₉ 94 18) (m₉ 94 64) (m₉ 94 63) (m₉ 99) (m₉ 103) (m₉ 102) (m₉ 116)) → ((m₉ 94 58).toInt = 0 ∨ (m₉ 94 10).toInt = 5) → ((m₉ 94 10).toInt = 6 → (m₉ 94 64) = (m₉ 94 11) / (m₉ 94 18)) → (∀ s : Nat, s < 3100 → (m₉ 99) s = 0) → (∀ s : Nat, s < 4600 → ((m₉ 111) s).toInt < 0) → (∀ s : Nat, (s : Int) < 16 → ((m₉ 112) s).toInt < 0) → (∀ s : Nat, (s : Int) < 16 → ((m₉ 113) s).toInt < 0) → ((m₉ 94 45).toInt = 0 ∧ (m₉ 94 46).toInt = 0 ∧ (m₉ 94 55).toInt = 0 ∧ (m₉ 94 58).toInt = 0 ∧ (m₉ 94 62).toInt = 0) → ((m₉ 94 8).toInt = 1) → ((m₉ 94 60).toInt = 0 ∧ (m₉ 94 61).toInt = 0 ∧ (m₉ 94 63).toInt = 0) → (((m₉ 94 10).toInt = 3 ∧ (m₉ 94 59).toInt = (m₉ 94 14).toInt) ∨ ((m₉ 94 10).toInt ≠ 3 ∧ (m₉ 94 59).toInt = 0)) → (∀ s : Nat, s < 128 → (m₉ 116) s = 0) → (∀ s : Nat, s < 512 → (m₉ 117) s = 0) → P none m₉) : ∀ (n : Nat) (m : Nat → Nat → Int32) (l1 : Int32), (16 - l1.toInt).toNat = n → zF wr_180 m0 m → zV m → (0 ≤ l1.toInt) → (∀ s : Nat, s < 3100 → (m 99) s = 0) → (∀ s : Nat, s < 4600 → ((m 111) s).toInt < 0) → (∀ s : Nat, (s : Int) < l1.toInt → ((m 112) s).toInt < 0) → (∀ s : Nat, (s : Int) < l1.toInt → ((m 113) s).toInt < 0) → (zGW T (m 94 55) (m 109)) → (((m 94 10).toInt ≠ 3 ∨ 4 ≤ (m 94 16).toInt) ∧ ((m 94 10).toInt ≠ 6 ∨ (16 ≤ (m 94 18).toInt ∧ 4 * (m 94 18).toInt ≤ (m 94 11).toInt)) ∧ (m 94 11).toInt ≤ 1500 ∧ 0 ≤ (m 94 13).toInt ∧ 0 ≤ (m 94 14).toInt ∧ 0 ≤ (m 94 11).toInt) → ((m 94 8).toInt = 1) → zm X 0 0 180 51 [(0, .inr (.inr (some 94))), (1, .inl l1)] m P := by
  intro n
  induction n using Nat.strongRecOn with
  | _ n IH =>
    intro m l1 hmu hF hV hi0 r_U0 r_O0 r_NRl r_NKl r_GW hi6 hi7
    refine g_180_51 l1 ?_
    have f1 : 0 ≤ (m 94 10).toInt ∧ (m 94 10).toInt ≤ 6 := rs_94_10 (m := m) hV
    have f2 : 0 ≤ (m 94 16).toInt ∧ (m 94 16).toInt ≤ 64 := rs_94_16 (m := m) hV
    have f3 : 0 ≤ (m 94 18).toInt ∧ (m 94 18).toInt ≤ 256 := rs_94_18 (m := m) hV
    have f4 : 0 ≤ (m 94 11).toInt ∧ (m 94 11).toInt ≤ 1500 := rs_94_11 (m := m) hV
    have f5 : 0 ≤ (m 94 13).toInt ∧ (m 94 13).toInt ≤ 1500 := rs_94_13 (m := m) hV
    have f6 : 0 ≤ (m 94 14).toInt ∧ (m 94 14).toInt ≤ 1500 := rs_94_14 (m := m) hV
    have f7 : 0 ≤ (m 94 8).toInt ∧ (m 94 8).toInt ≤ 1 := rs_94_8 (m := m) hV
    have li8 : (16 : Int32).toInt = 16 := rfl
    have b9 := i_bd l1
    refine zd (fun (h10 : (16 : Int32) ≤ l1) => ?_) (fun (h10 : ¬ (16 : Int32) ≤ l1) => ?_)
    · skip
      have g11 := i_le h10
      have hV12 : zV (ma_u m 94 44 (0 : Int32)) := uf_94_44 hV
      have hV13 : zV (ma_u (ma_u m 94 44 (0 : Int32)) 94 45 (0 : Int32)) := uf_94_45 hV12
      have li15 : (0 : Int32).toInt = 0 := rfl
      have hV14 : zV (ma_u (ma_u (ma_u m 94 44 (0 : Int32)) 94 45 (0 : Int32)) 94 46 (0 : Int32)) := us_94_46 hV13 (by omega) (by omega)
      have hV16 : zV (ma_u (ma_u (ma_u (ma_u m 94 44 (0 : Int32)) 94 45 (0 : Int32)) 94 46 (0 : Int32)) 94 47 (0 : Int32)) := uf_94_47 hV14
      exact lp_180qm_97 h0 K _ _  rfl (zF_u (zF_u (zF_u (zF_u hF rfl) rfl) rfl) rfl) hV16 r_U0 r_O0 (show ∀ s : Nat, (s : Int) < 16 → ((m 112) s).toInt < 0 from by first | (exact fun s hs => r_NRl s (by omega)) | (exfalso; omega; done) | (exfalso; contradiction; done)) (show ∀ s : Nat, (s : Int) < 16 → ((m 113) s).toInt < 0 from by first | (exact fun s hs => r_NKl s (by omega)) | (exfalso; omega; done) | (exfalso; contradiction; done)) r_GW (show ((m 94 10).toInt ≠ 3 ∨ 4 ≤ (m 94 16).toInt) ∧ ((m 94 10).toInt ≠ 6 ∨ (16 ≤ (m 94 18).toInt ∧ 4 * (m 94 18).toInt ≤ (m 94 11).toInt)) ∧ (m 94 11).toInt ≤ 1500 ∧ 0 ≤ (m 94 13).toInt ∧ 0 ≤ (m 94 14).toInt ∧ 0 ≤ (m 94 11).toInt from by omega) (show (0 : Int32).toInt = 0 from by omega) (show (m 94 8).toInt = 1 from by omega) (show (0 : Int32).toInt = 0 from by omega)
    · skip
      have g17 := i_nle h10
      have hg18 : (0 ≤ l1 ∧ l1.toNatClampNeg < 16) := i_ix (by omega) (by omega)
      refine ⟨hg18, ?_⟩
      have hg19 : (0 ≤ l1 ∧ l1.toNatClampNeg < 16) := i_ix (by omega) (by omega)
      refine ⟨hg19, ?_⟩
      have li21 : (-1 : Int32).toInt = -1 := rfl
      have hV20 : zV (ma_u m 112 l1.toNatClampNeg (-1 : Int32)) := ua_112 hV (by omega) (by omega)
      have hV22 : zV (ma_u (ma_u m 112 l1.toNatClampNeg (-1 : Int32)) 113 l1.toNatClampNeg (-1 : Int32)) := ua_113 hV20 (by omega) (by omega)
      first | have e23 : (l1 + (1 : Int32)).toInt = l1.toInt + (1) := i_addk rfl (by omega) (by omega) | have b24 := i_bd (l1 + (1 : Int32))
      exact IH (16 - (l1 + (1 : Int32)).toInt).toNat (by omega) _ ((l1 + (1 : Int32))) rfl (zF_u (zF_u hF rfl) rfl) hV22 (by omega) r_U0 r_O0 (show ∀ s : Nat, (s : Int) < (l1 + (1 : Int32)).toInt → (((ma_u m 112 l1.toNatClampNeg (-1 : Int32)) 112) s).toInt < 0 from by first | (exact neg_step r_NRl (by omega) (by omega) (by decide)) | (intro s hs; omega; done) | (exfalso; omega; done) | (exfalso; contradiction; done)) (show ∀ s : Nat, (s : Int) < (l1 + (1 : Int32)).toInt → (((ma_u m 113 l1.toNatClampNeg (-1 : Int32)) 113) s).toInt < 0 from by first | (exact neg_step r_NKl (by omega) (by omega) (by decide)) | (intro s hs; omega; done) | (exfalso; omega; done) | (exfalso; contradiction; done)) r_GW (show ((m 94 10).toInt ≠ 3 ∨ 4 ≤ (m 94 16).toInt) ∧ ((m 94 10).toInt ≠ 6 ∨ (16 ≤ (m 94 18).toInt ∧ 4 * (m 94 18).toInt ≤ (m 94 11).toInt)) ∧ (m 94 11).toInt ≤ 1500 ∧ 0 ≤ (m 94 13).toInt ∧ 0 ≤ (m 94 14).toInt ∧ 0 ≤ (m 94 11).toInt from by omega) (show (m 94 8).toInt = 1 from by omega)
theorem lp_180qm_29 {X : Nat × (Nat → Int32)} {P : Option ma_V → (Nat → Nat → Int32) → Prop} {T : Nat} {m0 : Nat → Nat → Int32} (h0 : zV m0) (K : ∀ m₉, zF wr_180 m0 m₉ → zV m₉ → (zGW T (m₉ 94 55) (m₉ 109)) → (zGU T (m₉ 94 46) (m₉ 99)) → (zOw (m₉ 99) (m₉ 103) (m₉ 111)) → (zDX (m₉ 94 10) (m₉ 99) (m₉ 112) (m₉ 113) (m₉ 114) (m₉ 94 55) (m₉ 98) (m₉ 101) (m₉ 102) (m₉ 108)) → (zGG (m₉ 94 58) (m₉ 94 56) (m₉ 94 57) (m₉ 106)) → (zHA (m₉ 94 10) (m₉ 94 11) (m₉ 94 13) (m₉ 94 14) (m₉ 94 16) (m₉ 94 61) (m₉ 94 59) (m₉ 94 60) (m₉ 99) (m₉ 102) (m₉ 103) (m₉ 111) (m₉ 117) (m₉ 98) (m₉ 101) (m₉ 108)) → (zRG (m₉ 94 10) (m₉ 94 18) (m₉ 94 64) (m₉ 94 63) (m₉ 99) (m₉ 103) (m₉ 102) (m₉ 116)) → ((m₉ 94 58).toInt = 0 ∨ (m₉ 94 10).toInt = 5) → ((m₉ 94 10).toInt = 6 → (m₉ 94 64) = (m₉ 94 11) / (m₉ 94 18)) → (∀ s : Nat, s < 3100 → (m₉ 99) s = 0) → (∀ s : Nat, s < 4600 → ((m₉ 111) s).toInt < 0) → (∀ s : Nat, (s : Int) < 16 → ((m₉ 112) s).toInt < 0) → (∀ s : Nat, (s : Int) < 16 → ((m₉ 113) s).toInt < 0) → ((m₉ 94 45).toInt = 0 ∧ (m₉ 94 46).toInt = 0 ∧ (m₉ 94 55).toInt = 0 ∧ (m₉ 94 58).toInt = 0 ∧ (m₉ 94 62).toInt = 0) → ((m₉ 94 8).toInt = 1) → ((m₉ 94 60).toInt = 0 ∧ (m₉ 94 61).toInt = 0 ∧ (m₉ 94 63).toInt = 0) → (((m₉ 94 10).toInt = 3 ∧ (m₉ 94 59).toInt = (m₉ 94 14).toInt) ∨ ((m₉ 94 10).toInt ≠ 3 ∧ (m₉ 94 59).toInt = 0)) → (∀ s : Nat, s < 128 → (m₉ 116) s = 0) → (∀ s : Nat, s < 512 → (m₉ 117) s = 0) → P none m₉) : ∀ (n : Nat) (m : Nat → Nat → Int32) (l1 : Int32), (4600 - l1.toInt).toNat = n → zF wr_180 m0 m → zV m → (0 ≤ l1.toInt) → (∀ s : Nat, s < 3100 → (m 99) s = 0) → (∀ s : Nat, (s : Int) < l1.toInt → ((m 111) s).toInt < 0) → (zGW T (m 94 55) (m 109)) → (((m 94 10).toInt ≠ 3 ∨ 4 ≤ (m 94 16).toInt) ∧ ((m 94 10).toInt ≠ 6 ∨ (16 ≤ (m 94 18).toInt ∧ 4 * (m 94 18).toInt ≤ (m 94 11).toInt)) ∧ (m 94 11).toInt ≤ 1500 ∧ 0 ≤ (m 94 13).toInt ∧ 0 ≤ (m 94 14).toInt ∧ 0 ≤ (m 94 11).toInt) → ((m 94 8).toInt = 1) → zm X 0 0 180 29 [(0, .inr (.inr (some 94))), (1, .inl l1)] m P := by
  intro n
  induction n using Nat.strongRecOn with
  | _ n IH =>
    intro m l1 hmu hF hV hi0 r_U0 r_O0l r_GW hi4 hi5
    refine g_180_29 l1 ?_
    have f1 : 0 ≤ (m 94 10).toInt ∧ (m 94 10).toInt ≤ 6 := rs_94_10 (m := m) hV
    have f2 : 0 ≤ (m 94 16).toInt ∧ (m 94 16).toInt ≤ 64 := rs_94_16 (m := m) hV
    have f3 : 0 ≤ (m 94 18).toInt ∧ (m 94 18).toInt ≤ 256 := rs_94_18 (m := m) hV
    have f4 : 0 ≤ (m 94 11).toInt ∧ (m 94 11).toInt ≤ 1500 := rs_94_11 (m := m) hV
    have f5 : 0 ≤ (m 94 13).toInt ∧ (m 94 13).toInt ≤ 1500 := rs_94_13 (m := m) hV
    have f6 : 0 ≤ (m 94 14).toInt ∧ (m 94 14).toInt ≤ 1500 := rs_94_14 (m := m) hV
    have f7 : 0 ≤ (m 94 8).toInt ∧ (m 94 8).toInt ≤ 1 := rs_94_8 (m := m) hV
    have li8 : (4600 : Int32).toInt = 4600 := rfl
    have b9 := i_bd l1
    refine zd (fun (h10 : (4600 : Int32) ≤ l1) => ?_) (fun (h10 : ¬ (4600 : Int32) ≤ l1) => ?_)
    · skip
      have g11 := i_le h10
      have li12 : (0 : Int32).toInt = 0 := rfl
      exact lp_180qm_51 h0 K _ _ ((0 : Int32)) rfl hF hV (by omega) r_U0 (show ∀ s : Nat, s < 4600 → ((m 111) s).toInt < 0 from by first | (exact fun s hs => r_O0l s (by omega)) | (exfalso; omega; done) | (exfalso; contradiction; done)) (show ∀ s : Nat, (s : Int) < (0 : Int32).toInt → ((m 112) s).toInt < 0 from by first | (intro s hs; omega; done) | (exfalso; omega; done) | (exfalso; contradiction; done)) (show ∀ s : Nat, (s : Int) < (0 : Int32).toInt → ((m 113) s).toInt < 0 from by first | (intro s hs; omega; done) | (exfalso; omega; done) | (exfalso; contradiction; done)) r_GW (show ((m 94 10).toInt ≠ 3 ∨ 4 ≤ (m 94 16).toInt) ∧ ((m 94 10).toInt ≠ 6 ∨ (16 ≤ (m 94 18).toInt ∧ 4 * (m 94 18).toInt ≤ (m 94 11).toInt)) ∧ (m 94 11).toInt ≤ 1500 ∧ 0 ≤ (m 94 13).toInt ∧ 0 ≤ (m 94 14).toInt ∧ 0 ≤ (m 94 11).toInt from by omega) (show (m 94 8).toInt = 1 from by omega)
    · skip
      have g13 := i_nle h10
      have hg14 : (0 ≤ l1 ∧ l1.toNatClampNeg < 4600) := i_ix (by omega) (by omega)
      refine ⟨hg14, ?_⟩
      have li16 : (-1 : Int32).toInt = -1 := rfl
      have hV15 : zV (ma_u m 111 l1.toNatClampNeg (-1 : Int32)) := ua_111 hV (by omega) (by omega)
      first | have e17 : (l1 + (1 : Int32)).toInt = l1.toInt + (1) := i_addk rfl (by omega) (by omega) | have b18 := i_bd (l1 + (1 : Int32))
      exact IH (4600 - (l1 + (1 : Int32)).toInt).toNat (by omega) _ ((l1 + (1 : Int32))) rfl (zF_u hF rfl) hV15 (by omega) r_U0 (show ∀ s : Nat, (s : Int) < (l1 + (1 : Int32)).toInt → (((ma_u m 111 l1.toNatClampNeg (-1 : Int32)) 111) s).toInt < 0 from by first | (exact neg_step r_O0l (by omega) (by omega) (by decide)) | (intro s hs; omega; done) | (exfalso; omega; done) | (exfalso; contradiction; done)) r_GW (show ((m 94 10).toInt ≠ 3 ∨ 4 ≤ (m 94 16).toInt) ∧ ((m 94 10).toInt ≠ 6 ∨ (16 ≤ (m 94 18).toInt ∧ 4 * (m 94 18).toInt ≤ (m 94 11).toInt)) ∧ (m 94 11).toInt ≤ 1500 ∧ 0 ≤ (m 94 13).toInt ∧ 0 ≤ (m 94 14).toInt ∧ 0 ≤ (m 94 11).toInt from by omega) (show (m 94 8).toInt = 1 from by omega)
theorem lp_180qm_7 {X : Nat × (Nat → Int32)} {P : Option ma_V → (Nat → Nat → Int32) → Prop} {T : Nat} {m0 : Nat → Nat → Int32} (h0 : zV m0) (K : ∀ m₉, zF wr_180 m0 m₉ → zV m₉ → (zGW T (m₉ 94 55) (m₉ 109)) → (zGU T (m₉ 94 46) (m₉ 99)) → (zOw (m₉ 99) (m₉ 103) (m₉ 111)) → (zDX (m₉ 94 10) (m₉ 99) (m₉ 112) (m₉ 113) (m₉ 114) (m₉ 94 55) (m₉ 98) (m₉ 101) (m₉ 102) (m₉ 108)) → (zGG (m₉ 94 58) (m₉ 94 56) (m₉ 94 57) (m₉ 106)) → (zHA (m₉ 94 10) (m₉ 94 11) (m₉ 94 13) (m₉ 94 14) (m₉ 94 16) (m₉ 94 61) (m₉ 94 59) (m₉ 94 60) (m₉ 99) (m₉ 102) (m₉ 103) (m₉ 111) (m₉ 117) (m₉ 98) (m₉ 101) (m₉ 108)) → (zRG (m₉ 94 10) (m₉ 94 18) (m₉ 94 64) (m₉ 94 63) (m₉ 99) (m₉ 103) (m₉ 102) (m₉ 116)) → ((m₉ 94 58).toInt = 0 ∨ (m₉ 94 10).toInt = 5) → ((m₉ 94 10).toInt = 6 → (m₉ 94 64) = (m₉ 94 11) / (m₉ 94 18)) → (∀ s : Nat, s < 3100 → (m₉ 99) s = 0) → (∀ s : Nat, s < 4600 → ((m₉ 111) s).toInt < 0) → (∀ s : Nat, (s : Int) < 16 → ((m₉ 112) s).toInt < 0) → (∀ s : Nat, (s : Int) < 16 → ((m₉ 113) s).toInt < 0) → ((m₉ 94 45).toInt = 0 ∧ (m₉ 94 46).toInt = 0 ∧ (m₉ 94 55).toInt = 0 ∧ (m₉ 94 58).toInt = 0 ∧ (m₉ 94 62).toInt = 0) → ((m₉ 94 8).toInt = 1) → ((m₉ 94 60).toInt = 0 ∧ (m₉ 94 61).toInt = 0 ∧ (m₉ 94 63).toInt = 0) → (((m₉ 94 10).toInt = 3 ∧ (m₉ 94 59).toInt = (m₉ 94 14).toInt) ∨ ((m₉ 94 10).toInt ≠ 3 ∧ (m₉ 94 59).toInt = 0)) → (∀ s : Nat, s < 128 → (m₉ 116) s = 0) → (∀ s : Nat, s < 512 → (m₉ 117) s = 0) → P none m₉) : ∀ (n : Nat) (m : Nat → Nat → Int32) (l1 : Int32), (3100 - l1.toInt).toNat = n → zF wr_180 m0 m → zV m → (0 ≤ l1.toInt) → (∀ s : Nat, (s : Int) < l1.toInt → (m 99) s = 0) → (zGW T (m 94 55) (m 109)) → (((m 94 10).toInt ≠ 3 ∨ 4 ≤ (m 94 16).toInt) ∧ ((m 94 10).toInt ≠ 6 ∨ (16 ≤ (m 94 18).toInt ∧ 4 * (m 94 18).toInt ≤ (m 94 11).toInt)) ∧ (m 94 11).toInt ≤ 1500 ∧ 0 ≤ (m 94 13).toInt ∧ 0 ≤ (m 94 14).toInt ∧ 0 ≤ (m 94 11).toInt) → ((m 94 8).toInt = 1) → zm X 0 0 180 7 [(0, .inr (.inr (some 94))), (1, .inl l1)] m P := by
  intro n
  induction n using Nat.strongRecOn with
  | _ n IH =>
    intro m l1 hmu hF hV hi0 r_U0l r_GW hi3 hi4
    refine g_180_7 l1 ?_
    have f1 : 0 ≤ (m 94 10).toInt ∧ (m 94 10).toInt ≤ 6 := rs_94_10 (m := m) hV
    have f2 : 0 ≤ (m 94 16).toInt ∧ (m 94 16).toInt ≤ 64 := rs_94_16 (m := m) hV
    have f3 : 0 ≤ (m 94 18).toInt ∧ (m 94 18).toInt ≤ 256 := rs_94_18 (m := m) hV
    have f4 : 0 ≤ (m 94 11).toInt ∧ (m 94 11).toInt ≤ 1500 := rs_94_11 (m := m) hV
    have f5 : 0 ≤ (m 94 13).toInt ∧ (m 94 13).toInt ≤ 1500 := rs_94_13 (m := m) hV
    have f6 : 0 ≤ (m 94 14).toInt ∧ (m 94 14).toInt ≤ 1500 := rs_94_14 (m := m) hV
    have f7 : 0 ≤ (m 94 8).toInt ∧ (m 94 8).toInt ≤ 1 := rs_94_8 (m := m) hV
    have li8 : (3100 : Int32).toInt = 3100 := rfl
    have b9 := i_bd l1
    refine zd (fun (h10 : (3100 : Int32) ≤ l1) => ?_) (fun (h10 : ¬ (3100 : Int32) ≤ l1) => ?_)
    · skip
      have g11 := i_le h10
      have li12 : (0 : Int32).toInt = 0 := rfl
      exact lp_180qm_29 h0 K _ _ ((0 : Int32)) rfl hF hV (by omega) (show ∀ s : Nat, s < 3100 → (m 99) s = 0 from by first | (exact fun s hs => r_U0l s (by omega)) | (exfalso; omega; done) | (exfalso; contradiction; done)) (show ∀ s : Nat, (s : Int) < (0 : Int32).toInt → ((m 111) s).toInt < 0 from by first | (intro s hs; omega; done) | (exfalso; omega; done) | (exfalso; contradiction; done)) r_GW (show ((m 94 10).toInt ≠ 3 ∨ 4 ≤ (m 94 16).toInt) ∧ ((m 94 10).toInt ≠ 6 ∨ (16 ≤ (m 94 18).toInt ∧ 4 * (m 94 18).toInt ≤ (m 94 11).toInt)) ∧ (m 94 11).toInt ≤ 1500 ∧ 0 ≤ (m 94 13).toInt ∧ 0 ≤ (m 94 14).toInt ∧ 0 ≤ (m 94 11).toInt from by omega) (show (m 94 8).toInt = 1 from by omega)
    · skip
      have g13 := i_nle h10
      have hg14 : (0 ≤ l1 ∧ l1.toNatClampNeg < 3100) := i_ix (by omega) (by omega)
      refine ⟨hg14, ?_⟩
      have li16 : (0 : Int32).toInt = 0 := rfl
      have hV15 : zV (ma_u m 99 l1.toNatClampNeg (0 : Int32)) := ua_99 hV (by omega) (by omega)
      first | have e17 : (l1 + (1 : Int32)).toInt = l1.toInt + (1) := i_addk rfl (by omega) (by omega) | have b18 := i_bd (l1 + (1 : Int32))
      exact IH (3100 - (l1 + (1 : Int32)).toInt).toNat (by omega) _ ((l1 + (1 : Int32))) rfl (zF_u hF rfl) hV15 (by omega) (show ∀ s : Nat, (s : Int) < (l1 + (1 : Int32)).toInt → ((ma_u m 99 l1.toNatClampNeg (0 : Int32)) 99) s = 0 from by first | (exact z0_step r_U0l (by omega) (by omega)) | (intro s hs; omega; done) | (exfalso; omega; done) | (exfalso; contradiction; done)) r_GW (show ((m 94 10).toInt ≠ 3 ∨ 4 ≤ (m 94 16).toInt) ∧ ((m 94 10).toInt ≠ 6 ∨ (16 ≤ (m 94 18).toInt ∧ 4 * (m 94 18).toInt ≤ (m 94 11).toInt)) ∧ (m 94 11).toInt ≤ 1500 ∧ 0 ≤ (m 94 13).toInt ∧ 0 ≤ (m 94 14).toInt ∧ 0 ≤ (m 94 11).toInt from by omega) (show (m 94 8).toInt = 1 from by omega)
theorem sp_180qm {X : Nat × (Nat → Int32)} {P : Option ma_V → (Nat → Nat → Int32) → Prop} {T : Nat} {m : Nat → Nat → Int32}  (hV : zV m) (r_GW : zGW T (m 94 55) (m 109)) (hpre1 : ((m 94 10).toInt ≠ 3 ∨ 4 ≤ (m 94 16).toInt) ∧ ((m 94 10).toInt ≠ 6 ∨ (16 ≤ (m 94 18).toInt ∧ 4 * (m 94 18).toInt ≤ (m 94 11).toInt)) ∧ (m 94 11).toInt ≤ 1500 ∧ 0 ≤ (m 94 13).toInt ∧ 0 ≤ (m 94 14).toInt ∧ 0 ≤ (m 94 11).toInt) (KZ : ∀ m₉, zV (zov wr_180 m m₉) → (zGW T (m₉ 94 55) (m 109)) → (zGU T (m₉ 94 46) (m₉ 99)) → (zOw (m₉ 99) (m 103) (m₉ 111)) → (zDX (m 94 10) (m₉ 99) (m₉ 112) (m₉ 113) (m 114) (m₉ 94 55) (m 98) (m 101) (m 102) (m 108)) → (zGG (m₉ 94 58) (m₉ 94 56) (m₉ 94 57) (m 106)) → (zHA (m 94 10) (m 94 11) (m 94 13) (m 94 14) (m 94 16) (m₉ 94 61) (m₉ 94 59) (m₉ 94 60) (m₉ 99) (m 102) (m 103) (m₉ 111) (m₉ 117) (m 98) (m 101) (m 108)) → (zRG (m 94 10) (m 94 18) (m₉ 94 64) (m₉ 94 63) (m₉ 99) (m 103) (m 102) (m₉ 116)) → ((m₉ 94 58).toInt = 0 ∨ (m 94 10).toInt = 5) → ((m 94 10).toInt = 6 → (m₉ 94 64) = (m 94 11) / (m 94 18)) → (∀ s : Nat, s < 3100 → (m₉ 99) s = 0) → (∀ s : Nat, s < 4600 → ((m₉ 111) s).toInt < 0) → (∀ s : Nat, (s : Int) < 16 → ((m₉ 112) s).toInt < 0) → (∀ s : Nat, (s : Int) < 16 → ((m₉ 113) s).toInt < 0) → ((m₉ 94 45).toInt = 0 ∧ (m₉ 94 46).toInt = 0 ∧ (m₉ 94 55).toInt = 0 ∧ (m₉ 94 58).toInt = 0 ∧ (m₉ 94 62).toInt = 0) → ((m₉ 94 8).toInt = 1) → ((m₉ 94 60).toInt = 0 ∧ (m₉ 94 61).toInt = 0 ∧ (m₉ 94 63).toInt = 0) → (((m 94 10).toInt = 3 ∧ (m₉ 94 59).toInt = (m 94 14).toInt) ∨ ((m 94 10).toInt ≠ 3 ∧ (m₉ 94 59).toInt = 0)) → (∀ s : Nat, s < 128 → (m₉ 116) s = 0) → (∀ s : Nat, s < 512 → (m₉ 117) s = 0) → P none (zov wr_180 m m₉)) : zm X 0 0 180 0 [(0, .inr (.inr (some 94)))] m P := by
  have K : ∀ m₉, zF wr_180 m m₉ → zV m₉ → (zGW T (m₉ 94 55) (m₉ 109)) → (zGU T (m₉ 94 46) (m₉ 99)) → (zOw (m₉ 99) (m₉ 103) (m₉ 111)) → (zDX (m₉ 94 10) (m₉ 99) (m₉ 112) (m₉ 113) (m₉ 114) (m₉ 94 55) (m₉ 98) (m₉ 101) (m₉ 102) (m₉ 108)) → (zGG (m₉ 94 58) (m₉ 94 56) (m₉ 94 57) (m₉ 106)) → (zHA (m₉ 94 10) (m₉ 94 11) (m₉ 94 13) (m₉ 94 14) (m₉ 94 16) (m₉ 94 61) (m₉ 94 59) (m₉ 94 60) (m₉ 99) (m₉ 102) (m₉ 103) (m₉ 111) (m₉ 117) (m₉ 98) (m₉ 101) (m₉ 108)) → (zRG (m₉ 94 10) (m₉ 94 18) (m₉ 94 64) (m₉ 94 63) (m₉ 99) (m₉ 103) (m₉ 102) (m₉ 116)) → ((m₉ 94 58).toInt = 0 ∨ (m₉ 94 10).toInt = 5) → ((m₉ 94 10).toInt = 6 → (m₉ 94 64) = (m₉ 94 11) / (m₉ 94 18)) → (∀ s : Nat, s < 3100 → (m₉ 99) s = 0) → (∀ s : Nat, s < 4600 → ((m₉ 111) s).toInt < 0) → (∀ s : Nat, (s : Int) < 16 → ((m₉ 112) s).toInt < 0) → (∀ s : Nat, (s : Int) < 16 → ((m₉ 113) s).toInt < 0) → ((m₉ 94 45).toInt = 0 ∧ (m₉ 94 46).toInt = 0 ∧ (m₉ 94 55).toInt = 0 ∧ (m₉ 94 58).toInt = 0 ∧ (m₉ 94 62).toInt = 0) → ((m₉ 94 8).toInt = 1) → ((m₉ 94 60).toInt = 0 ∧ (m₉ 94 61).toInt = 0 ∧ (m₉ 94 63).toInt = 0) → (((m₉ 94 10).toInt = 3 ∧ (m₉ 94 59).toInt = (m₉ 94 14).toInt) ∨ ((m₉ 94 10).toInt ≠ 3 ∧ (m₉ 94 59).toInt = 0)) → (∀ s : Nat, s < 128 → (m₉ 116) s = 0) → (∀ s : Nat, s < 512 → (m₉ 117) s = 0) → P none m₉ := by
    intro m₉ hf z q0 q1 q2 q3 q4 q5 q6 q7 q8 q9 q10 q11 q12 q13 q14 q15 q16 q17 q18
    have e := zov_eq hf
    rw [e] at z ⊢
    try rw [e] at q0
    try rw [e] at q1
    try rw [e] at q2
    try rw [e] at q3
    try rw [e] at q4
    try rw [e] at q5
    try rw [e] at q6
    try rw [e] at q7
    try rw [e] at q8
    try rw [e] at q9
    try rw [e] at q10
    try rw [e] at q11
    try rw [e] at q12
    try rw [e] at q13
    try rw [e] at q14
    try rw [e] at q15
    try rw [e] at q16
    try rw [e] at q17
    try rw [e] at q18
    exact KZ m₉ z q0 q1 q2 q3 q4 q5 q6 q7 q8 q9 q10 q11 q12 q13 q14 q15 q16 q17 q18
  refine g_180_0  ?_
  have f1 : 0 ≤ (m 94 10).toInt ∧ (m 94 10).toInt ≤ 6 := rs_94_10 (m := m) hV
  have f2 : 0 ≤ (m 94 16).toInt ∧ (m 94 16).toInt ≤ 64 := rs_94_16 (m := m) hV
  have f3 : 0 ≤ (m 94 18).toInt ∧ (m 94 18).toInt ≤ 256 := rs_94_18 (m := m) hV
  have f4 : 0 ≤ (m 94 11).toInt ∧ (m 94 11).toInt ≤ 1500 := rs_94_11 (m := m) hV
  have f5 : 0 ≤ (m 94 13).toInt ∧ (m 94 13).toInt ≤ 1500 := rs_94_13 (m := m) hV
  have f6 : 0 ≤ (m 94 14).toInt ∧ (m 94 14).toInt ≤ 1500 := rs_94_14 (m := m) hV
  have li8 : (1 : Int32).toInt = 1 := rfl
  have hV7 : zV (ma_u m 94 8 (1 : Int32)) := us_94_8 hV (by omega) (by omega)
  have li9 : (0 : Int32).toInt = 0 := rfl
  exact lp_180qm_7 hV K _ _ ((0 : Int32)) rfl (zF_u zF_rfl rfl) hV7 (by omega) (show ∀ s : Nat, (s : Int) < (0 : Int32).toInt → (m 99) s = 0 from by first | (intro s hs; omega; done) | (exfalso; omega; done) | (exfalso; contradiction; done)) r_GW (show ((m 94 10).toInt ≠ 3 ∨ 4 ≤ (m 94 16).toInt) ∧ ((m 94 10).toInt ≠ 6 ∨ (16 ≤ (m 94 18).toInt ∧ 4 * (m 94 18).toInt ≤ (m 94 11).toInt)) ∧ (m 94 11).toInt ≤ 1500 ∧ 0 ≤ (m 94 13).toInt ∧ 0 ≤ (m 94 14).toInt ∧ 0 ≤ (m 94 11).toInt from by omega) (show (1 : Int32).toInt = 1 from by omega)

/-! from 95.y03 -/
/-! the reference opens a heap (written by wip/tools/gen15w.py) -/
theorem jm_e {t : Nat → Int32} {n K ro yo ol ag cd si sh K₉ ro₉ yo₉ ol₉ ag₉ cd₉ si₉ sh₉ : Int} (h : qT1 K ro t n ∧ qT3 K yo ol ag cd t n ∧ qT6 K ro si sh t n) (e : K₉ = K) (e1 : ro₉ = ro) (e2 : yo₉ = yo) (e3 : ol₉ = ol) (e4 : ag₉ = ag) (e5 : cd₉ = cd) (e6 : si₉ = si) (e7 : sh₉ = sh) : qT1 K₉ ro₉ t n ∧ qT3 K₉ yo₉ ol₉ ag₉ cd₉ t n ∧ qT6 K₉ ro₉ si₉ sh₉ t n := by
  rw [e, e1, e2, e3, e4, e5, e6, e7]
  exact h

