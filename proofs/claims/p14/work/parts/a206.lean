/-! from 95.o22 -/
/-! the reference under COUNTS (written by wip/tools/gen20s.py) -/
theorem lp_259w_85 {X : Nat × (Nat → Int32)} {P : Option ma_V → (Nat → Nat → Int32) → Prop} {T : Nat} {ix : Int32} {pa : Int32} {m0 : Nat → Nat → Int32} (h0 : zV m0) (K : ∀ v m₉, zF wr_259 m0 m₉ → zV m₉ → (zW (m₉ 94 7) (m₉ 98) (m₉ 101) (m₉ 102) (m₉ 108)) → (zGW T (m₉ 94 55) (m₉ 109)) → (zGU T (m₉ 94 46) (m₉ 99)) → (zOw (m₉ 99) (m₉ 103) (m₉ 111)) → (zDX (m₉ 94 10) (m₉ 99) (m₉ 112) (m₉ 113) (m₉ 114) (m₉ 94 55) (m₉ 98) (m₉ 101) (m₉ 102) (m₉ 108)) → (zGG (m₉ 94 58) (m₉ 94 56) (m₉ 94 57) (m₉ 106)) → (zHA (m₉ 94 10) (m₉ 94 11) (m₉ 94 13) (m₉ 94 14) (m₉ 94 16) (m₉ 94 61) (m₉ 94 59) (m₉ 94 60) (m₉ 99) (m₉ 102) (m₉ 103) (m₉ 111) (m₉ 117) (m₉ 98) (m₉ 101) (m₉ 108)) → (zRG (m₉ 94 10) (m₉ 94 18) (m₉ 94 64) (m₉ 94 63) (m₉ 99) (m₉ 103) (m₉ 102) (m₉ 116)) → ((m₉ 94 58).toInt = 0 ∨ (m₉ 94 10).toInt = 5) → (((pa.toInt < 0 ∨ 1 < pa.toInt) ∧ (m₉ 94 0).toInt = 1) ∨ ((0 ≤ pa.toInt ∧ pa.toInt ≤ 1) ∧ (m₉ 94 0).toInt = 3)) → P (some (.inl v)) m₉) : ∀ (n : Nat) (m : Nat → Nat → Int32) (l1 : Int32) (l2 : Int32) (l4 : Int32) (l5 : Int32), ((0 : Int)).toNat = n → zF wr_259 m0 m → zV m → ((0 : Int) = 1) → zm X 2 45 259 85 [(0, .inr (.inr (some 94))), (1, .inl l1), (2, .inl l2), (4, .inl l4), (5, .inl l5)] m P := by
  intro n
  induction n using Nat.strongRecOn with
  | _ n IH =>
    intro m l1 l2 l4 l5 hmu hF hV hi0
    refine g_259_85 l1 l2 l4 l5 ?_
    have b1 := i_bd l1
    have b2 := i_bd l5
    refine zd (fun (h3 : l1 ≤ l5) => ?_) (fun (h3 : ¬ l1 ≤ l5) => ?_)
    · skip
      have g4 := i_le h3
      have li5 : (0 : Int32).toInt = 0 := rfl
      refine zd (fun (h6 : l1 < (0 : Int32)) => ?_) (fun (h6 : ¬ l1 < (0 : Int32)) => ?_)
      · skip
        have g7 := i_lt h6
        have hV8 : zV (ma_u m 94 0 (4 : Int32)) := uf_94_0 hV
        have f9 : 0 ≤ (m 94 58).toInt ∧ (m 94 58).toInt ≤ 1 := rs_94_58 (m := m) hV
        have f10 : 0 ≤ (m 94 10).toInt ∧ (m 94 10).toInt ≤ 6 := rs_94_10 (m := m) hV
        have li11 : (4 : Int32).toInt = 4 := rfl
        exact K ((0 : Int32)) _ (zF_u hF rfl) hV8 (show zW (m 94 7) (m 98) (m 101) (m 102) (m 108) from by first | (exfalso; omega; done) | (exfalso; contradiction; done)) (show zGW T (m 94 55) (m 109) from by first | (exfalso; omega; done) | (exfalso; contradiction; done)) (show zGU T (m 94 46) (m 99) from by first | (exfalso; omega; done) | (exfalso; contradiction; done)) (show zOw (m 99) (m 103) (m 111) from by first | (exfalso; omega; done) | (exfalso; contradiction; done)) (show zDX (m 94 10) (m 99) (m 112) (m 113) (m 114) (m 94 55) (m 98) (m 101) (m 102) (m 108) from by first | (exfalso; omega; done) | (exfalso; contradiction; done)) (show zGG (m 94 58) (m 94 56) (m 94 57) (m 106) from by first | (exact fun z => absurd z (by decide)) | (exact fun z => absurd z (by omega)) | (exfalso; omega; done) | (exfalso; contradiction; done)) (show zHA (m 94 10) (m 94 11) (m 94 13) (m 94 14) (m 94 16) (m 94 61) (m 94 59) (m 94 60) (m 99) (m 102) (m 103) (m 111) (m 117) (m 98) (m 101) (m 108) from by first | (exfalso; omega; done) | (exfalso; contradiction; done)) (show zRG (m 94 10) (m 94 18) (m 94 64) (m 94 63) (m 99) (m 103) (m 102) (m 116) from by first | (exfalso; omega; done) | (exfalso; contradiction; done)) (show (m 94 58).toInt = 0 ∨ (m 94 10).toInt = 5 from by omega) (show ((pa.toInt < 0 ∨ 1 < pa.toInt) ∧ (4 : Int32).toInt = 1) ∨ ((0 ≤ pa.toInt ∧ pa.toInt ≤ 1) ∧ (4 : Int32).toInt = 3) from by omega)
      · skip
        have g12 := i_nlt h6
        have b13 := i_bd l4
        refine zd (fun (h14 : (0 : Int32) ≤ l4) => ?_) (fun (h14 : ¬ (0 : Int32) ≤ l4) => ?_)
        · skip
          have g15 := i_le h14
          have b16 := i_bd l2
          refine zd (fun (h17 : l2 = (0 : Int32)) => ?_) (fun (h17 : ¬ l2 = (0 : Int32)) => ?_)
          · skip
            have g18 := i_eq h17
            have hV19 : zV (ma_u m 94 0 (0 : Int32)) := uf_94_0 hV
            have f20 : 0 ≤ (m 94 58).toInt ∧ (m 94 58).toInt ≤ 1 := rs_94_58 (m := m) hV
            have f21 : 0 ≤ (m 94 10).toInt ∧ (m 94 10).toInt ≤ 6 := rs_94_10 (m := m) hV
            exact K (l4) _ (zF_u hF rfl) hV19 (show zW (m 94 7) (m 98) (m 101) (m 102) (m 108) from by first | (exfalso; omega; done) | (exfalso; contradiction; done)) (show zGW T (m 94 55) (m 109) from by first | (exfalso; omega; done) | (exfalso; contradiction; done)) (show zGU T (m 94 46) (m 99) from by first | (exfalso; omega; done) | (exfalso; contradiction; done)) (show zOw (m 99) (m 103) (m 111) from by first | (exfalso; omega; done) | (exfalso; contradiction; done)) (show zDX (m 94 10) (m 99) (m 112) (m 113) (m 114) (m 94 55) (m 98) (m 101) (m 102) (m 108) from by first | (exfalso; omega; done) | (exfalso; contradiction; done)) (show zGG (m 94 58) (m 94 56) (m 94 57) (m 106) from by first | (exact fun z => absurd z (by decide)) | (exact fun z => absurd z (by omega)) | (exfalso; omega; done) | (exfalso; contradiction; done)) (show zHA (m 94 10) (m 94 11) (m 94 13) (m 94 14) (m 94 16) (m 94 61) (m 94 59) (m 94 60) (m 99) (m 102) (m 103) (m 111) (m 117) (m 98) (m 101) (m 108) from by first | (exfalso; omega; done) | (exfalso; contradiction; done)) (show zRG (m 94 10) (m 94 18) (m 94 64) (m 94 63) (m 99) (m 103) (m 102) (m 116) from by first | (exfalso; omega; done) | (exfalso; contradiction; done)) (show (m 94 58).toInt = 0 ∨ (m 94 10).toInt = 5 from by omega) (show ((pa.toInt < 0 ∨ 1 < pa.toInt) ∧ (0 : Int32).toInt = 1) ∨ ((0 ≤ pa.toInt ∧ pa.toInt ≤ 1) ∧ (0 : Int32).toInt = 3) from by omega)
          · skip
            have g22 := i_ne h17
            have hV23 : zV (ma_u m 94 0 (0 : Int32)) := uf_94_0 hV
            have f24 : 0 ≤ (m 94 84).toInt ∧ (m 94 84).toInt ≤ 4600 := rs_94_84 (m := m) hV
            have f25 : 0 ≤ (m 94 58).toInt ∧ (m 94 58).toInt ≤ 1 := rs_94_58 (m := m) hV
            have f26 : 0 ≤ (m 94 10).toInt ∧ (m 94 10).toInt ≤ 6 := rs_94_10 (m := m) hV
            exact K ((m 94 84)) _ (zF_u hF rfl) hV23 (show zW (m 94 7) (m 98) (m 101) (m 102) (m 108) from by first | (exfalso; omega; done) | (exfalso; contradiction; done)) (show zGW T (m 94 55) (m 109) from by first | (exfalso; omega; done) | (exfalso; contradiction; done)) (show zGU T (m 94 46) (m 99) from by first | (exfalso; omega; done) | (exfalso; contradiction; done)) (show zOw (m 99) (m 103) (m 111) from by first | (exfalso; omega; done) | (exfalso; contradiction; done)) (show zDX (m 94 10) (m 99) (m 112) (m 113) (m 114) (m 94 55) (m 98) (m 101) (m 102) (m 108) from by first | (exfalso; omega; done) | (exfalso; contradiction; done)) (show zGG (m 94 58) (m 94 56) (m 94 57) (m 106) from by first | (exact fun z => absurd z (by decide)) | (exact fun z => absurd z (by omega)) | (exfalso; omega; done) | (exfalso; contradiction; done)) (show zHA (m 94 10) (m 94 11) (m 94 13) (m 94 14) (m 94 16) (m 94 61) (m 94 59) (m 94 60) (m 99) (m 102) (m 103) (m 111) (m 117) (m 98) (m 101) (m 108) from by first | (exfalso; omega; done) | (exfalso; contradiction; done)) (show zRG (m 94 10) (m 94 18) (m 94 64) (m 94 63) (m 99) (m 103) (m 102) (m 116) from by first | (exfalso; omega; done) | (exfalso; contradiction; done)) (show (m 94 58).toInt = 0 ∨ (m 94 10).toInt = 5 from by omega) (show ((pa.toInt < 0 ∨ 1 < pa.toInt) ∧ (0 : Int32).toInt = 1) ∨ ((0 ≤ pa.toInt ∧ pa.toInt ≤ 1) ∧ (0 : Int32).toInt = 3) from by omega)
        · skip
          have g27 := i_nle h14
          have hV28 : zV (ma_u m 94 0 (4 : Int32)) := uf_94_0 hV
          have f29 : 0 ≤ (m 94 58).toInt ∧ (m 94 58).toInt ≤ 1 := rs_94_58 (m := m) hV
          have f30 : 0 ≤ (m 94 10).toInt ∧ (m 94 10).toInt ≤ 6 := rs_94_10 (m := m) hV
          have li31 : (4 : Int32).toInt = 4 := rfl
          exact K ((0 : Int32)) _ (zF_u hF rfl) hV28 (show zW (m 94 7) (m 98) (m 101) (m 102) (m 108) from by first | (exfalso; omega; done) | (exfalso; contradiction; done)) (show zGW T (m 94 55) (m 109) from by first | (exfalso; omega; done) | (exfalso; contradiction; done)) (show zGU T (m 94 46) (m 99) from by first | (exfalso; omega; done) | (exfalso; contradiction; done)) (show zOw (m 99) (m 103) (m 111) from by first | (exfalso; omega; done) | (exfalso; contradiction; done)) (show zDX (m 94 10) (m 99) (m 112) (m 113) (m 114) (m 94 55) (m 98) (m 101) (m 102) (m 108) from by first | (exfalso; omega; done) | (exfalso; contradiction; done)) (show zGG (m 94 58) (m 94 56) (m 94 57) (m 106) from by first | (exact fun z => absurd z (by decide)) | (exact fun z => absurd z (by omega)) | (exfalso; omega; done) | (exfalso; contradiction; done)) (show zHA (m 94 10) (m 94 11) (m 94 13) (m 94 14) (m 94 16) (m 94 61) (m 94 59) (m 94 60) (m 99) (m 102) (m 103) (m 111) (m 117) (m 98) (m 101) (m 108) from by first | (exfalso; omega; done) | (exfalso; contradiction; done)) (show zRG (m 94 10) (m 94 18) (m 94 64) (m 94 63) (m 99) (m 103) (m 102) (m 116) from by first | (exfalso; omega; done) | (exfalso; contradiction; done)) (show (m 94 58).toInt = 0 ∨ (m 94 10).toInt = 5 from by omega) (show ((pa.toInt < 0 ∨ 1 < pa.toInt) ∧ (4 : Int32).toInt = 1) ∨ ((0 ≤ pa.toInt ∧ pa.toInt ≤ 1) ∧ (4 : Int32).toInt = 3) from by omega)
    · skip
      have g32 := i_nle h3
      have b33 := i_bd l4
      have li34 : (0 : Int32).toInt = 0 := rfl
      refine zd (fun (h35 : l4 < (0 : Int32)) => ?_) (fun (h35 : ¬ l4 < (0 : Int32)) => ?_)
      · skip
        have g36 := i_lt h35
        refine zd (fun (h37 : l1 < (0 : Int32)) => ?_) (fun (h37 : ¬ l1 < (0 : Int32)) => ?_)
        · skip
          have g38 := i_lt h37
          have hV39 : zV (ma_u m 94 0 (4 : Int32)) := uf_94_0 hV
          have f40 : 0 ≤ (m 94 58).toInt ∧ (m 94 58).toInt ≤ 1 := rs_94_58 (m := m) hV
          have f41 : 0 ≤ (m 94 10).toInt ∧ (m 94 10).toInt ≤ 6 := rs_94_10 (m := m) hV
          have li42 : (4 : Int32).toInt = 4 := rfl
          exact K ((0 : Int32)) _ (zF_u hF rfl) hV39 (show zW (m 94 7) (m 98) (m 101) (m 102) (m 108) from by first | (exfalso; omega; done) | (exfalso; contradiction; done)) (show zGW T (m 94 55) (m 109) from by first | (exfalso; omega; done) | (exfalso; contradiction; done)) (show zGU T (m 94 46) (m 99) from by first | (exfalso; omega; done) | (exfalso; contradiction; done)) (show zOw (m 99) (m 103) (m 111) from by first | (exfalso; omega; done) | (exfalso; contradiction; done)) (show zDX (m 94 10) (m 99) (m 112) (m 113) (m 114) (m 94 55) (m 98) (m 101) (m 102) (m 108) from by first | (exfalso; omega; done) | (exfalso; contradiction; done)) (show zGG (m 94 58) (m 94 56) (m 94 57) (m 106) from by first | (exact fun z => absurd z (by decide)) | (exact fun z => absurd z (by omega)) | (exfalso; omega; done) | (exfalso; contradiction; done)) (show zHA (m 94 10) (m 94 11) (m 94 13) (m 94 14) (m 94 16) (m 94 61) (m 94 59) (m 94 60) (m 99) (m 102) (m 103) (m 111) (m 117) (m 98) (m 101) (m 108) from by first | (exfalso; omega; done) | (exfalso; contradiction; done)) (show zRG (m 94 10) (m 94 18) (m 94 64) (m 94 63) (m 99) (m 103) (m 102) (m 116) from by first | (exfalso; omega; done) | (exfalso; contradiction; done)) (show (m 94 58).toInt = 0 ∨ (m 94 10).toInt = 5 from by omega) (show ((pa.toInt < 0 ∨ 1 < pa.toInt) ∧ (4 : Int32).toInt = 1) ∨ ((0 ≤ pa.toInt ∧ pa.toInt ≤ 1) ∧ (4 : Int32).toInt = 3) from by omega)
        · skip
          have g43 := i_nlt h37
          refine zd (fun (h44 : (0 : Int32) ≤ l4) => ?_) (fun (h44 : ¬ (0 : Int32) ≤ l4) => ?_)
          · skip
            have g45 := i_le h44
            have b46 := i_bd l2
            refine zd (fun (h47 : l2 = (0 : Int32)) => ?_) (fun (h47 : ¬ l2 = (0 : Int32)) => ?_)
            · skip
              have g48 := i_eq h47
              have hV49 : zV (ma_u m 94 0 (0 : Int32)) := uf_94_0 hV
              have f50 : 0 ≤ (m 94 58).toInt ∧ (m 94 58).toInt ≤ 1 := rs_94_58 (m := m) hV
              have f51 : 0 ≤ (m 94 10).toInt ∧ (m 94 10).toInt ≤ 6 := rs_94_10 (m := m) hV
              exact K (l4) _ (zF_u hF rfl) hV49 (show zW (m 94 7) (m 98) (m 101) (m 102) (m 108) from by first | (exfalso; omega; done) | (exfalso; contradiction; done)) (show zGW T (m 94 55) (m 109) from by first | (exfalso; omega; done) | (exfalso; contradiction; done)) (show zGU T (m 94 46) (m 99) from by first | (exfalso; omega; done) | (exfalso; contradiction; done)) (show zOw (m 99) (m 103) (m 111) from by first | (exfalso; omega; done) | (exfalso; contradiction; done)) (show zDX (m 94 10) (m 99) (m 112) (m 113) (m 114) (m 94 55) (m 98) (m 101) (m 102) (m 108) from by first | (exfalso; omega; done) | (exfalso; contradiction; done)) (show zGG (m 94 58) (m 94 56) (m 94 57) (m 106) from by first | (exact fun z => absurd z (by decide)) | (exact fun z => absurd z (by omega)) | (exfalso; omega; done) | (exfalso; contradiction; done)) (show zHA (m 94 10) (m 94 11) (m 94 13) (m 94 14) (m 94 16) (m 94 61) (m 94 59) (m 94 60) (m 99) (m 102) (m 103) (m 111) (m 117) (m 98) (m 101) (m 108) from by first | (exfalso; omega; done) | (exfalso; contradiction; done)) (show zRG (m 94 10) (m 94 18) (m 94 64) (m 94 63) (m 99) (m 103) (m 102) (m 116) from by first | (exfalso; omega; done) | (exfalso; contradiction; done)) (show (m 94 58).toInt = 0 ∨ (m 94 10).toInt = 5 from by omega) (show ((pa.toInt < 0 ∨ 1 < pa.toInt) ∧ (0 : Int32).toInt = 1) ∨ ((0 ≤ pa.toInt ∧ pa.toInt ≤ 1) ∧ (0 : Int32).toInt = 3) from by omega)
            · skip
              have g52 := i_ne h47
              have hV53 : zV (ma_u m 94 0 (0 : Int32)) := uf_94_0 hV
              have f54 : 0 ≤ (m 94 84).toInt ∧ (m 94 84).toInt ≤ 4600 := rs_94_84 (m := m) hV
              have f55 : 0 ≤ (m 94 58).toInt ∧ (m 94 58).toInt ≤ 1 := rs_94_58 (m := m) hV
              have f56 : 0 ≤ (m 94 10).toInt ∧ (m 94 10).toInt ≤ 6 := rs_94_10 (m := m) hV
              exact K ((m 94 84)) _ (zF_u hF rfl) hV53 (show zW (m 94 7) (m 98) (m 101) (m 102) (m 108) from by first | (exfalso; omega; done) | (exfalso; contradiction; done)) (show zGW T (m 94 55) (m 109) from by first | (exfalso; omega; done) | (exfalso; contradiction; done)) (show zGU T (m 94 46) (m 99) from by first | (exfalso; omega; done) | (exfalso; contradiction; done)) (show zOw (m 99) (m 103) (m 111) from by first | (exfalso; omega; done) | (exfalso; contradiction; done)) (show zDX (m 94 10) (m 99) (m 112) (m 113) (m 114) (m 94 55) (m 98) (m 101) (m 102) (m 108) from by first | (exfalso; omega; done) | (exfalso; contradiction; done)) (show zGG (m 94 58) (m 94 56) (m 94 57) (m 106) from by first | (exact fun z => absurd z (by decide)) | (exact fun z => absurd z (by omega)) | (exfalso; omega; done) | (exfalso; contradiction; done)) (show zHA (m 94 10) (m 94 11) (m 94 13) (m 94 14) (m 94 16) (m 94 61) (m 94 59) (m 94 60) (m 99) (m 102) (m 103) (m 111) (m 117) (m 98) (m 101) (m 108) from by first | (exfalso; omega; done) | (exfalso; contradiction; done)) (show zRG (m 94 10) (m 94 18) (m 94 64) (m 94 63) (m 99) (m 103) (m 102) (m 116) from by first | (exfalso; omega; done) | (exfalso; contradiction; done)) (show (m 94 58).toInt = 0 ∨ (m 94 10).toInt = 5 from by omega) (show ((pa.toInt < 0 ∨ 1 < pa.toInt) ∧ (0 : Int32).toInt = 1) ∨ ((0 ≤ pa.toInt ∧ pa.toInt ≤ 1) ∧ (0 : Int32).toInt = 3) from by omega)
          · skip
            have g57 := i_nle h44
            have hV58 : zV (ma_u m 94 0 (4 : Int32)) := uf_94_0 hV
            have f59 : 0 ≤ (m 94 58).toInt ∧ (m 94 58).toInt ≤ 1 := rs_94_58 (m := m) hV
            have f60 : 0 ≤ (m 94 10).toInt ∧ (m 94 10).toInt ≤ 6 := rs_94_10 (m := m) hV
            have li61 : (4 : Int32).toInt = 4 := rfl
            exact K ((0 : Int32)) _ (zF_u hF rfl) hV58 (show zW (m 94 7) (m 98) (m 101) (m 102) (m 108) from by first | (exfalso; omega; done) | (exfalso; contradiction; done)) (show zGW T (m 94 55) (m 109) from by first | (exfalso; omega; done) | (exfalso; contradiction; done)) (show zGU T (m 94 46) (m 99) from by first | (exfalso; omega; done) | (exfalso; contradiction; done)) (show zOw (m 99) (m 103) (m 111) from by first | (exfalso; omega; done) | (exfalso; contradiction; done)) (show zDX (m 94 10) (m 99) (m 112) (m 113) (m 114) (m 94 55) (m 98) (m 101) (m 102) (m 108) from by first | (exfalso; omega; done) | (exfalso; contradiction; done)) (show zGG (m 94 58) (m 94 56) (m 94 57) (m 106) from by first | (exact fun z => absurd z (by decide)) | (exact fun z => absurd z (by omega)) | (exfalso; omega; done) | (exfalso; contradiction; done)) (show zHA (m 94 10) (m 94 11) (m 94 13) (m 94 14) (m 94 16) (m 94 61) (m 94 59) (m 94 60) (m 99) (m 102) (m 103) (m 111) (m 117) (m 98) (m 101) (m 108) from by first | (exfalso; omega; done) | (exfalso; contradiction; done)) (show zRG (m 94 10) (m 94 18) (m 94 64) (m 94 63) (m 99) (m 103) (m 102) (m 116) from by first | (exfalso; omega; done) | (exfalso; contradiction; done)) (show (m 94 58).toInt = 0 ∨ (m 94 10).toInt = 5 from by omega) (show ((pa.toInt < 0 ∨ 1 < pa.toInt) ∧ (4 : Int32).toInt = 1) ∨ ((0 ≤ pa.toInt ∧ pa.toInt ≤ 1) ∧ (4 : Int32).toInt = 3) from by omega)
      · skip
        have g62 := i_nlt h35
        have f63 : 0 ≤ (m 94 84).toInt ∧ (m 94 84).toInt ≤ 4600 := rs_94_84 (m := m) hV
        first | have e64 : (l4 + (m 94 84)).toInt = l4.toInt + (m 94 84).toInt := i_add (by omega) (by omega) | have b65 := i_bd (l4 + (m 94 84))
        have f66 : 0 ≤ (m 94 11).toInt ∧ (m 94 11).toInt ≤ 1500 := rs_94_11 (m := m) hV
        refine sp_226 ((l4 + (m 94 84))) ((m 94 11)) hV (by omega) (by omega) (by omega) (fun v2 m1 hV_m1 p0_m1 => zmi_n ?_)
        have p0_m1 : v2.toInt = -1 ∨ ((l4 + (m 94 84)).toInt ≤ v2.toInt ∧ v2.toInt < (m 94 11).toInt ∧ 1 ≤ (m1 94 84).toInt ∧ v2.toInt + (m1 94 84).toInt ≤ (m 94 11).toInt) := p0_m1
        have f67 : 0 ≤ (m1 94 84).toInt ∧ (m1 94 84).toInt ≤ 4600 := rs_94_84 (m := (zov wr_226 m m1)) hV_m1
        have b68 := i_bd l2
        have b69 := i_bd v2
        first | have e70 : (l5 + (1 : Int32)).toInt = l5.toInt + (1) := i_addk rfl (by omega) (by omega) | have b71 := i_bd (l5 + (1 : Int32))
        exact IH ((0 : Int)).toNat (by omega) _ (l1) (l2) (v2) ((l5 + (1 : Int32))) rfl (zF_zov hF ws_226_259) hV_m1 (show (0 : Int) = 1 from by omega)
theorem sp_259w {X : Nat × (Nat → Int32)} {P : Option ma_V → (Nat → Nat → Int32) → Prop} {T : Nat} {m : Nat → Nat → Int32} (ix : Int32) (pa : Int32) (hV : zV m) (hpre0 : (m 94 8).toInt = 1) (hpre1 : (m 94 10).toInt ≠ 0 ∧ (m 94 10).toInt ≠ 4 ∧ (m 94 10).toInt ≠ 5) (r_W : zW (m 94 7) (m 98) (m 101) (m 102) (m 108)) (r_GW : zGW T (m 94 55) (m 109)) (r_GU : zGU T (m 94 46) (m 99)) (r_OW : zOw (m 99) (m 103) (m 111)) (r_DX : zDX (m 94 10) (m 99) (m 112) (m 113) (m 114) (m 94 55) (m 98) (m 101) (m 102) (m 108)) (r_GG : zGG (m 94 58) (m 94 56) (m 94 57) (m 106)) (r_HA : zHA (m 94 10) (m 94 11) (m 94 13) (m 94 14) (m 94 16) (m 94 61) (m 94 59) (m 94 60) (m 99) (m 102) (m 103) (m 111) (m 117) (m 98) (m 101) (m 108)) (r_RGc : zRG (m 94 10) (m 94 18) (m 94 64) (m 94 63) (m 99) (m 103) (m 102) (m 116)) (hpre10 : (m 94 58).toInt = 0 ∨ (m 94 10).toInt = 5) (KZ : ∀ v m₉, zV (zov wr_259 m m₉) → (zW (m 94 7) (m 98) (m 101) (m 102) (m 108)) → (zGW T (m 94 55) (m 109)) → (zGU T (m 94 46) (m 99)) → (zOw (m 99) (m 103) (m 111)) → (zDX (m 94 10) (m 99) (m 112) (m 113) (m 114) (m 94 55) (m 98) (m 101) (m 102) (m 108)) → (zGG (m 94 58) (m 94 56) (m 94 57) (m 106)) → (zHA (m 94 10) (m 94 11) (m 94 13) (m 94 14) (m 94 16) (m 94 61) (m 94 59) (m 94 60) (m 99) (m 102) (m 103) (m 111) (m 117) (m 98) (m 101) (m 108)) → (zRG (m 94 10) (m 94 18) (m 94 64) (m 94 63) (m 99) (m 103) (m 102) (m 116)) → ((m 94 58).toInt = 0 ∨ (m 94 10).toInt = 5) → (((pa.toInt < 0 ∨ 1 < pa.toInt) ∧ (m₉ 94 0).toInt = 1) ∨ ((0 ≤ pa.toInt ∧ pa.toInt ≤ 1) ∧ (m₉ 94 0).toInt = 3)) → P (some (.inl v)) (zov wr_259 m m₉)) : zm X 2 45 259 0 [(0, .inr (.inr (some 94))), (1, .inl ix), (2, .inl pa)] m P := by
  have K : ∀ v m₉, zF wr_259 m m₉ → zV m₉ → (zW (m₉ 94 7) (m₉ 98) (m₉ 101) (m₉ 102) (m₉ 108)) → (zGW T (m₉ 94 55) (m₉ 109)) → (zGU T (m₉ 94 46) (m₉ 99)) → (zOw (m₉ 99) (m₉ 103) (m₉ 111)) → (zDX (m₉ 94 10) (m₉ 99) (m₉ 112) (m₉ 113) (m₉ 114) (m₉ 94 55) (m₉ 98) (m₉ 101) (m₉ 102) (m₉ 108)) → (zGG (m₉ 94 58) (m₉ 94 56) (m₉ 94 57) (m₉ 106)) → (zHA (m₉ 94 10) (m₉ 94 11) (m₉ 94 13) (m₉ 94 14) (m₉ 94 16) (m₉ 94 61) (m₉ 94 59) (m₉ 94 60) (m₉ 99) (m₉ 102) (m₉ 103) (m₉ 111) (m₉ 117) (m₉ 98) (m₉ 101) (m₉ 108)) → (zRG (m₉ 94 10) (m₉ 94 18) (m₉ 94 64) (m₉ 94 63) (m₉ 99) (m₉ 103) (m₉ 102) (m₉ 116)) → ((m₉ 94 58).toInt = 0 ∨ (m₉ 94 10).toInt = 5) → (((pa.toInt < 0 ∨ 1 < pa.toInt) ∧ (m₉ 94 0).toInt = 1) ∨ ((0 ≤ pa.toInt ∧ pa.toInt ≤ 1) ∧ (m₉ 94 0).toInt = 3)) → P (some (.inl v)) m₉ := by
    intro v m₉ hf z q0 q1 q2 q3 q4 q5 q6 q7 q8 q9
    have e := zov_eq hf
    rw [e] at z ⊢
    try rw [e] at q0
    try rw [e] at q1
    try rw [e] at q2
    try rw [e] at q3
    try rw [e] at q4
    try rw [e] at q5
    try rw [e] at q6
    try rw [e] at q7
    try rw [e] at q8
    try rw [e] at q9
    exact KZ v m₉ z q0 q1 q2 q3 q4 q5 q6 q7 q8 q9
  refine g_259_0 ix pa ?_
  have f1 : 0 ≤ (m 94 8).toInt ∧ (m 94 8).toInt ≤ 1 := rs_94_8 (m := m) hV
  have f2 : 0 ≤ (m 94 10).toInt ∧ (m 94 10).toInt ≤ 6 := rs_94_10 (m := m) hV
  have f3 : 0 ≤ (m 94 58).toInt ∧ (m 94 58).toInt ≤ 1 := rs_94_58 (m := m) hV
  have li4 : (0 : Int32).toInt = 0 := rfl
  refine zd (fun (h5 : (m 94 10) = (0 : Int32)) => ?_) (fun (h5 : ¬ (m 94 10) = (0 : Int32)) => ?_)
  · skip
    have g6 := i_eq h5
    have b7 := i_bd pa
    refine zd (fun (h8 : pa < (0 : Int32)) => ?_) (fun (h8 : ¬ pa < (0 : Int32)) => ?_)
    · skip
      have g9 := i_lt h8
      have hV10 : zV (ma_u m 94 0 (1 : Int32)) := uf_94_0 hV
      have li11 : (1 : Int32).toInt = 1 := rfl
      exact K ((0 : Int32)) _ (zF_u zF_rfl rfl) hV10 r_W r_GW r_GU r_OW r_DX r_GG r_HA r_RGc (show (m 94 58).toInt = 0 ∨ (m 94 10).toInt = 5 from by omega) (show ((pa.toInt < 0 ∨ 1 < pa.toInt) ∧ (1 : Int32).toInt = 1) ∨ ((0 ≤ pa.toInt ∧ pa.toInt ≤ 1) ∧ (1 : Int32).toInt = 3) from by omega)
    · skip
      have g12 := i_nlt h8
      have li13 : (1 : Int32).toInt = 1 := rfl
      refine zd (fun (h14 : pa ≤ (1 : Int32)) => ?_) (fun (h14 : ¬ pa ≤ (1 : Int32)) => ?_)
      · skip
        have g15 := i_le h14
        refine zd (fun (h16 : (m 94 8) = (0 : Int32)) => ?_) (fun (h16 : ¬ (m 94 8) = (0 : Int32)) => ?_)
        · skip
          have g17 := i_eq h16
          have hV18 : zV (ma_u m 94 0 (2 : Int32)) := uf_94_0 hV
          have li19 : (2 : Int32).toInt = 2 := rfl
          exact K ((0 : Int32)) _ (zF_u zF_rfl rfl) hV18 r_W r_GW r_GU r_OW r_DX r_GG r_HA r_RGc (show (m 94 58).toInt = 0 ∨ (m 94 10).toInt = 5 from by omega) (show ((pa.toInt < 0 ∨ 1 < pa.toInt) ∧ (2 : Int32).toInt = 1) ∨ ((0 ≤ pa.toInt ∧ pa.toInt ≤ 1) ∧ (2 : Int32).toInt = 3) from by omega)
        · skip
          have g20 := i_ne h16
          have f21 : 0 ≤ (m 94 11).toInt ∧ (m 94 11).toInt ≤ 1500 := rs_94_11 (m := m) hV
          have hV22 : zV (ma_u m 94 0 (0 : Int32)) := uf_94_0 hV
          refine sp_226 ((0 : Int32)) ((m 94 11)) hV22 (by omega) (by omega) (by omega) (fun v2 m1 hV_m1 p0_m1 => zmi_n ?_)
          have p0_m1 : v2.toInt = -1 ∨ ((0 : Int32).toInt ≤ v2.toInt ∧ v2.toInt < (m 94 11).toInt ∧ 1 ≤ (m1 94 84).toInt ∧ v2.toInt + (m1 94 84).toInt ≤ (m 94 11).toInt) := p0_m1
          have f23 : 0 ≤ (m1 94 84).toInt ∧ (m1 94 84).toInt ≤ 4600 := rs_94_84 (m := (zov wr_226 (ma_u m 94 0 (0 : Int32)) m1)) hV_m1
          have b24 := i_bd ix
          have b25 := i_bd v2
          exact lp_259w_85 (ix := ix) (pa := pa) hV K _ _ (ix) (pa) (v2) ((0 : Int32)) rfl (zF_zov (zF_u zF_rfl rfl) ws_226_259) hV_m1 (show (0 : Int) = 1 from by omega)
      · skip
        have g26 := i_nle h14
        have hV27 : zV (ma_u m 94 0 (1 : Int32)) := uf_94_0 hV
        exact K ((0 : Int32)) _ (zF_u zF_rfl rfl) hV27 r_W r_GW r_GU r_OW r_DX r_GG r_HA r_RGc (show (m 94 58).toInt = 0 ∨ (m 94 10).toInt = 5 from by omega) (show ((pa.toInt < 0 ∨ 1 < pa.toInt) ∧ (1 : Int32).toInt = 1) ∨ ((0 ≤ pa.toInt ∧ pa.toInt ≤ 1) ∧ (1 : Int32).toInt = 3) from by omega)
  · skip
    have g28 := i_ne h5
    have li29 : (4 : Int32).toInt = 4 := rfl
    refine zd (fun (h30 : (m 94 10) = (4 : Int32)) => ?_) (fun (h30 : ¬ (m 94 10) = (4 : Int32)) => ?_)
    · skip
      have g31 := i_eq h30
      have b32 := i_bd pa
      refine zd (fun (h33 : pa < (0 : Int32)) => ?_) (fun (h33 : ¬ pa < (0 : Int32)) => ?_)
      · skip
        have g34 := i_lt h33
        have hV35 : zV (ma_u m 94 0 (1 : Int32)) := uf_94_0 hV
        have li36 : (1 : Int32).toInt = 1 := rfl
        exact K ((0 : Int32)) _ (zF_u zF_rfl rfl) hV35 r_W r_GW r_GU r_OW r_DX r_GG r_HA r_RGc (show (m 94 58).toInt = 0 ∨ (m 94 10).toInt = 5 from by omega) (show ((pa.toInt < 0 ∨ 1 < pa.toInt) ∧ (1 : Int32).toInt = 1) ∨ ((0 ≤ pa.toInt ∧ pa.toInt ≤ 1) ∧ (1 : Int32).toInt = 3) from by omega)
      · skip
        have g37 := i_nlt h33
        have li38 : (1 : Int32).toInt = 1 := rfl
        refine zd (fun (h39 : pa ≤ (1 : Int32)) => ?_) (fun (h39 : ¬ pa ≤ (1 : Int32)) => ?_)
        · skip
          have g40 := i_le h39
          refine zd (fun (h41 : (m 94 8) = (0 : Int32)) => ?_) (fun (h41 : ¬ (m 94 8) = (0 : Int32)) => ?_)
          · skip
            have g42 := i_eq h41
            have hV43 : zV (ma_u m 94 0 (2 : Int32)) := uf_94_0 hV
            have li44 : (2 : Int32).toInt = 2 := rfl
            exact K ((0 : Int32)) _ (zF_u zF_rfl rfl) hV43 r_W r_GW r_GU r_OW r_DX r_GG r_HA r_RGc (show (m 94 58).toInt = 0 ∨ (m 94 10).toInt = 5 from by omega) (show ((pa.toInt < 0 ∨ 1 < pa.toInt) ∧ (2 : Int32).toInt = 1) ∨ ((0 ≤ pa.toInt ∧ pa.toInt ≤ 1) ∧ (2 : Int32).toInt = 3) from by omega)
          · skip
            have g45 := i_ne h41
            have f46 : 0 ≤ (m 94 11).toInt ∧ (m 94 11).toInt ≤ 1500 := rs_94_11 (m := m) hV
            have hV47 : zV (ma_u m 94 0 (0 : Int32)) := uf_94_0 hV
            refine sp_226 ((0 : Int32)) ((m 94 11)) hV47 (by omega) (by omega) (by omega) (fun v4 m3 hV_m3 p0_m3 => zmi_n ?_)
            have p0_m3 : v4.toInt = -1 ∨ ((0 : Int32).toInt ≤ v4.toInt ∧ v4.toInt < (m 94 11).toInt ∧ 1 ≤ (m3 94 84).toInt ∧ v4.toInt + (m3 94 84).toInt ≤ (m 94 11).toInt) := p0_m3
            have f48 : 0 ≤ (m3 94 84).toInt ∧ (m3 94 84).toInt ≤ 4600 := rs_94_84 (m := (zov wr_226 (ma_u m 94 0 (0 : Int32)) m3)) hV_m3
            have b49 := i_bd ix
            have b50 := i_bd v4
            exact lp_259w_85 (ix := ix) (pa := pa) hV K _ _ (ix) (pa) (v4) ((0 : Int32)) rfl (zF_zov (zF_u zF_rfl rfl) ws_226_259) hV_m3 (show (0 : Int) = 1 from by omega)
        · skip
          have g51 := i_nle h39
          have hV52 : zV (ma_u m 94 0 (1 : Int32)) := uf_94_0 hV
          exact K ((0 : Int32)) _ (zF_u zF_rfl rfl) hV52 r_W r_GW r_GU r_OW r_DX r_GG r_HA r_RGc (show (m 94 58).toInt = 0 ∨ (m 94 10).toInt = 5 from by omega) (show ((pa.toInt < 0 ∨ 1 < pa.toInt) ∧ (1 : Int32).toInt = 1) ∨ ((0 ≤ pa.toInt ∧ pa.toInt ≤ 1) ∧ (1 : Int32).toInt = 3) from by omega)
    · skip
      have g53 := i_ne h30
      have li54 : (5 : Int32).toInt = 5 := rfl
      refine zd (fun (h55 : (m 94 10) = (5 : Int32)) => ?_) (fun (h55 : ¬ (m 94 10) = (5 : Int32)) => ?_)
      · skip
        have g56 := i_eq h55
        have b57 := i_bd pa
        refine zd (fun (h58 : pa < (0 : Int32)) => ?_) (fun (h58 : ¬ pa < (0 : Int32)) => ?_)
        · skip
          have g59 := i_lt h58
          have hV60 : zV (ma_u m 94 0 (1 : Int32)) := uf_94_0 hV
          have li61 : (1 : Int32).toInt = 1 := rfl
          exact K ((0 : Int32)) _ (zF_u zF_rfl rfl) hV60 r_W r_GW r_GU r_OW r_DX r_GG r_HA r_RGc (show (m 94 58).toInt = 0 ∨ (m 94 10).toInt = 5 from by omega) (show ((pa.toInt < 0 ∨ 1 < pa.toInt) ∧ (1 : Int32).toInt = 1) ∨ ((0 ≤ pa.toInt ∧ pa.toInt ≤ 1) ∧ (1 : Int32).toInt = 3) from by omega)
        · skip
          have g62 := i_nlt h58
          have li63 : (1 : Int32).toInt = 1 := rfl
          refine zd (fun (h64 : pa ≤ (1 : Int32)) => ?_) (fun (h64 : ¬ pa ≤ (1 : Int32)) => ?_)
          · skip
            have g65 := i_le h64
            refine zd (fun (h66 : (m 94 8) = (0 : Int32)) => ?_) (fun (h66 : ¬ (m 94 8) = (0 : Int32)) => ?_)
            · skip
              have g67 := i_eq h66
              have hV68 : zV (ma_u m 94 0 (2 : Int32)) := uf_94_0 hV
              have li69 : (2 : Int32).toInt = 2 := rfl
              exact K ((0 : Int32)) _ (zF_u zF_rfl rfl) hV68 r_W r_GW r_GU r_OW r_DX r_GG r_HA r_RGc (show (m 94 58).toInt = 0 ∨ (m 94 10).toInt = 5 from by omega) (show ((pa.toInt < 0 ∨ 1 < pa.toInt) ∧ (2 : Int32).toInt = 1) ∨ ((0 ≤ pa.toInt ∧ pa.toInt ≤ 1) ∧ (2 : Int32).toInt = 3) from by omega)
            · skip
              have g70 := i_ne h66
              have f71 : 0 ≤ (m 94 11).toInt ∧ (m 94 11).toInt ≤ 1500 := rs_94_11 (m := m) hV
              have hV72 : zV (ma_u m 94 0 (0 : Int32)) := uf_94_0 hV
              refine sp_226 ((0 : Int32)) ((m 94 11)) hV72 (by omega) (by omega) (by omega) (fun v6 m5 hV_m5 p0_m5 => zmi_n ?_)
              have p0_m5 : v6.toInt = -1 ∨ ((0 : Int32).toInt ≤ v6.toInt ∧ v6.toInt < (m 94 11).toInt ∧ 1 ≤ (m5 94 84).toInt ∧ v6.toInt + (m5 94 84).toInt ≤ (m 94 11).toInt) := p0_m5
              have f73 : 0 ≤ (m5 94 84).toInt ∧ (m5 94 84).toInt ≤ 4600 := rs_94_84 (m := (zov wr_226 (ma_u m 94 0 (0 : Int32)) m5)) hV_m5
              have b74 := i_bd ix
              have b75 := i_bd v6
              exact lp_259w_85 (ix := ix) (pa := pa) hV K _ _ (ix) (pa) (v6) ((0 : Int32)) rfl (zF_zov (zF_u zF_rfl rfl) ws_226_259) hV_m5 (show (0 : Int) = 1 from by omega)
          · skip
            have g76 := i_nle h64
            have hV77 : zV (ma_u m 94 0 (1 : Int32)) := uf_94_0 hV
            exact K ((0 : Int32)) _ (zF_u zF_rfl rfl) hV77 r_W r_GW r_GU r_OW r_DX r_GG r_HA r_RGc (show (m 94 58).toInt = 0 ∨ (m 94 10).toInt = 5 from by omega) (show ((pa.toInt < 0 ∨ 1 < pa.toInt) ∧ (1 : Int32).toInt = 1) ∨ ((0 ≤ pa.toInt ∧ pa.toInt ≤ 1) ∧ (1 : Int32).toInt = 3) from by omega)
      · skip
        have g78 := i_ne h55
        have b79 := i_bd pa
        refine zd (fun (h80 : pa < (0 : Int32)) => ?_) (fun (h80 : ¬ pa < (0 : Int32)) => ?_)
        · skip
          have g81 := i_lt h80
          have hV82 : zV (ma_u m 94 0 (1 : Int32)) := uf_94_0 hV
          have li83 : (1 : Int32).toInt = 1 := rfl
          exact K ((0 : Int32)) _ (zF_u zF_rfl rfl) hV82 r_W r_GW r_GU r_OW r_DX r_GG r_HA r_RGc (show (m 94 58).toInt = 0 ∨ (m 94 10).toInt = 5 from by omega) (show ((pa.toInt < 0 ∨ 1 < pa.toInt) ∧ (1 : Int32).toInt = 1) ∨ ((0 ≤ pa.toInt ∧ pa.toInt ≤ 1) ∧ (1 : Int32).toInt = 3) from by omega)
        · skip
          have g84 := i_nlt h80
          have li85 : (1 : Int32).toInt = 1 := rfl
          refine zd (fun (h86 : pa ≤ (1 : Int32)) => ?_) (fun (h86 : ¬ pa ≤ (1 : Int32)) => ?_)
          · skip
            have g87 := i_le h86
            refine zd (fun (h88 : (m 94 8) = (0 : Int32)) => ?_) (fun (h88 : ¬ (m 94 8) = (0 : Int32)) => ?_)
            · skip
              have g89 := i_eq h88
              have hV90 : zV (ma_u m 94 0 (2 : Int32)) := uf_94_0 hV
              have li91 : (2 : Int32).toInt = 2 := rfl
              exact K ((0 : Int32)) _ (zF_u zF_rfl rfl) hV90 r_W r_GW r_GU r_OW r_DX r_GG r_HA r_RGc (show (m 94 58).toInt = 0 ∨ (m 94 10).toInt = 5 from by omega) (show ((pa.toInt < 0 ∨ 1 < pa.toInt) ∧ (2 : Int32).toInt = 1) ∨ ((0 ≤ pa.toInt ∧ pa.toInt ≤ 1) ∧ (2 : Int32).toInt = 3) from by omega)
            · skip
              have g92 := i_ne h88
              have hV93 : zV (ma_u m 94 0 (3 : Int32)) := uf_94_0 hV
              have li94 : (3 : Int32).toInt = 3 := rfl
              exact K ((0 : Int32)) _ (zF_u zF_rfl rfl) hV93 r_W r_GW r_GU r_OW r_DX r_GG r_HA r_RGc (show (m 94 58).toInt = 0 ∨ (m 94 10).toInt = 5 from by omega) (show ((pa.toInt < 0 ∨ 1 < pa.toInt) ∧ (3 : Int32).toInt = 1) ∨ ((0 ≤ pa.toInt ∧ pa.toInt ≤ 1) ∧ (3 : Int32).toInt = 3) from by omega)
          · skip
            have g95 := i_nle h86
            have hV96 : zV (ma_u m 94 0 (1 : Int32)) := uf_94_0 hV
            exact K ((0 : Int32)) _ (zF_u zF_rfl rfl) hV96 r_W r_GW r_GU r_OW r_DX r_GG r_HA r_RGc (show (m 94 58).toInt = 0 ∨ (m 94 10).toInt = 5 from by omega) (show ((pa.toInt < 0 ∨ 1 < pa.toInt) ∧ (1 : Int32).toInt = 1) ∨ ((0 ≤ pa.toInt ∧ pa.toInt ≤ 1) ∧ (1 : Int32).toInt = 3) from by omega)

