/-! from 95.e02 -/
/-! the reference: texts (written by wip/tools/gen94n.py) -/
theorem lp_177n_36 {X : Nat × (Nat → Int32)} {P : Option ma_V → (Nat → Nat → Int32) → Prop} {lo : Int32} {hi : Int32} {m0 : Nat → Nat → Int32} (h0 : zV m0) (K : ∀ v m₉, zF wr_177 m0 m₉ → zV m₉ → (v = 0 ∨ v = 1) → ((m₉ 94 67).toInt ≤ (m₉ 94 4).toInt) → ((m₉ 94 68).toInt + (m₉ 94 69).toInt ≤ 100) → (v.toInt = 1 → lo.toInt ≤ (m₉ 94 71).toInt ∧ (m₉ 94 71).toInt ≤ hi.toInt) → ((m₉ 94 68).toInt + (m₉ 94 69).toInt = (m₉ 94 67).toInt) → ((m₉ 94 68).toInt = tk true (m₉ 96) (m₉ 94 4).toInt (m0 94 67).toInt) → ((m₉ 94 67).toInt = tk false (m₉ 96) (m₉ 94 4).toInt (m₉ 94 68).toInt) → (zNU v (m₉ 94 71).toInt (zNum (m₉ 96) (m₉ 94 68).toInt (m₉ 94 67).toInt lo.toInt hi.toInt) (m₉ 94 70).toInt (m₉ 94 68).toInt) → P (some (.inl v)) m₉) : ∀ (n : Nat) (m : Nat → Nat → Int32) (l1 : Int32) (l2 : Int32) (l3 : Int32) (l4 : Int32) (l5 : Int32), (100 - l5.toInt).toNat = n → zF wr_177 m0 m → zV m → (0 ≤ l5.toInt) → (l1.toInt = lo.toInt) → (l2.toInt = hi.toInt) → (0 ≤ l3.toInt) → (l3.toInt ≤ 1) → ((m 94 67).toInt ≤ (m 94 4).toInt) → ((m 94 68).toInt + (m 94 69).toInt ≤ 100) → ((m 94 68).toInt + (m 94 69).toInt = (m 94 67).toInt) → (1 ≤ (m 94 69).toInt) → ((m 94 68).toInt = tk true (m 96) (m 94 4).toInt (m0 94 67).toInt) → ((m 94 67).toInt = tk false (m 96) (m 94 4).toInt (m 94 68).toInt) → (zGB (m 96) (m 94 68).toInt (m 94 67).toInt l3.toInt l4.toInt l5.toInt) → zm X 1 21 177 36 [(0, .inr (.inr (some 94))), (1, .inl l1), (2, .inl l2), (3, .inl l3), (4, .inl l4), (5, .inl l5)] m P := by
  intro n
  induction n using Nat.strongRecOn with
  | _ n IH =>
    intro m l1 l2 l3 l4 l5 hmu hF hV hi0 hi1 hi2 hi3 hi4 hi5 hi6 hi7 hi8 r_NT1 r_NT2 r_GB
    refine g_177_36 l1 l2 l3 l4 l5 ?_
    have f1 : 0 ≤ (m 94 67).toInt ∧ (m 94 67).toInt ≤ 100 := rs_94_67 (m := m) hV
    have f2 : 0 ≤ (m 94 4).toInt ∧ (m 94 4).toInt ≤ 100 := rs_94_4 (m := m) hV
    have f3 : 0 ≤ (m 94 68).toInt ∧ (m 94 68).toInt ≤ 100 := rs_94_68 (m := m) hV
    have f4 : 0 ≤ (m 94 69).toInt ∧ (m 94 69).toInt ≤ 100 := rs_94_69 (m := m) hV
    have b5 := i_bd l5
    refine zd (fun (h6 : (m 94 69) ≤ l5) => ?_) (fun (h6 : ¬ (m 94 69) ≤ l5) => ?_)
    · skip
      have g7 := i_le h6
      have b8 := i_bd l3
      have li9 : (0 : Int32).toInt = 0 := rfl
      refine zd (fun (h10 : l3 = (0 : Int32)) => ?_) (fun (h10 : ¬ l3 = (0 : Int32)) => ?_)
      · skip
        have g11 := i_eq h10
        try have gbn := GB_nn r_GB (by omega)
        try have gb4 := GB_4 r_GB (by omega) (by omega)
        have hV12 : zV (ma_u m 94 71 l4) := uf_94_71 hV
        have hV13 : zV (ma_u (ma_u m 94 71 l4) 94 70 (m 94 68)) := us_94_70 hV12 (by omega) (by omega)
        have b14 := i_bd l4
        exact K ((0 : Int32)) _ (zF_u (zF_u hF rfl) rfl) hV13 (by decide) (show (m 94 67).toInt ≤ (m 94 4).toInt from by omega) (show (m 94 68).toInt + (m 94 69).toInt ≤ 100 from by omega) (show (0 : Int32).toInt = 1 → lo.toInt ≤ l4.toInt ∧ l4.toInt ≤ hi.toInt from by omega) (show (m 94 68).toInt + (m 94 69).toInt = (m 94 67).toInt from by omega) r_NT1 r_NT2 (show zNU (0 : Int32) l4.toInt (zNum (m 96) (m 94 68).toInt (m 94 67).toInt lo.toInt hi.toInt) (m 94 68).toInt (m 94 68).toInt from by first | (exact Or.inr ⟨by omega, zNum_no (by omega), by have z := tk_end (by omega) r_NT1 r_NT2 (by omega); omega⟩) | (exact Or.inr ⟨by omega, GB_no r_GB (by omega) _ _, by omega⟩) | (exact Or.inr ⟨by omega, zNum_out (GB_end r_GB (by omega) (by omega)) (by omega), by omega⟩) | (exact Or.inl ⟨by omega, (zNum_in (by omega) (GB_end r_GB (by omega) (by omega)) (by omega) (by omega) (by omega)).symm⟩) | (exfalso; omega; done) | (exfalso; contradiction; done))
      · skip
        have g15 := i_ne h10
        have b16 := i_bd l4
        have b17 := i_bd l1
        refine zd (fun (h18 : l4 < l1) => ?_) (fun (h18 : ¬ l4 < l1) => ?_)
        · skip
          have g19 := i_lt h18
          try have gbn := GB_nn r_GB (by omega)
          try have gb4 := GB_4 r_GB (by omega) (by omega)
          have hV20 : zV (ma_u m 94 71 l4) := uf_94_71 hV
          have hV21 : zV (ma_u (ma_u m 94 71 l4) 94 70 (m 94 68)) := us_94_70 hV20 (by omega) (by omega)
          exact K ((0 : Int32)) _ (zF_u (zF_u hF rfl) rfl) hV21 (by decide) (show (m 94 67).toInt ≤ (m 94 4).toInt from by omega) (show (m 94 68).toInt + (m 94 69).toInt ≤ 100 from by omega) (show (0 : Int32).toInt = 1 → lo.toInt ≤ l4.toInt ∧ l4.toInt ≤ hi.toInt from by omega) (show (m 94 68).toInt + (m 94 69).toInt = (m 94 67).toInt from by omega) r_NT1 r_NT2 (show zNU (0 : Int32) l4.toInt (zNum (m 96) (m 94 68).toInt (m 94 67).toInt lo.toInt hi.toInt) (m 94 68).toInt (m 94 68).toInt from by first | (exact Or.inr ⟨by omega, zNum_no (by omega), by have z := tk_end (by omega) r_NT1 r_NT2 (by omega); omega⟩) | (exact Or.inr ⟨by omega, GB_no r_GB (by omega) _ _, by omega⟩) | (exact Or.inr ⟨by omega, zNum_out (GB_end r_GB (by omega) (by omega)) (by omega), by omega⟩) | (exact Or.inl ⟨by omega, (zNum_in (by omega) (GB_end r_GB (by omega) (by omega)) (by omega) (by omega) (by omega)).symm⟩) | (exfalso; omega; done) | (exfalso; contradiction; done))
        · skip
          have g22 := i_nlt h18
          have b23 := i_bd l2
          refine zd (fun (h24 : l4 ≤ l2) => ?_) (fun (h24 : ¬ l4 ≤ l2) => ?_)
          · skip
            have g25 := i_le h24
            try have gbn := GB_nn r_GB (by omega)
            try have gb4 := GB_4 r_GB (by omega) (by omega)
            have hV26 : zV (ma_u m 94 71 l4) := uf_94_71 hV
            have li27 : (1 : Int32).toInt = 1 := rfl
            exact K ((1 : Int32)) _ (zF_u hF rfl) hV26 (by decide) (show (m 94 67).toInt ≤ (m 94 4).toInt from by omega) (show (m 94 68).toInt + (m 94 69).toInt ≤ 100 from by omega) (show (1 : Int32).toInt = 1 → lo.toInt ≤ l4.toInt ∧ l4.toInt ≤ hi.toInt from by omega) (show (m 94 68).toInt + (m 94 69).toInt = (m 94 67).toInt from by omega) r_NT1 r_NT2 (show zNU (1 : Int32) l4.toInt (zNum (m 96) (m 94 68).toInt (m 94 67).toInt lo.toInt hi.toInt) (m 94 70).toInt (m 94 68).toInt from by first | (exact Or.inr ⟨by omega, zNum_no (by omega), by have z := tk_end (by omega) r_NT1 r_NT2 (by omega); omega⟩) | (exact Or.inr ⟨by omega, GB_no r_GB (by omega) _ _, by omega⟩) | (exact Or.inr ⟨by omega, zNum_out (GB_end r_GB (by omega) (by omega)) (by omega), by omega⟩) | (exact Or.inl ⟨by omega, (zNum_in (by omega) (GB_end r_GB (by omega) (by omega)) (by omega) (by omega) (by omega)).symm⟩) | (exfalso; omega; done) | (exfalso; contradiction; done))
          · skip
            have g28 := i_nle h24
            try have gbn := GB_nn r_GB (by omega)
            try have gb4 := GB_4 r_GB (by omega) (by omega)
            have hV29 : zV (ma_u m 94 71 l4) := uf_94_71 hV
            have hV30 : zV (ma_u (ma_u m 94 71 l4) 94 70 (m 94 68)) := us_94_70 hV29 (by omega) (by omega)
            exact K ((0 : Int32)) _ (zF_u (zF_u hF rfl) rfl) hV30 (by decide) (show (m 94 67).toInt ≤ (m 94 4).toInt from by omega) (show (m 94 68).toInt + (m 94 69).toInt ≤ 100 from by omega) (show (0 : Int32).toInt = 1 → lo.toInt ≤ l4.toInt ∧ l4.toInt ≤ hi.toInt from by omega) (show (m 94 68).toInt + (m 94 69).toInt = (m 94 67).toInt from by omega) r_NT1 r_NT2 (show zNU (0 : Int32) l4.toInt (zNum (m 96) (m 94 68).toInt (m 94 67).toInt lo.toInt hi.toInt) (m 94 68).toInt (m 94 68).toInt from by first | (exact Or.inr ⟨by omega, zNum_no (by omega), by have z := tk_end (by omega) r_NT1 r_NT2 (by omega); omega⟩) | (exact Or.inr ⟨by omega, GB_no r_GB (by omega) _ _, by omega⟩) | (exact Or.inr ⟨by omega, zNum_out (GB_end r_GB (by omega) (by omega)) (by omega), by omega⟩) | (exact Or.inl ⟨by omega, (zNum_in (by omega) (GB_end r_GB (by omega) (by omega)) (by omega) (by omega) (by omega)).symm⟩) | (exfalso; omega; done) | (exfalso; contradiction; done))
    · skip
      have g31 := i_nle h6
      have b32 := i_bd l3
      have li33 : (0 : Int32).toInt = 0 := rfl
      refine zd (fun (h34 : l3 = (0 : Int32)) => ?_) (fun (h34 : ¬ l3 = (0 : Int32)) => ?_)
      · skip
        have g35 := i_eq h34
        refine zd (fun (h36 : l3 = (0 : Int32)) => ?_) (fun (h36 : ¬ l3 = (0 : Int32)) => ?_)
        · skip
          have g37 := i_eq h36
          try have gbn := GB_nn r_GB (by omega)
          try have gb4 := GB_4 r_GB (by omega) (by omega)
          have hV38 : zV (ma_u m 94 71 l4) := uf_94_71 hV
          have hV39 : zV (ma_u (ma_u m 94 71 l4) 94 70 (m 94 68)) := us_94_70 hV38 (by omega) (by omega)
          have b40 := i_bd l4
          exact K ((0 : Int32)) _ (zF_u (zF_u hF rfl) rfl) hV39 (by decide) (show (m 94 67).toInt ≤ (m 94 4).toInt from by omega) (show (m 94 68).toInt + (m 94 69).toInt ≤ 100 from by omega) (show (0 : Int32).toInt = 1 → lo.toInt ≤ l4.toInt ∧ l4.toInt ≤ hi.toInt from by omega) (show (m 94 68).toInt + (m 94 69).toInt = (m 94 67).toInt from by omega) r_NT1 r_NT2 (show zNU (0 : Int32) l4.toInt (zNum (m 96) (m 94 68).toInt (m 94 67).toInt lo.toInt hi.toInt) (m 94 68).toInt (m 94 68).toInt from by first | (exact Or.inr ⟨by omega, zNum_no (by omega), by have z := tk_end (by omega) r_NT1 r_NT2 (by omega); omega⟩) | (exact Or.inr ⟨by omega, GB_no r_GB (by omega) _ _, by omega⟩) | (exact Or.inr ⟨by omega, zNum_out (GB_end r_GB (by omega) (by omega)) (by omega), by omega⟩) | (exact Or.inl ⟨by omega, (zNum_in (by omega) (GB_end r_GB (by omega) (by omega)) (by omega) (by omega) (by omega)).symm⟩) | (exfalso; omega; done) | (exfalso; contradiction; done))
        · skip
          have g41 := i_ne h36
          have b42 := i_bd l4
          have b43 := i_bd l1
          refine zd (fun (h44 : l4 < l1) => ?_) (fun (h44 : ¬ l4 < l1) => ?_)
          · skip
            have g45 := i_lt h44
            try have gbn := GB_nn r_GB (by omega)
            try have gb4 := GB_4 r_GB (by omega) (by omega)
            have hV46 : zV (ma_u m 94 71 l4) := uf_94_71 hV
            have hV47 : zV (ma_u (ma_u m 94 71 l4) 94 70 (m 94 68)) := us_94_70 hV46 (by omega) (by omega)
            exact K ((0 : Int32)) _ (zF_u (zF_u hF rfl) rfl) hV47 (by decide) (show (m 94 67).toInt ≤ (m 94 4).toInt from by omega) (show (m 94 68).toInt + (m 94 69).toInt ≤ 100 from by omega) (show (0 : Int32).toInt = 1 → lo.toInt ≤ l4.toInt ∧ l4.toInt ≤ hi.toInt from by omega) (show (m 94 68).toInt + (m 94 69).toInt = (m 94 67).toInt from by omega) r_NT1 r_NT2 (show zNU (0 : Int32) l4.toInt (zNum (m 96) (m 94 68).toInt (m 94 67).toInt lo.toInt hi.toInt) (m 94 68).toInt (m 94 68).toInt from by first | (exact Or.inr ⟨by omega, zNum_no (by omega), by have z := tk_end (by omega) r_NT1 r_NT2 (by omega); omega⟩) | (exact Or.inr ⟨by omega, GB_no r_GB (by omega) _ _, by omega⟩) | (exact Or.inr ⟨by omega, zNum_out (GB_end r_GB (by omega) (by omega)) (by omega), by omega⟩) | (exact Or.inl ⟨by omega, (zNum_in (by omega) (GB_end r_GB (by omega) (by omega)) (by omega) (by omega) (by omega)).symm⟩) | (exfalso; omega; done) | (exfalso; contradiction; done))
          · skip
            have g48 := i_nlt h44
            have b49 := i_bd l2
            refine zd (fun (h50 : l4 ≤ l2) => ?_) (fun (h50 : ¬ l4 ≤ l2) => ?_)
            · skip
              have g51 := i_le h50
              try have gbn := GB_nn r_GB (by omega)
              try have gb4 := GB_4 r_GB (by omega) (by omega)
              have hV52 : zV (ma_u m 94 71 l4) := uf_94_71 hV
              have li53 : (1 : Int32).toInt = 1 := rfl
              exact K ((1 : Int32)) _ (zF_u hF rfl) hV52 (by decide) (show (m 94 67).toInt ≤ (m 94 4).toInt from by omega) (show (m 94 68).toInt + (m 94 69).toInt ≤ 100 from by omega) (show (1 : Int32).toInt = 1 → lo.toInt ≤ l4.toInt ∧ l4.toInt ≤ hi.toInt from by omega) (show (m 94 68).toInt + (m 94 69).toInt = (m 94 67).toInt from by omega) r_NT1 r_NT2 (show zNU (1 : Int32) l4.toInt (zNum (m 96) (m 94 68).toInt (m 94 67).toInt lo.toInt hi.toInt) (m 94 70).toInt (m 94 68).toInt from by first | (exact Or.inr ⟨by omega, zNum_no (by omega), by have z := tk_end (by omega) r_NT1 r_NT2 (by omega); omega⟩) | (exact Or.inr ⟨by omega, GB_no r_GB (by omega) _ _, by omega⟩) | (exact Or.inr ⟨by omega, zNum_out (GB_end r_GB (by omega) (by omega)) (by omega), by omega⟩) | (exact Or.inl ⟨by omega, (zNum_in (by omega) (GB_end r_GB (by omega) (by omega)) (by omega) (by omega) (by omega)).symm⟩) | (exfalso; omega; done) | (exfalso; contradiction; done))
            · skip
              have g54 := i_nle h50
              try have gbn := GB_nn r_GB (by omega)
              try have gb4 := GB_4 r_GB (by omega) (by omega)
              have hV55 : zV (ma_u m 94 71 l4) := uf_94_71 hV
              have hV56 : zV (ma_u (ma_u m 94 71 l4) 94 70 (m 94 68)) := us_94_70 hV55 (by omega) (by omega)
              exact K ((0 : Int32)) _ (zF_u (zF_u hF rfl) rfl) hV56 (by decide) (show (m 94 67).toInt ≤ (m 94 4).toInt from by omega) (show (m 94 68).toInt + (m 94 69).toInt ≤ 100 from by omega) (show (0 : Int32).toInt = 1 → lo.toInt ≤ l4.toInt ∧ l4.toInt ≤ hi.toInt from by omega) (show (m 94 68).toInt + (m 94 69).toInt = (m 94 67).toInt from by omega) r_NT1 r_NT2 (show zNU (0 : Int32) l4.toInt (zNum (m 96) (m 94 68).toInt (m 94 67).toInt lo.toInt hi.toInt) (m 94 68).toInt (m 94 68).toInt from by first | (exact Or.inr ⟨by omega, zNum_no (by omega), by have z := tk_end (by omega) r_NT1 r_NT2 (by omega); omega⟩) | (exact Or.inr ⟨by omega, GB_no r_GB (by omega) _ _, by omega⟩) | (exact Or.inr ⟨by omega, zNum_out (GB_end r_GB (by omega) (by omega)) (by omega), by omega⟩) | (exact Or.inl ⟨by omega, (zNum_in (by omega) (GB_end r_GB (by omega) (by omega)) (by omega) (by omega) (by omega)).symm⟩) | (exfalso; omega; done) | (exfalso; contradiction; done))
      · skip
        have g57 := i_ne h34
        first | have e58 : ((m 94 68) + l5).toInt = (m 94 68).toInt + l5.toInt := i_add (by omega) (by omega) | have b59 := i_bd ((m 94 68) + l5)
        have hg60 : (0 ≤ ((m 94 68) + l5) ∧ ((m 94 68) + l5).toNatClampNeg < 100) := i_ix (by omega) (by omega)
        refine ⟨hg60, ?_⟩
        have b61 := i_bd (m 96 ((m 94 68) + l5).toNatClampNeg)
        have li62 : (48 : Int32).toInt = 48 := rfl
        refine zd (fun (h63 : (m 96 ((m 94 68) + l5).toNatClampNeg) < (48 : Int32)) => ?_) (fun (h63 : ¬ (m 96 ((m 94 68) + l5).toNatClampNeg) < (48 : Int32)) => ?_)
        · skip
          have g64 := i_lt h63
          try have gbn := GB_nn r_GB (by omega)
          try have gb4 := GB_4 r_GB (by omega) (by omega)
          have b65 := i_bd l1
          have b66 := i_bd l2
          have li67 : (10 : Int32).toInt = 10 := rfl
          have b68 := i_bd l4
          first | have e69 : ((10 : Int32) * l4).toInt = 10 * l4.toInt := i_mulk2 rfl (by omega) (by omega) | have b70 := i_bd ((10 : Int32) * l4)
          first | have e71 : (((10 : Int32) * l4) + (m 96 ((m 94 68) + l5).toNatClampNeg)).toInt = ((10 : Int32) * l4).toInt + (m 96 ((m 94 68) + l5).toNatClampNeg).toInt := i_add (by omega) (by omega) | have b72 := i_bd (((10 : Int32) * l4) + (m 96 ((m 94 68) + l5).toNatClampNeg))
          first | have e73 : ((((10 : Int32) * l4) + (m 96 ((m 94 68) + l5).toNatClampNeg)) - (48 : Int32)).toInt = (((10 : Int32) * l4) + (m 96 ((m 94 68) + l5).toNatClampNeg)).toInt - (48) := i_subk rfl (by omega) (by omega) | have b74 := i_bd ((((10 : Int32) * l4) + (m 96 ((m 94 68) + l5).toNatClampNeg)) - (48 : Int32))
          first | have e75 : (l5 + (1 : Int32)).toInt = l5.toInt + (1) := i_addk rfl (by omega) (by omega) | have b76 := i_bd (l5 + (1 : Int32))
          exact IH (100 - (l5 + (1 : Int32)).toInt).toNat (by omega) _ (l1) (l2) ((0 : Int32)) (((((10 : Int32) * l4) + (m 96 ((m 94 68) + l5).toNatClampNeg)) - (48 : Int32))) ((l5 + (1 : Int32))) rfl hF hV (by omega) (by omega) (by omega) (by omega) (by omega) (show (m 94 67).toInt ≤ (m 94 4).toInt from by omega) (show (m 94 68).toInt + (m 94 69).toInt ≤ 100 from by omega) (show (m 94 68).toInt + (m 94 69).toInt = (m 94 67).toInt from by omega) (show 1 ≤ (m 94 69).toInt from by omega) r_NT1 r_NT2 (show zGB (m 96) (m 94 68).toInt (m 94 67).toInt (0 : Int32).toInt ((((10 : Int32) * l4) + (m 96 ((m 94 68) + l5).toNatClampNeg)) - (48 : Int32)).toInt (l5 + (1 : Int32)).toInt from by first | (exact GB_go r_GB (by omega) (by omega) (by omega) (x := (m 96 ((m 94 68) + l5).toNatClampNeg)) (congrArg (m 96) (congrArg Int.toNat (show ((m 94 68) + l5).toInt = (m 94 68).toInt + l5.toInt from by omega))) (by omega) (by omega) (by omega) (by omega) (by omega)) | (exact GB_bad r_GB (by omega) (by omega) (x := (m 96 ((m 94 68) + l5).toNatClampNeg)) (congrArg (m 96) (congrArg Int.toNat (show ((m 94 68) + l5).toInt = (m 94 68).toInt + l5.toInt from by omega))) (by omega) (by omega)) | (exfalso; omega; done) | (exfalso; contradiction; done))
        · skip
          have g77 := i_nlt h63
          have li78 : (57 : Int32).toInt = 57 := rfl
          refine zd (fun (h79 : (57 : Int32) < (m 96 ((m 94 68) + l5).toNatClampNeg)) => ?_) (fun (h79 : ¬ (57 : Int32) < (m 96 ((m 94 68) + l5).toNatClampNeg)) => ?_)
          · skip
            have g80 := i_lt h79
            try have gbn := GB_nn r_GB (by omega)
            try have gb4 := GB_4 r_GB (by omega) (by omega)
            have b81 := i_bd l1
            have b82 := i_bd l2
            have li83 : (10 : Int32).toInt = 10 := rfl
            have b84 := i_bd l4
            first | have e85 : ((10 : Int32) * l4).toInt = 10 * l4.toInt := i_mulk2 rfl (by omega) (by omega) | have b86 := i_bd ((10 : Int32) * l4)
            first | have e87 : (((10 : Int32) * l4) + (m 96 ((m 94 68) + l5).toNatClampNeg)).toInt = ((10 : Int32) * l4).toInt + (m 96 ((m 94 68) + l5).toNatClampNeg).toInt := i_add (by omega) (by omega) | have b88 := i_bd (((10 : Int32) * l4) + (m 96 ((m 94 68) + l5).toNatClampNeg))
            first | have e89 : ((((10 : Int32) * l4) + (m 96 ((m 94 68) + l5).toNatClampNeg)) - (48 : Int32)).toInt = (((10 : Int32) * l4) + (m 96 ((m 94 68) + l5).toNatClampNeg)).toInt - (48) := i_subk rfl (by omega) (by omega) | have b90 := i_bd ((((10 : Int32) * l4) + (m 96 ((m 94 68) + l5).toNatClampNeg)) - (48 : Int32))
            first | have e91 : (l5 + (1 : Int32)).toInt = l5.toInt + (1) := i_addk rfl (by omega) (by omega) | have b92 := i_bd (l5 + (1 : Int32))
            exact IH (100 - (l5 + (1 : Int32)).toInt).toNat (by omega) _ (l1) (l2) ((0 : Int32)) (((((10 : Int32) * l4) + (m 96 ((m 94 68) + l5).toNatClampNeg)) - (48 : Int32))) ((l5 + (1 : Int32))) rfl hF hV (by omega) (by omega) (by omega) (by omega) (by omega) (show (m 94 67).toInt ≤ (m 94 4).toInt from by omega) (show (m 94 68).toInt + (m 94 69).toInt ≤ 100 from by omega) (show (m 94 68).toInt + (m 94 69).toInt = (m 94 67).toInt from by omega) (show 1 ≤ (m 94 69).toInt from by omega) r_NT1 r_NT2 (show zGB (m 96) (m 94 68).toInt (m 94 67).toInt (0 : Int32).toInt ((((10 : Int32) * l4) + (m 96 ((m 94 68) + l5).toNatClampNeg)) - (48 : Int32)).toInt (l5 + (1 : Int32)).toInt from by first | (exact GB_go r_GB (by omega) (by omega) (by omega) (x := (m 96 ((m 94 68) + l5).toNatClampNeg)) (congrArg (m 96) (congrArg Int.toNat (show ((m 94 68) + l5).toInt = (m 94 68).toInt + l5.toInt from by omega))) (by omega) (by omega) (by omega) (by omega) (by omega)) | (exact GB_bad r_GB (by omega) (by omega) (x := (m 96 ((m 94 68) + l5).toNatClampNeg)) (congrArg (m 96) (congrArg Int.toNat (show ((m 94 68) + l5).toInt = (m 94 68).toInt + l5.toInt from by omega))) (by omega) (by omega)) | (exfalso; omega; done) | (exfalso; contradiction; done))
          · skip
            have g93 := i_nlt h79
            try have gbn := GB_nn r_GB (by omega)
            try have gb4 := GB_4 r_GB (by omega) (by omega)
            have b94 := i_bd l1
            have b95 := i_bd l2
            have li96 : (1 : Int32).toInt = 1 := rfl
            have li97 : (10 : Int32).toInt = 10 := rfl
            have b98 := i_bd l4
            first | have e99 : ((10 : Int32) * l4).toInt = 10 * l4.toInt := i_mulk2 rfl (by omega) (by omega) | have b100 := i_bd ((10 : Int32) * l4)
            first | have e101 : (((10 : Int32) * l4) + (m 96 ((m 94 68) + l5).toNatClampNeg)).toInt = ((10 : Int32) * l4).toInt + (m 96 ((m 94 68) + l5).toNatClampNeg).toInt := i_add (by omega) (by omega) | have b102 := i_bd (((10 : Int32) * l4) + (m 96 ((m 94 68) + l5).toNatClampNeg))
            first | have e103 : ((((10 : Int32) * l4) + (m 96 ((m 94 68) + l5).toNatClampNeg)) - (48 : Int32)).toInt = (((10 : Int32) * l4) + (m 96 ((m 94 68) + l5).toNatClampNeg)).toInt - (48) := i_subk rfl (by omega) (by omega) | have b104 := i_bd ((((10 : Int32) * l4) + (m 96 ((m 94 68) + l5).toNatClampNeg)) - (48 : Int32))
            first | have e105 : (l5 + (1 : Int32)).toInt = l5.toInt + (1) := i_addk rfl (by omega) (by omega) | have b106 := i_bd (l5 + (1 : Int32))
            exact IH (100 - (l5 + (1 : Int32)).toInt).toNat (by omega) _ (l1) (l2) ((1 : Int32)) (((((10 : Int32) * l4) + (m 96 ((m 94 68) + l5).toNatClampNeg)) - (48 : Int32))) ((l5 + (1 : Int32))) rfl hF hV (by omega) (by omega) (by omega) (by omega) (by omega) (show (m 94 67).toInt ≤ (m 94 4).toInt from by omega) (show (m 94 68).toInt + (m 94 69).toInt ≤ 100 from by omega) (show (m 94 68).toInt + (m 94 69).toInt = (m 94 67).toInt from by omega) (show 1 ≤ (m 94 69).toInt from by omega) r_NT1 r_NT2 (show zGB (m 96) (m 94 68).toInt (m 94 67).toInt (1 : Int32).toInt ((((10 : Int32) * l4) + (m 96 ((m 94 68) + l5).toNatClampNeg)) - (48 : Int32)).toInt (l5 + (1 : Int32)).toInt from by first | (exact GB_go r_GB (by omega) (by omega) (by omega) (x := (m 96 ((m 94 68) + l5).toNatClampNeg)) (congrArg (m 96) (congrArg Int.toNat (show ((m 94 68) + l5).toInt = (m 94 68).toInt + l5.toInt from by omega))) (by omega) (by omega) (by omega) (by omega) (by omega)) | (exact GB_bad r_GB (by omega) (by omega) (x := (m 96 ((m 94 68) + l5).toNatClampNeg)) (congrArg (m 96) (congrArg Int.toNat (show ((m 94 68) + l5).toInt = (m 94 68).toInt + l5.toInt from by omega))) (by omega) (by omega)) | (exfalso; omega; done) | (exfalso; contradiction; done))
theorem sp_177n {X : Nat × (Nat → Int32)} {P : Option ma_V → (Nat → Nat → Int32) → Prop} {m : Nat → Nat → Int32} (lo : Int32) (hi : Int32) (hV : zV m) (hpre0 : (m 94 67).toInt ≤ (m 94 4).toInt) (KZ : ∀ v m₉, zV (zov wr_177 m m₉) → (v = 0 ∨ v = 1) → ((m₉ 94 67).toInt ≤ (m 94 4).toInt) → ((m₉ 94 68).toInt + (m₉ 94 69).toInt ≤ 100) → (v.toInt = 1 → lo.toInt ≤ (m₉ 94 71).toInt ∧ (m₉ 94 71).toInt ≤ hi.toInt) → ((m₉ 94 68).toInt + (m₉ 94 69).toInt = (m₉ 94 67).toInt) → ((m₉ 94 68).toInt = tk true (m 96) (m 94 4).toInt (m 94 67).toInt) → ((m₉ 94 67).toInt = tk false (m 96) (m 94 4).toInt (m₉ 94 68).toInt) → (zNU v (m₉ 94 71).toInt (zNum (m 96) (m₉ 94 68).toInt (m₉ 94 67).toInt lo.toInt hi.toInt) (m₉ 94 70).toInt (m₉ 94 68).toInt) → P (some (.inl v)) (zov wr_177 m m₉)) : zm X 1 21 177 0 [(0, .inr (.inr (some 94))), (1, .inl lo), (2, .inl hi)] m P := by
  have K : ∀ v m₉, zF wr_177 m m₉ → zV m₉ → (v = 0 ∨ v = 1) → ((m₉ 94 67).toInt ≤ (m₉ 94 4).toInt) → ((m₉ 94 68).toInt + (m₉ 94 69).toInt ≤ 100) → (v.toInt = 1 → lo.toInt ≤ (m₉ 94 71).toInt ∧ (m₉ 94 71).toInt ≤ hi.toInt) → ((m₉ 94 68).toInt + (m₉ 94 69).toInt = (m₉ 94 67).toInt) → ((m₉ 94 68).toInt = tk true (m₉ 96) (m₉ 94 4).toInt (m 94 67).toInt) → ((m₉ 94 67).toInt = tk false (m₉ 96) (m₉ 94 4).toInt (m₉ 94 68).toInt) → (zNU v (m₉ 94 71).toInt (zNum (m₉ 96) (m₉ 94 68).toInt (m₉ 94 67).toInt lo.toInt hi.toInt) (m₉ 94 70).toInt (m₉ 94 68).toInt) → P (some (.inl v)) m₉ := by
    intro v m₉ hf z q0 q1 q2 q3 q4 q5 q6 q7
    have e := zov_eq hf
    rw [e] at z ⊢
    try rw [e] at q0
    try rw [e] at q1
    try rw [e] at q2
    try rw [e] at q3
    try rw [e] at q4
    try rw [e] at q5
    try rw [e] at q6
    try rw [e] at q7
    exact KZ v m₉ z q0 q1 q2 q3 q4 q5 q6 q7
  refine g_177_0 lo hi ?_
  have f1 : 0 ≤ (m 94 67).toInt ∧ (m 94 67).toInt ≤ 100 := rs_94_67 (m := m) hV
  have f2 : 0 ≤ (m 94 4).toInt ∧ (m 94 4).toInt ≤ 100 := rs_94_4 (m := m) hV
  refine sp_173n  hV (show (m 94 67).toInt ≤ (m 94 4).toInt from by omega) (fun v2 m1 hV_m1 hb_m1 p0_m1 p1_m1 p2_m1 p3_m1 p4_m1 => zmi_n ?_)
  have p0_m1 : (m1 94 67).toInt ≤ (m 94 4).toInt := p0_m1
  have p1_m1 : (m1 94 68).toInt + (m1 94 69).toInt = (m1 94 67).toInt := p1_m1
  have p2_m1 : (v2.toInt = 1 ∧ 1 ≤ (m1 94 69).toInt) ∨ (v2.toInt = 0 ∧ (m1 94 69).toInt = 0) := p2_m1
  have p3_m1 : (m1 94 68).toInt = tk true (m 96) (m 94 4).toInt (m 94 67).toInt := p3_m1
  have p4_m1 : (m1 94 67).toInt = tk false (m 96) (m 94 4).toInt (m1 94 68).toInt := p4_m1
  have f3 : 0 ≤ (m1 94 67).toInt ∧ (m1 94 67).toInt ≤ 100 := rs_94_67 (m := (zov wr_173 m m1)) hV_m1
  have f4 : 0 ≤ (m1 94 68).toInt ∧ (m1 94 68).toInt ≤ 100 := rs_94_68 (m := (zov wr_173 m m1)) hV_m1
  have f5 : 0 ≤ (m1 94 69).toInt ∧ (m1 94 69).toInt ≤ 100 := rs_94_69 (m := (zov wr_173 m m1)) hV_m1
  have f6 := i_01 hb_m1
  have li7 : (0 : Int32).toInt = 0 := rfl
  refine zd (fun (h8 : v2 = (0 : Int32)) => ?_) (fun (h8 : ¬ v2 = (0 : Int32)) => ?_)
  · skip
    have g9 := i_eq h8
    have hV10 : zV (ma_u (zov wr_173 m m1) 94 70 (m 94 4)) := us_94_70 hV_m1 (by omega) (by omega)
    have b11 := i_bd (m 94 71)
    exact K ((0 : Int32)) _ (zF_u (zF_zov zF_rfl ws_173_177) rfl) hV10 (by decide) (show (m1 94 67).toInt ≤ (m 94 4).toInt from by omega) (show (m1 94 68).toInt + (m1 94 69).toInt ≤ 100 from by omega) (show (0 : Int32).toInt = 1 → lo.toInt ≤ (m 94 71).toInt ∧ (m 94 71).toInt ≤ hi.toInt from by omega) (show (m1 94 68).toInt + (m1 94 69).toInt = (m1 94 67).toInt from by omega) p3_m1 p4_m1 (show zNU (0 : Int32) (m 94 71).toInt (zNum (m 96) (m1 94 68).toInt (m1 94 67).toInt lo.toInt hi.toInt) (m 94 4).toInt (m1 94 68).toInt from by first | (exact Or.inr ⟨by omega, zNum_no (by omega), by have z := tk_end (by omega) p3_m1 p4_m1 (by omega); omega⟩) | (exfalso; omega; done) | (exfalso; contradiction; done))
  · skip
    have g12 := i_ne h8
    have li13 : (5 : Int32).toInt = 5 := rfl
    refine zd (fun (h14 : (5 : Int32) < (m1 94 69)) => ?_) (fun (h14 : ¬ (5 : Int32) < (m1 94 69)) => ?_)
    · skip
      have g15 := i_lt h14
      have b16 := i_bd lo
      have b17 := i_bd hi
      exact lp_177n_36 (lo := lo) (hi := hi) hV K _ _ (lo) (hi) ((0 : Int32)) ((0 : Int32)) ((0 : Int32)) rfl (zF_zov zF_rfl ws_173_177) hV_m1 (by omega) (by omega) (by omega) (by omega) (by omega) (show (m1 94 67).toInt ≤ (m 94 4).toInt from by omega) (show (m1 94 68).toInt + (m1 94 69).toInt ≤ 100 from by omega) (show (m1 94 68).toInt + (m1 94 69).toInt = (m1 94 67).toInt from by omega) (show 1 ≤ (m1 94 69).toInt from by omega) p3_m1 p4_m1 (show zGB (m 96) (m1 94 68).toInt (m1 94 67).toInt (0 : Int32).toInt (0 : Int32).toInt (0 : Int32).toInt from by first | (exact GB_1 (by omega) (by omega) (by omega) (by omega)) | (exact GB_0 (by omega) (by omega)) | (exfalso; omega; done) | (exfalso; contradiction; done))
    · skip
      have g18 := i_nlt h14
      have b19 := i_bd lo
      have b20 := i_bd hi
      have li21 : (1 : Int32).toInt = 1 := rfl
      exact lp_177n_36 (lo := lo) (hi := hi) hV K _ _ (lo) (hi) ((1 : Int32)) ((0 : Int32)) ((0 : Int32)) rfl (zF_zov zF_rfl ws_173_177) hV_m1 (by omega) (by omega) (by omega) (by omega) (by omega) (show (m1 94 67).toInt ≤ (m 94 4).toInt from by omega) (show (m1 94 68).toInt + (m1 94 69).toInt ≤ 100 from by omega) (show (m1 94 68).toInt + (m1 94 69).toInt = (m1 94 67).toInt from by omega) (show 1 ≤ (m1 94 69).toInt from by omega) p3_m1 p4_m1 (show zGB (m 96) (m1 94 68).toInt (m1 94 67).toInt (1 : Int32).toInt (0 : Int32).toInt (0 : Int32).toInt from by first | (exact GB_1 (by omega) (by omega) (by omega) (by omega)) | (exact GB_0 (by omega) (by omega)) | (exfalso; omega; done) | (exfalso; contradiction; done))
theorem sp_179n {X : Nat × (Nat → Int32)} {P : Option ma_V → (Nat → Nat → Int32) → Prop} {m : Nat → Nat → Int32}  (hV : zV m) (hpre0 : (m 94 67).toInt ≤ (m 94 4).toInt) (KZ : ∀ v m₉, zV (zov wr_179 m m₉) → (v = 0 ∨ v = 1) → ((m₉ 94 67).toInt ≤ (m 94 4).toInt) → ((m₉ 94 68).toInt + (m₉ 94 69).toInt = (m₉ 94 67).toInt) → ((m₉ 94 68).toInt = tk true (m 96) (m 94 4).toInt (m 94 67).toInt) → ((m₉ 94 67).toInt = tk false (m 96) (m 94 4).toInt (m₉ 94 68).toInt) → (zFO v (m₉ 94 22).toInt (zForm (m 96) (m₉ 94 68) (m₉ 94 69).toInt) (m₉ 94 70).toInt (m₉ 94 68).toInt) → P (some (.inl v)) (zov wr_179 m m₉)) : zm X 2 50 179 0 [(0, .inr (.inr (some 94)))] m P := by
  have K : ∀ v m₉, zF wr_179 m m₉ → zV m₉ → (v = 0 ∨ v = 1) → ((m₉ 94 67).toInt ≤ (m₉ 94 4).toInt) → ((m₉ 94 68).toInt + (m₉ 94 69).toInt = (m₉ 94 67).toInt) → ((m₉ 94 68).toInt = tk true (m₉ 96) (m₉ 94 4).toInt (m 94 67).toInt) → ((m₉ 94 67).toInt = tk false (m₉ 96) (m₉ 94 4).toInt (m₉ 94 68).toInt) → (zFO v (m₉ 94 22).toInt (zForm (m₉ 96) (m₉ 94 68) (m₉ 94 69).toInt) (m₉ 94 70).toInt (m₉ 94 68).toInt) → P (some (.inl v)) m₉ := by
    intro v m₉ hf z q0 q1 q2 q3 q4 q5
    have e := zov_eq hf
    rw [e] at z ⊢
    try rw [e] at q0
    try rw [e] at q1
    try rw [e] at q2
    try rw [e] at q3
    try rw [e] at q4
    try rw [e] at q5
    exact KZ v m₉ z q0 q1 q2 q3 q4 q5
  refine g_179_0  ?_
  have f1 : 0 ≤ (m 94 67).toInt ∧ (m 94 67).toInt ≤ 100 := rs_94_67 (m := m) hV
  have f2 : 0 ≤ (m 94 4).toInt ∧ (m 94 4).toInt ≤ 100 := rs_94_4 (m := m) hV
  refine sp_173n  hV (show (m 94 67).toInt ≤ (m 94 4).toInt from by omega) (fun v2 m1 hV_m1 hb_m1 p0_m1 p1_m1 p2_m1 p3_m1 p4_m1 => zmi_n ?_)
  have p0_m1 : (m1 94 67).toInt ≤ (m 94 4).toInt := p0_m1
  have p1_m1 : (m1 94 68).toInt + (m1 94 69).toInt = (m1 94 67).toInt := p1_m1
  have p2_m1 : (v2.toInt = 1 ∧ 1 ≤ (m1 94 69).toInt) ∨ (v2.toInt = 0 ∧ (m1 94 69).toInt = 0) := p2_m1
  have p3_m1 : (m1 94 68).toInt = tk true (m 96) (m 94 4).toInt (m 94 67).toInt := p3_m1
  have p4_m1 : (m1 94 67).toInt = tk false (m 96) (m 94 4).toInt (m1 94 68).toInt := p4_m1
  have f3 : 0 ≤ (m1 94 67).toInt ∧ (m1 94 67).toInt ≤ 100 := rs_94_67 (m := (zov wr_173 m m1)) hV_m1
  have f4 : 0 ≤ (m1 94 68).toInt ∧ (m1 94 68).toInt ≤ 100 := rs_94_68 (m := (zov wr_173 m m1)) hV_m1
  have f5 : 0 ≤ (m1 94 69).toInt ∧ (m1 94 69).toInt ≤ 100 := rs_94_69 (m := (zov wr_173 m m1)) hV_m1
  have f6 := i_01 hb_m1
  have li7 : (0 : Int32).toInt = 0 := rfl
  refine zd (fun (h8 : v2 = (0 : Int32)) => ?_) (fun (h8 : ¬ v2 = (0 : Int32)) => ?_)
  · skip
    have g9 := i_eq h8
    have hV10 : zV (ma_u (zov wr_173 m m1) 94 70 (m 94 4)) := us_94_70 hV_m1 (by omega) (by omega)
    exact K ((0 : Int32)) _ (zF_u (zF_zov zF_rfl ws_173_179) rfl) hV10 (by decide) (show (m1 94 67).toInt ≤ (m 94 4).toInt from by omega) (show (m1 94 68).toInt + (m1 94 69).toInt = (m1 94 67).toInt from by omega) p3_m1 p4_m1 (show zFO (0 : Int32) (m 94 22).toInt (zForm (m 96) (m1 94 68) (m1 94 69).toInt) (m 94 4).toInt (m1 94 68).toInt from by first | (exact Or.inr ⟨by omega, zForm_0 (by omega), by have z := tk_end (by omega) p3_m1 p4_m1 (by omega); omega⟩) | (exfalso; omega; done) | (exfalso; contradiction; done))
  · skip
    have g11 := i_ne h8
    have li12 : (102 : Int32).toInt = 102 := rfl
    have li13 : (105 : Int32).toInt = 105 := rfl
    have li14 : (114 : Int32).toInt = 114 := rfl
    have li15 : (115 : Int32).toInt = 115 := rfl
    have li16 : (116 : Int32).toInt = 116 := rfl
    refine sp_175n ((102 : Int32)) ((105 : Int32)) ((114 : Int32)) ((115 : Int32)) ((116 : Int32)) ((0 : Int32)) ((0 : Int32)) hV_m1 (show (m1 94 68).toInt + (m1 94 69).toInt ≤ 100 from by omega) (fun v4 m3 hV_m3 hb_m3 p0_m3 => zmi_n ?_)
    have p0_m3 : zZW v4 (zwd (m 96) (m1 94 68) (m1 94 69).toInt (102 : Int32) (105 : Int32) (114 : Int32) (115 : Int32) (116 : Int32) (0 : Int32) (0 : Int32)) := p0_m3
    have f17 := i_01 hb_m3
    refine zd (fun (h18 : v4 = (0 : Int32)) => ?_) (fun (h18 : ¬ v4 = (0 : Int32)) => ?_)
    · skip
      have g19 := i_eq h18
      have li20 : (110 : Int32).toInt = 110 := rfl
      have li21 : (101 : Int32).toInt = 101 := rfl
      have li22 : (120 : Int32).toInt = 120 := rfl
      refine sp_175n ((110 : Int32)) ((101 : Int32)) ((120 : Int32)) ((116 : Int32)) ((0 : Int32)) ((0 : Int32)) ((0 : Int32)) hV_m3 (show (m1 94 68).toInt + (m1 94 69).toInt ≤ 100 from by omega) (fun v6 m5 hV_m5 hb_m5 p0_m5 => zmi_n ?_)
      have p0_m5 : zZW v6 (zwd (m 96) (m1 94 68) (m1 94 69).toInt (110 : Int32) (101 : Int32) (120 : Int32) (116 : Int32) (0 : Int32) (0 : Int32) (0 : Int32)) := p0_m5
      have f23 := i_01 hb_m5
      refine zd (fun (h24 : v6 = (0 : Int32)) => ?_) (fun (h24 : ¬ v6 = (0 : Int32)) => ?_)
      · skip
        have g25 := i_eq h24
        have li26 : (98 : Int32).toInt = 98 := rfl
        refine sp_175n ((98 : Int32)) ((101 : Int32)) ((115 : Int32)) ((116 : Int32)) ((0 : Int32)) ((0 : Int32)) ((0 : Int32)) hV_m5 (show (m1 94 68).toInt + (m1 94 69).toInt ≤ 100 from by omega) (fun v8 m7 hV_m7 hb_m7 p0_m7 => zmi_n ?_)
        have p0_m7 : zZW v8 (zwd (m 96) (m1 94 68) (m1 94 69).toInt (98 : Int32) (101 : Int32) (115 : Int32) (116 : Int32) (0 : Int32) (0 : Int32) (0 : Int32)) := p0_m7
        have f27 := i_01 hb_m7
        refine zd (fun (h28 : v8 = (0 : Int32)) => ?_) (fun (h28 : ¬ v8 = (0 : Int32)) => ?_)
        · skip
          have g29 := i_eq h28
          have li30 : (119 : Int32).toInt = 119 := rfl
          have li31 : (111 : Int32).toInt = 111 := rfl
          refine sp_175n ((119 : Int32)) ((111 : Int32)) ((114 : Int32)) ((115 : Int32)) ((116 : Int32)) ((0 : Int32)) ((0 : Int32)) hV_m7 (show (m1 94 68).toInt + (m1 94 69).toInt ≤ 100 from by omega) (fun v10 m9 hV_m9 hb_m9 p0_m9 => zmi_n ?_)
          have p0_m9 : zZW v10 (zwd (m 96) (m1 94 68) (m1 94 69).toInt (119 : Int32) (111 : Int32) (114 : Int32) (115 : Int32) (116 : Int32) (0 : Int32) (0 : Int32)) := p0_m9
          have f32 := i_01 hb_m9
          refine zd (fun (h33 : v10 = (0 : Int32)) => ?_) (fun (h33 : ¬ v10 = (0 : Int32)) => ?_)
          · skip
            have g34 := i_eq h33
            have hV35 : zV (ma_u (zov wr_175 (zov wr_175 (zov wr_175 (zov wr_175 (zov wr_173 m m1) m3) m5) m7) m9) 94 22 (-1 : Int32)) := uf_94_22 hV_m9
            have hV36 : zV (ma_u (ma_u (zov wr_175 (zov wr_175 (zov wr_175 (zov wr_175 (zov wr_173 m m1) m3) m5) m7) m9) 94 22 (-1 : Int32)) 94 70 (m1 94 68)) := us_94_70 hV35 (by omega) (by omega)
            exact K ((0 : Int32)) _ (zF_u (zF_u (zF_zov (zF_zov (zF_zov (zF_zov (zF_zov zF_rfl ws_173_179) ws_175_179) ws_175_179) ws_175_179) ws_175_179) rfl) rfl) hV36 (by decide) (show (m1 94 67).toInt ≤ (m 94 4).toInt from by omega) (show (m1 94 68).toInt + (m1 94 69).toInt = (m1 94 67).toInt from by omega) p3_m1 p4_m1 (show zFO (0 : Int32) (-1 : Int32).toInt (zForm (m 96) (m1 94 68) (m1 94 69).toInt) (m1 94 68).toInt (m1 94 68).toInt from by first | (exact Or.inr ⟨by omega, by (unfold zForm; rw [if_neg (zno p0_m3 (by assumption)), if_neg (zno p0_m5 (by assumption)), if_neg (zno p0_m7 (by assumption)), if_neg (zno p0_m9 (by assumption))]), by omega⟩) | (exact Or.inr ⟨by omega, by (unfold zForm; rw [if_neg (zno p0_m3 (by assumption)), if_neg (zno p0_m5 (by assumption)), if_neg (zno p0_m7 (by assumption)), if_neg (zno p0_m9 (by assumption))]; rfl), by omega⟩) | (exfalso; omega; done) | (exfalso; contradiction; done))
          · skip
            have g37 := i_ne h33
            have hV38 : zV (ma_u (zov wr_175 (zov wr_175 (zov wr_175 (zov wr_175 (zov wr_173 m m1) m3) m5) m7) m9) 94 22 (3 : Int32)) := uf_94_22 hV_m9
            have li39 : (1 : Int32).toInt = 1 := rfl
            exact K ((1 : Int32)) _ (zF_u (zF_zov (zF_zov (zF_zov (zF_zov (zF_zov zF_rfl ws_173_179) ws_175_179) ws_175_179) ws_175_179) ws_175_179) rfl) hV38 (by decide) (show (m1 94 67).toInt ≤ (m 94 4).toInt from by omega) (show (m1 94 68).toInt + (m1 94 69).toInt = (m1 94 67).toInt from by omega) p3_m1 p4_m1 (show zFO (1 : Int32) (3 : Int32).toInt (zForm (m 96) (m1 94 68) (m1 94 69).toInt) (m 94 70).toInt (m1 94 68).toInt from by first | (exact Or.inl ⟨by omega, by (unfold zForm; rw [if_neg (zno p0_m3 (by assumption)), if_neg (zno p0_m5 (by assumption)), if_neg (zno p0_m7 (by assumption)), if_pos (zyes p0_m9 (by assumption))]; first | done | rfl), by decide⟩) | (exact Or.inl ⟨by omega, by (unfold zForm; rw [if_neg (zno p0_m3 (by assumption)), if_neg (zno p0_m5 (by assumption)), if_neg (zno p0_m7 (by assumption)), if_pos (zyes p0_m9 (by assumption))]), by decide⟩) | (exfalso; omega; done) | (exfalso; contradiction; done))
        · skip
          have g40 := i_ne h28
          have hV41 : zV (ma_u (zov wr_175 (zov wr_175 (zov wr_175 (zov wr_173 m m1) m3) m5) m7) 94 22 (2 : Int32)) := uf_94_22 hV_m7
          have li42 : (1 : Int32).toInt = 1 := rfl
          exact K ((1 : Int32)) _ (zF_u (zF_zov (zF_zov (zF_zov (zF_zov zF_rfl ws_173_179) ws_175_179) ws_175_179) ws_175_179) rfl) hV41 (by decide) (show (m1 94 67).toInt ≤ (m 94 4).toInt from by omega) (show (m1 94 68).toInt + (m1 94 69).toInt = (m1 94 67).toInt from by omega) p3_m1 p4_m1 (show zFO (1 : Int32) (2 : Int32).toInt (zForm (m 96) (m1 94 68) (m1 94 69).toInt) (m 94 70).toInt (m1 94 68).toInt from by first | (exact Or.inl ⟨by omega, by (unfold zForm; rw [if_neg (zno p0_m3 (by assumption)), if_neg (zno p0_m5 (by assumption)), if_pos (zyes p0_m7 (by assumption))]; first | done | rfl), by decide⟩) | (exact Or.inl ⟨by omega, by (unfold zForm; rw [if_neg (zno p0_m3 (by assumption)), if_neg (zno p0_m5 (by assumption)), if_pos (zyes p0_m7 (by assumption))]), by decide⟩) | (exfalso; omega; done) | (exfalso; contradiction; done))
      · skip
        have g43 := i_ne h24
        have hV44 : zV (ma_u (zov wr_175 (zov wr_175 (zov wr_173 m m1) m3) m5) 94 22 (1 : Int32)) := uf_94_22 hV_m5
        have li45 : (1 : Int32).toInt = 1 := rfl
        exact K ((1 : Int32)) _ (zF_u (zF_zov (zF_zov (zF_zov zF_rfl ws_173_179) ws_175_179) ws_175_179) rfl) hV44 (by decide) (show (m1 94 67).toInt ≤ (m 94 4).toInt from by omega) (show (m1 94 68).toInt + (m1 94 69).toInt = (m1 94 67).toInt from by omega) p3_m1 p4_m1 (show zFO (1 : Int32) (1 : Int32).toInt (zForm (m 96) (m1 94 68) (m1 94 69).toInt) (m 94 70).toInt (m1 94 68).toInt from by first | (exact Or.inl ⟨by omega, by (unfold zForm; rw [if_neg (zno p0_m3 (by assumption)), if_pos (zyes p0_m5 (by assumption))]; first | done | rfl), by decide⟩) | (exact Or.inl ⟨by omega, by (unfold zForm; rw [if_neg (zno p0_m3 (by assumption)), if_pos (zyes p0_m5 (by assumption))]), by decide⟩) | (exfalso; omega; done) | (exfalso; contradiction; done))
    · skip
      have g46 := i_ne h18
      have hV47 : zV (ma_u (zov wr_175 (zov wr_173 m m1) m3) 94 22 (0 : Int32)) := uf_94_22 hV_m3
      have li48 : (1 : Int32).toInt = 1 := rfl
      exact K ((1 : Int32)) _ (zF_u (zF_zov (zF_zov zF_rfl ws_173_179) ws_175_179) rfl) hV47 (by decide) (show (m1 94 67).toInt ≤ (m 94 4).toInt from by omega) (show (m1 94 68).toInt + (m1 94 69).toInt = (m1 94 67).toInt from by omega) p3_m1 p4_m1 (show zFO (1 : Int32) (0 : Int32).toInt (zForm (m 96) (m1 94 68) (m1 94 69).toInt) (m 94 70).toInt (m1 94 68).toInt from by first | (exact Or.inl ⟨by omega, by (unfold zForm; rw [if_pos (zyes p0_m3 (by assumption))]; first | done | rfl), by decide⟩) | (exact Or.inl ⟨by omega, by (unfold zForm; rw [if_pos (zyes p0_m3 (by assumption))]), by decide⟩) | (exfalso; omega; done) | (exfalso; contradiction; done))

/-! from 95.e03 -/
/-! the reference: texts (written by wip/tools/gen94n.py) -/
theorem sp_178n {X : Nat × (Nat → Int32)} {P : Option ma_V → (Nat → Nat → Int32) → Prop} {m : Nat → Nat → Int32}  (hV : zV m) (hpre0 : (m 94 67).toInt ≤ (m 94 4).toInt) (KZ : ∀ v m₉, zV (zov wr_178 m m₉) → (v = 0 ∨ v = 1) → ((m₉ 94 67).toInt ≤ (m 94 4).toInt) → ((m₉ 94 68).toInt + (m₉ 94 69).toInt = (m₉ 94 67).toInt) → ((m₉ 94 68).toInt = tk true (m 96) (m 94 4).toInt (m 94 67).toInt) → ((m₉ 94 67).toInt = tk false (m 96) (m 94 4).toInt (m₉ 94 68).toInt) → (zNU v (m₉ 94 21).toInt (zNum (m 96) (m₉ 94 68).toInt (m₉ 94 67).toInt 16 1500) (m₉ 94 70).toInt (m₉ 94 68).toInt) → (v.toInt = 1 → 16 ≤ (m₉ 94 21).toInt) → P (some (.inl v)) (zov wr_178 m m₉)) : zm X 2 47 178 0 [(0, .inr (.inr (some 94)))] m P := by
  have K : ∀ v m₉, zF wr_178 m m₉ → zV m₉ → (v = 0 ∨ v = 1) → ((m₉ 94 67).toInt ≤ (m₉ 94 4).toInt) → ((m₉ 94 68).toInt + (m₉ 94 69).toInt = (m₉ 94 67).toInt) → ((m₉ 94 68).toInt = tk true (m₉ 96) (m₉ 94 4).toInt (m 94 67).toInt) → ((m₉ 94 67).toInt = tk false (m₉ 96) (m₉ 94 4).toInt (m₉ 94 68).toInt) → (zNU v (m₉ 94 21).toInt (zNum (m₉ 96) (m₉ 94 68).toInt (m₉ 94 67).toInt 16 1500) (m₉ 94 70).toInt (m₉ 94 68).toInt) → (v.toInt = 1 → 16 ≤ (m₉ 94 21).toInt) → P (some (.inl v)) m₉ := by
    intro v m₉ hf z q0 q1 q2 q3 q4 q5 q6
    have e := zov_eq hf
    rw [e] at z ⊢
    try rw [e] at q0
    try rw [e] at q1
    try rw [e] at q2
    try rw [e] at q3
    try rw [e] at q4
    try rw [e] at q5
    try rw [e] at q6
    exact KZ v m₉ z q0 q1 q2 q3 q4 q5 q6
  refine g_178_0  ?_
  have f1 : 0 ≤ (m 94 67).toInt ∧ (m 94 67).toInt ≤ 100 := rs_94_67 (m := m) hV
  have f2 : 0 ≤ (m 94 4).toInt ∧ (m 94 4).toInt ≤ 100 := rs_94_4 (m := m) hV
  have li3 : (16 : Int32).toInt = 16 := rfl
  have li4 : (1500 : Int32).toInt = 1500 := rfl
  refine sp_177n ((16 : Int32)) ((1500 : Int32)) hV (show (m 94 67).toInt ≤ (m 94 4).toInt from by omega) (fun v2 m1 hV_m1 hb_m1 p0_m1 p1_m1 p2_m1 p3_m1 p4_m1 p5_m1 p6_m1 => zmi_n ?_)
  have p0_m1 : (m1 94 67).toInt ≤ (m 94 4).toInt := p0_m1
  have p1_m1 : (m1 94 68).toInt + (m1 94 69).toInt ≤ 100 := p1_m1
  have p2_m1 : v2.toInt = 1 → (16 : Int32).toInt ≤ (m1 94 71).toInt ∧ (m1 94 71).toInt ≤ (1500 : Int32).toInt := p2_m1
  have p3_m1 : (m1 94 68).toInt + (m1 94 69).toInt = (m1 94 67).toInt := p3_m1
  have p4_m1 : (m1 94 68).toInt = tk true (m 96) (m 94 4).toInt (m 94 67).toInt := p4_m1
  have p5_m1 : (m1 94 67).toInt = tk false (m 96) (m 94 4).toInt (m1 94 68).toInt := p5_m1
  have p6_m1 : zNU v2 (m1 94 71).toInt (zNum (m 96) (m1 94 68).toInt (m1 94 67).toInt (16 : Int32).toInt (1500 : Int32).toInt) (m1 94 70).toInt (m1 94 68).toInt := p6_m1
  have f5 : 0 ≤ (m1 94 67).toInt ∧ (m1 94 67).toInt ≤ 100 := rs_94_67 (m := (zov wr_177 m m1)) hV_m1
  have f6 : 0 ≤ (m1 94 68).toInt ∧ (m1 94 68).toInt ≤ 100 := rs_94_68 (m := (zov wr_177 m m1)) hV_m1
  have f7 : 0 ≤ (m1 94 69).toInt ∧ (m1 94 69).toInt ≤ 100 := rs_94_69 (m := (zov wr_177 m m1)) hV_m1
  have b8 := i_bd (m1 94 71)
  have f9 := i_01 hb_m1
  have li10 : (0 : Int32).toInt = 0 := rfl
  refine zd (fun (h11 : v2 = (0 : Int32)) => ?_) (fun (h11 : ¬ v2 = (0 : Int32)) => ?_)
  · skip
    have g12 := i_eq h11
    have f13 : 0 ≤ (m 94 21).toInt ∧ (m 94 21).toInt ≤ 1500 := rs_94_21 (m := m) hV
    exact K ((0 : Int32)) _ (zF_zov zF_rfl ws_177_178) hV_m1 (by decide) (show (m1 94 67).toInt ≤ (m 94 4).toInt from by omega) (show (m1 94 68).toInt + (m1 94 69).toInt = (m1 94 67).toInt from by omega) p4_m1 p5_m1 (show zNU (0 : Int32) (m 94 21).toInt (zNum (m 96) (m1 94 68).toInt (m1 94 67).toInt 16 1500) (m1 94 70).toInt (m1 94 68).toInt from by first | (exact Or.inl ⟨by omega, NU_ok p6_m1 (by omega)⟩) | (exact Or.inr ⟨by omega, NU_no p6_m1 (by omega), NU_br p6_m1 (by omega)⟩) | (exfalso; omega; done) | (exfalso; contradiction; done)) (show (0 : Int32).toInt = 1 → 16 ≤ (m 94 21).toInt from by omega)
  · skip
    have g14 := i_ne h11
    have hV15 : zV (ma_u (zov wr_177 m m1) 94 21 (m1 94 71)) := us_94_21 hV_m1 (by omega) (by omega)
    have li16 : (1 : Int32).toInt = 1 := rfl
    exact K ((1 : Int32)) _ (zF_u (zF_zov zF_rfl ws_177_178) rfl) hV15 (by decide) (show (m1 94 67).toInt ≤ (m 94 4).toInt from by omega) (show (m1 94 68).toInt + (m1 94 69).toInt = (m1 94 67).toInt from by omega) p4_m1 p5_m1 (show zNU (1 : Int32) (m1 94 71).toInt (zNum (m 96) (m1 94 68).toInt (m1 94 67).toInt 16 1500) (m1 94 70).toInt (m1 94 68).toInt from by first | (exact Or.inl ⟨by omega, NU_ok p6_m1 (by omega)⟩) | (exact Or.inr ⟨by omega, NU_no p6_m1 (by omega), NU_br p6_m1 (by omega)⟩) | (exfalso; omega; done) | (exfalso; contradiction; done)) (show (1 : Int32).toInt = 1 → 16 ≤ (m1 94 71).toInt from by omega)

/-! from 95.e06 -/
/-! the reference: texts (written by wip/tools/gen94n.py) -/
theorem lp_168n_3 {X : Nat × (Nat → Int32)} {P : Option ma_V → (Nat → Nat → Int32) → Prop} {a : Int32} {m0 : Nat → Nat → Int32} (h0 : zV m0) (K : ∀ m₉, zF wr_168 m0 m₉ → zV m₉ → ((m₉ 94 3).toInt = (m0 94 3).toInt + 4) → (zFq (m0 95) (m₉ 95) (m0 94 3).toInt a) → P none m₉) : ∀ (n : Nat) (m : Nat → Nat → Int32) (l1 : Int32) (l2 : Int32), (l2.toInt + 8).toNat = n → zF wr_168 m0 m → zV m → ((l2.toInt = 24 ∧ (m 94 3).toInt = (m0 94 3).toInt + 0) ∨ (l2.toInt = 16 ∧ (m 94 3).toInt = (m0 94 3).toInt + 1) ∨ (l2.toInt = 8 ∧ (m 94 3).toInt = (m0 94 3).toInt + 2) ∨ (l2.toInt = 0 ∧ (m 94 3).toInt = (m0 94 3).toInt + 3) ∨ (l2.toInt = -8 ∧ (m 94 3).toInt = (m0 94 3).toInt + 4)) → ((m0 94 3).toInt ≤ 96) → (l1 = a) → (zFp (m0 95) (m 95) (m0 94 3).toInt a ((m 94 3).toInt - (m0 94 3).toInt)) → zm X 0 0 168 3 [(0, .inr (.inr (some 94))), (1, .inl l1), (2, .inl l2)] m P := by
  intro n
  induction n using Nat.strongRecOn with
  | _ n IH =>
    intro m l1 l2 hmu hF hV hi0 hi1 r_LA r_FP
    refine g_168_3 l1 l2 ?_
    have f1 : 0 ≤ (m 94 3).toInt ∧ (m 94 3).toInt ≤ 100 := rs_94_3 (m := m) hV
    have f2 : 0 ≤ (m0 94 3).toInt ∧ (m0 94 3).toInt ≤ 100 := rs_94_3 (m := m0) h0
    have b3 := i_bd l2
    have li4 : (0 : Int32).toInt = 0 := rfl
    refine zd (fun (h5 : l2 < (0 : Int32)) => ?_) (fun (h5 : ¬ l2 < (0 : Int32)) => ?_)
    · skip
      have g6 := i_lt h5
      exact K _ hF hV (show (m 94 3).toInt = (m0 94 3).toInt + 4 from by omega) (show zFq (m0 95) (m 95) (m0 94 3).toInt a from by first | (exact fp_e r_FP (by omega)) | (exfalso; omega; done) | (exfalso; contradiction; done))
    · skip
      have g7 := i_nlt h5
      have hg8 : (0 ≤ (m 94 3) ∧ (m 94 3).toNatClampNeg < 100) := i_ix (by omega) (by omega)
      refine ⟨hg8, ?_⟩
      have hV9 : zV (ma_u m 95 (m 94 3).toNatClampNeg (vp_nar .byte ((l1 >>> (l2 &&& 31)).toInt8.toInt32))) := ua_95 hV
      first | have e11 : ((m 94 3) + (1 : Int32)).toInt = (m 94 3).toInt + (1) := i_addk rfl (by omega) (by omega) | have b12 := i_bd ((m 94 3) + (1 : Int32))
      have hV10 : zV (ma_u (ma_u m 95 (m 94 3).toNatClampNeg (vp_nar .byte ((l1 >>> (l2 &&& 31)).toInt8.toInt32))) 94 3 ((m 94 3) + (1 : Int32))) := us_94_3 hV9 (by omega) (by omega)
      first | have e13 : (l2 + (-8 : Int32)).toInt = l2.toInt + (-8) := i_addk rfl (by omega) (by omega) | have b14 := i_bd (l2 + (-8 : Int32))
      exact IH ((l2 + (-8 : Int32)).toInt + 8).toNat (by omega) _ (l1) ((l2 + (-8 : Int32))) rfl (zF_u (zF_u hF rfl) rfl) hV10 (show ((l2 + (-8 : Int32)).toInt = 24 ∧ ((m 94 3) + (1 : Int32)).toInt = (m0 94 3).toInt + 0) ∨ ((l2 + (-8 : Int32)).toInt = 16 ∧ ((m 94 3) + (1 : Int32)).toInt = (m0 94 3).toInt + 1) ∨ ((l2 + (-8 : Int32)).toInt = 8 ∧ ((m 94 3) + (1 : Int32)).toInt = (m0 94 3).toInt + 2) ∨ ((l2 + (-8 : Int32)).toInt = 0 ∧ ((m 94 3) + (1 : Int32)).toInt = (m0 94 3).toInt + 3) ∨ ((l2 + (-8 : Int32)).toInt = -8 ∧ ((m 94 3) + (1 : Int32)).toInt = (m0 94 3).toInt + 4) from by omega) (show (m0 94 3).toInt ≤ 96 from by omega) r_LA (show zFp (m0 95) ((ma_u m 95 (m 94 3).toNatClampNeg (vp_nar .byte ((l1 >>> (l2 &&& 31)).toInt8.toInt32))) 95) (m0 94 3).toInt a (((m 94 3) + (1 : Int32)).toInt - (m0 94 3).toInt) from by first | (exact fp_0 (by omega)) | (exact fp_s (s := l2) r_FP (by omega) (by omega) (by rw [tn_cast (by omega)]; omega) (by rw [r_LA]; rfl) (by omega) (by omega)) | (exfalso; omega; done) | (exfalso; contradiction; done))
theorem sp_168n {X : Nat × (Nat → Int32)} {P : Option ma_V → (Nat → Nat → Int32) → Prop} {m : Nat → Nat → Int32} (a : Int32) (hV : zV m) (hpre0 : (m 94 3).toInt ≤ 96) (KZ : ∀ m₉, zV (zov wr_168 m m₉) → ((m₉ 94 3).toInt = (m 94 3).toInt + 4) → (zFq (m 95) (m₉ 95) (m 94 3).toInt a) → P none (zov wr_168 m m₉)) : zm X 0 0 168 0 [(0, .inr (.inr (some 94))), (1, .inl a)] m P := by
  have K : ∀ m₉, zF wr_168 m m₉ → zV m₉ → ((m₉ 94 3).toInt = (m 94 3).toInt + 4) → (zFq (m 95) (m₉ 95) (m 94 3).toInt a) → P none m₉ := by
    intro m₉ hf z q0 q1
    have e := zov_eq hf
    rw [e] at z ⊢
    try rw [e] at q0
    try rw [e] at q1
    exact KZ m₉ z q0 q1
  refine g_168_0 a ?_
  have f1 : 0 ≤ (m 94 3).toInt ∧ (m 94 3).toInt ≤ 100 := rs_94_3 (m := m) hV
  have li2 : (24 : Int32).toInt = 24 := rfl
  exact lp_168n_3 (a := a) hV K _ _ (a) ((24 : Int32)) rfl zF_rfl hV (show ((24 : Int32).toInt = 24 ∧ (m 94 3).toInt = (m 94 3).toInt + 0) ∨ ((24 : Int32).toInt = 16 ∧ (m 94 3).toInt = (m 94 3).toInt + 1) ∨ ((24 : Int32).toInt = 8 ∧ (m 94 3).toInt = (m 94 3).toInt + 2) ∨ ((24 : Int32).toInt = 0 ∧ (m 94 3).toInt = (m 94 3).toInt + 3) ∨ ((24 : Int32).toInt = -8 ∧ (m 94 3).toInt = (m 94 3).toInt + 4) from by omega) (show (m 94 3).toInt ≤ 96 from by omega) (show a = a from by first | (exact rfl) | (exfalso; omega; done) | (exfalso; contradiction; done)) (show zFp (m 95) (m 95) (m 94 3).toInt a ((m 94 3).toInt - (m 94 3).toInt) from by first | (exact fp_0 (by omega)) | (exfalso; omega; done) | (exfalso; contradiction; done))

/-! from 95.e07 -/
/-! the reference: texts (written by wip/tools/gen94n.py) -/
theorem sp_166n {X : Nat × (Nat → Int32)} {P : Option ma_V → (Nat → Nat → Int32) → Prop} {m : Nat → Nat → Int32} (xa : Int32) (xb : Int32) (xc : Int32) (xd : Int32) (xe : Int32) (hV : zV m)  (KZ : ∀ v m₉, zV (zov wr_166 m m₉) → ((81 ≤ (m 94 3).toInt ∧ (m₉ 94 0).toInt = 1 ∧ (m₉ 94 3).toInt = (m 94 3).toInt) ∨ ((m 94 3).toInt ≤ 80 ∧ (m₉ 94 0).toInt = 0 ∧ (m₉ 94 3).toInt = (m 94 3).toInt + 20 ∧ v.toInt = (m 94 3).toInt + 20)) → (((m 94 3).toInt ≤ 80 ∧ zFd (m 95) (m₉ 95) (m 94 3).toInt 5 (zw5 xa xb xc xd xe)) ∨ (81 ≤ (m 94 3).toInt ∧ (m₉ 95) = (m 95))) → P (some (.inl v)) (zov wr_166 m m₉)) : zm X 1 22 166 0 [(0, .inr (.inr (some 94))), (1, .inl xa), (2, .inl xb), (3, .inl xc), (4, .inl xd), (5, .inl xe)] m P := by
  have K : ∀ v m₉, zF wr_166 m m₉ → zV m₉ → ((81 ≤ (m 94 3).toInt ∧ (m₉ 94 0).toInt = 1 ∧ (m₉ 94 3).toInt = (m 94 3).toInt) ∨ ((m 94 3).toInt ≤ 80 ∧ (m₉ 94 0).toInt = 0 ∧ (m₉ 94 3).toInt = (m 94 3).toInt + 20 ∧ v.toInt = (m 94 3).toInt + 20)) → (((m 94 3).toInt ≤ 80 ∧ zFd (m 95) (m₉ 95) (m 94 3).toInt 5 (zw5 xa xb xc xd xe)) ∨ (81 ≤ (m 94 3).toInt ∧ (m₉ 95) = (m 95))) → P (some (.inl v)) m₉ := by
    intro v m₉ hf z q0 q1
    have e := zov_eq hf
    rw [e] at z ⊢
    try rw [e] at q0
    try rw [e] at q1
    exact KZ v m₉ z q0 q1
  refine g_166_0 xa xb xc xd xe ?_
  have f1 : 0 ≤ (m 94 3).toInt ∧ (m 94 3).toInt ≤ 100 := rs_94_3 (m := m) hV
  first | have e2 : ((m 94 3) + (20 : Int32)).toInt = (m 94 3).toInt + (20) := i_addk rfl (by omega) (by omega) | have b3 := i_bd ((m 94 3) + (20 : Int32))
  have li4 : (100 : Int32).toInt = 100 := rfl
  refine zd (fun (h5 : ((m 94 3) + (20 : Int32)) ≤ (100 : Int32)) => ?_) (fun (h5 : ¬ ((m 94 3) + (20 : Int32)) ≤ (100 : Int32)) => ?_)
  · skip
    have g6 := i_le h5
    have hV7 : zV (ma_u m 94 0 (0 : Int32)) := uf_94_0 hV
    refine sp_168n (xa) hV7 (show (m 94 3).toInt ≤ 96 from by omega) (fun m1 hV_m1 p0_m1 p1_m1 => zmv_n ?_)
    have p0_m1 : (m1 94 3).toInt = (m 94 3).toInt + 4 := p0_m1
    have p1_m1 : zFq (m 95) (m1 95) (m 94 3).toInt xa := p1_m1
    have f8 : 0 ≤ (m1 94 3).toInt ∧ (m1 94 3).toInt ≤ 100 := rs_94_3 (m := (zov wr_168 (ma_u m 94 0 (0 : Int32)) m1)) hV_m1
    refine sp_168n (xb) hV_m1 (show (m1 94 3).toInt ≤ 96 from by omega) (fun m3 hV_m3 p0_m3 p1_m3 => zmv_n ?_)
    have p0_m3 : (m3 94 3).toInt = (m1 94 3).toInt + 4 := p0_m3
    have p1_m3 : zFq (m1 95) (m3 95) (m1 94 3).toInt xb := p1_m3
    have f9 : 0 ≤ (m3 94 3).toInt ∧ (m3 94 3).toInt ≤ 100 := rs_94_3 (m := (zov wr_168 (zov wr_168 (ma_u m 94 0 (0 : Int32)) m1) m3)) hV_m3
    refine sp_168n (xc) hV_m3 (show (m3 94 3).toInt ≤ 96 from by omega) (fun m5 hV_m5 p0_m5 p1_m5 => zmv_n ?_)
    have p0_m5 : (m5 94 3).toInt = (m3 94 3).toInt + 4 := p0_m5
    have p1_m5 : zFq (m3 95) (m5 95) (m3 94 3).toInt xc := p1_m5
    have f10 : 0 ≤ (m5 94 3).toInt ∧ (m5 94 3).toInt ≤ 100 := rs_94_3 (m := (zov wr_168 (zov wr_168 (zov wr_168 (ma_u m 94 0 (0 : Int32)) m1) m3) m5)) hV_m5
    refine sp_168n (xd) hV_m5 (show (m5 94 3).toInt ≤ 96 from by omega) (fun m7 hV_m7 p0_m7 p1_m7 => zmv_n ?_)
    have p0_m7 : (m7 94 3).toInt = (m5 94 3).toInt + 4 := p0_m7
    have p1_m7 : zFq (m5 95) (m7 95) (m5 94 3).toInt xd := p1_m7
    have f11 : 0 ≤ (m7 94 3).toInt ∧ (m7 94 3).toInt ≤ 100 := rs_94_3 (m := (zov wr_168 (zov wr_168 (zov wr_168 (zov wr_168 (ma_u m 94 0 (0 : Int32)) m1) m3) m5) m7)) hV_m7
    refine sp_168n (xe) hV_m7 (show (m7 94 3).toInt ≤ 96 from by omega) (fun m9 hV_m9 p0_m9 p1_m9 => zmv_n ?_)
    have p0_m9 : (m9 94 3).toInt = (m7 94 3).toInt + 4 := p0_m9
    have p1_m9 : zFq (m7 95) (m9 95) (m7 94 3).toInt xe := p1_m9
    have f12 : 0 ≤ (m9 94 3).toInt ∧ (m9 94 3).toInt ≤ 100 := rs_94_3 (m := (zov wr_168 (zov wr_168 (zov wr_168 (zov wr_168 (zov wr_168 (ma_u m 94 0 (0 : Int32)) m1) m3) m5) m7) m9)) hV_m9
    have li13 : (0 : Int32).toInt = 0 := rfl
    exact K ((m9 94 3)) _ (zF_zov (zF_zov (zF_zov (zF_zov (zF_zov (zF_u zF_rfl rfl) ws_168_166) ws_168_166) ws_168_166) ws_168_166) ws_168_166) hV_m9 (show (81 ≤ (m 94 3).toInt ∧ (0 : Int32).toInt = 1 ∧ (m9 94 3).toInt = (m 94 3).toInt) ∨ ((m 94 3).toInt ≤ 80 ∧ (0 : Int32).toInt = 0 ∧ (m9 94 3).toInt = (m 94 3).toInt + 20 ∧ (m9 94 3).toInt = (m 94 3).toInt + 20) from by omega) (show ((m 94 3).toInt ≤ 80 ∧ zFd (m 95) (m9 95) (m 94 3).toInt 5 (zw5 xa xb xc xd xe)) ∨ (81 ≤ (m 94 3).toInt ∧ (m9 95) = (m 95)) from by first | (exact Or.inl ⟨by omega, (fd_s (fd_s (fd_s (fd_s (fd_s fd_0 (by omega) p1_m1 (by omega) rfl) (by omega) p1_m3 (by omega) rfl) (by omega) p1_m5 (by omega) rfl) (by omega) p1_m7 (by omega) rfl) (by omega) p1_m9 (by omega) rfl)⟩) | (exfalso; omega; done) | (exfalso; contradiction; done))
  · skip
    have g14 := i_nle h5
    have hV15 : zV (ma_u m 94 0 (1 : Int32)) := uf_94_0 hV
    have li16 : (0 : Int32).toInt = 0 := rfl
    have li17 : (1 : Int32).toInt = 1 := rfl
    exact K ((0 : Int32)) _ (zF_u zF_rfl rfl) hV15 (show (81 ≤ (m 94 3).toInt ∧ (1 : Int32).toInt = 1 ∧ (m 94 3).toInt = (m 94 3).toInt) ∨ ((m 94 3).toInt ≤ 80 ∧ (1 : Int32).toInt = 0 ∧ (m 94 3).toInt = (m 94 3).toInt + 20 ∧ (0 : Int32).toInt = (m 94 3).toInt + 20) from by omega) (show ((m 94 3).toInt ≤ 80 ∧ zFd (m 95) (m 95) (m 94 3).toInt 5 (zw5 xa xb xc xd xe)) ∨ (81 ≤ (m 94 3).toInt ∧ (m 95) = (m 95)) from by first | (exact Or.inr ⟨by omega, rfl⟩) | (exfalso; omega; done) | (exfalso; contradiction; done))

