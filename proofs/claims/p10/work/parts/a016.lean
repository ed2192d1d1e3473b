/-! from 95.e01 -/
/-! the reference: texts (written by wip/tools/gen94n.py) -/
theorem sp_175n {X : Nat × (Nat → Int32)} {P : Option ma_V → (Nat → Nat → Int32) → Prop} {m : Nat → Nat → Int32} (xa : Int32) (xb : Int32) (xc : Int32) (xd : Int32) (xe : Int32) (xf : Int32) (xg : Int32) (hV : zV m) (hpre0 : (m 94 68).toInt + (m 94 69).toInt ≤ 100) (KZ : ∀ v m₉, zV (zov wr_175 m m₉) → (v = 0 ∨ v = 1) → (zZW v (zwd (m 96) (m 94 68) (m 94 69).toInt xa xb xc xd xe xf xg)) → P (some (.inl v)) (zov wr_175 m m₉)) : zm X 1 22 175 0 [(0, .inr (.inr (some 94))), (1, .inl xa), (2, .inl xb), (3, .inl xc), (4, .inl xd), (5, .inl xe), (6, .inl xf), (7, .inl xg)] m P := by
  have K : ∀ v m₉, zF wr_175 m m₉ → zV m₉ → (v = 0 ∨ v = 1) → (zZW v (zwd (m₉ 96) (m₉ 94 68) (m₉ 94 69).toInt xa xb xc xd xe xf xg)) → P (some (.inl v)) m₉ := by
    intro v m₉ hf z q0 q1
    have e := zov_eq hf
    rw [e] at z ⊢
    skip
    try rw [e] at q1
    exact KZ v m₉ z q0 q1
  refine g_175_0 xa xb xc xd xe xf xg ?_
  have f1 : 0 ≤ (m 94 68).toInt ∧ (m 94 68).toInt ≤ 100 := rs_94_68 (m := m) hV
  have f2 : 0 ≤ (m 94 69).toInt ∧ (m 94 69).toInt ≤ 100 := rs_94_69 (m := m) hV
  have b3 := i_bd xe
  have li4 : (0 : Int32).toInt = 0 := rfl
  refine zd (fun (h5 : xe = (0 : Int32)) => ?_) (fun (h5 : ¬ xe = (0 : Int32)) => ?_)
  · skip
    have g6 := i_eq h5
    have li7 : (4 : Int32).toInt = 4 := rfl
    refine zd (fun (h8 : (m 94 69) = (4 : Int32)) => ?_) (fun (h8 : ¬ (m 94 69) = (4 : Int32)) => ?_)
    · skip
      have g9 := i_eq h8
      first | have e10 : ((m 94 68) + (0 : Int32)).toInt = (m 94 68).toInt + (0) := i_addk rfl (by omega) (by omega) | have b11 := i_bd ((m 94 68) + (0 : Int32))
      have hg12 : (0 ≤ ((m 94 68) + (0 : Int32)) ∧ ((m 94 68) + (0 : Int32)).toNatClampNeg < 100) := i_ix (by omega) (by omega)
      refine ⟨hg12, ?_⟩
      have b13 := i_bd (m 96 ((m 94 68) + (0 : Int32)).toNatClampNeg)
      refine zd (fun (h14 : (m 96 ((m 94 68) + (0 : Int32)).toNatClampNeg) = xa) => ?_) (fun (h14 : ¬ (m 96 ((m 94 68) + (0 : Int32)).toNatClampNeg) = xa) => ?_)
      · skip
        have g15 := i_eq h14
        first | have e16 : ((m 94 68) + (1 : Int32)).toInt = (m 94 68).toInt + (1) := i_addk rfl (by omega) (by omega) | have b17 := i_bd ((m 94 68) + (1 : Int32))
        have hg18 : (0 ≤ ((m 94 68) + (1 : Int32)) ∧ ((m 94 68) + (1 : Int32)).toNatClampNeg < 100) := i_ix (by omega) (by omega)
        refine ⟨hg18, ?_⟩
        have b19 := i_bd (m 96 ((m 94 68) + (1 : Int32)).toNatClampNeg)
        refine zd (fun (h20 : (m 96 ((m 94 68) + (1 : Int32)).toNatClampNeg) = xb) => ?_) (fun (h20 : ¬ (m 96 ((m 94 68) + (1 : Int32)).toNatClampNeg) = xb) => ?_)
        · skip
          have g21 := i_eq h20
          first | have e22 : ((m 94 68) + (2 : Int32)).toInt = (m 94 68).toInt + (2) := i_addk rfl (by omega) (by omega) | have b23 := i_bd ((m 94 68) + (2 : Int32))
          have hg24 : (0 ≤ ((m 94 68) + (2 : Int32)) ∧ ((m 94 68) + (2 : Int32)).toNatClampNeg < 100) := i_ix (by omega) (by omega)
          refine ⟨hg24, ?_⟩
          have b25 := i_bd (m 96 ((m 94 68) + (2 : Int32)).toNatClampNeg)
          refine zd (fun (h26 : (m 96 ((m 94 68) + (2 : Int32)).toNatClampNeg) = xc) => ?_) (fun (h26 : ¬ (m 96 ((m 94 68) + (2 : Int32)).toNatClampNeg) = xc) => ?_)
          · skip
            have g27 := i_eq h26
            first | have e28 : ((m 94 68) + (3 : Int32)).toInt = (m 94 68).toInt + (3) := i_addk rfl (by omega) (by omega) | have b29 := i_bd ((m 94 68) + (3 : Int32))
            have hg30 : (0 ≤ ((m 94 68) + (3 : Int32)) ∧ ((m 94 68) + (3 : Int32)).toNatClampNeg < 100) := i_ix (by omega) (by omega)
            refine ⟨hg30, ?_⟩
            have b31 := i_bd (m 96 ((m 94 68) + (3 : Int32)).toNatClampNeg)
            refine zd (fun (h32 : (m 96 ((m 94 68) + (3 : Int32)).toNatClampNeg) = xd) => ?_) (fun (h32 : ¬ (m 96 ((m 94 68) + (3 : Int32)).toNatClampNeg) = xd) => ?_)
            · skip
              have g33 := i_eq h32
              have li34 : (1 : Int32).toInt = 1 := rfl
              exact K ((1 : Int32)) _ zF_rfl hV (by decide) (show zZW (1 : Int32) (zwd (m 96) (m 94 68) (m 94 69).toInt xa xb xc xd xe xf xg) from by first | (exact Or.inl ⟨rfl, (by first | (rw [if_pos (by assumption)]; omega) | (rw [if_neg (by assumption), if_pos (by assumption)]; omega) | (rw [if_neg (by assumption), if_neg (by assumption), if_pos (by assumption)]; omega) | (rw [if_neg (by assumption), if_neg (by assumption), if_neg (by assumption)]; omega)), (by assumption), (by assumption), (by assumption), (by assumption), (by first | exact Or.inl (by assumption) | exact Or.inr ((by assumption))), (by first | exact Or.inl (by assumption) | exact Or.inr (Or.inl (by assumption)) | exact Or.inr (Or.inr ((by assumption)))), (by first | exact Or.inl (by assumption) | exact Or.inr (Or.inl (by assumption)) | exact Or.inr (Or.inr (Or.inl (by assumption))) | exact Or.inr (Or.inr (Or.inr ((by assumption)))))⟩) | (exfalso; omega; done) | (exfalso; contradiction; done))
            · skip
              have g35 := i_ne h32
              exact K ((0 : Int32)) _ zF_rfl hV (by decide) (show zZW (0 : Int32) (zwd (m 96) (m 94 68) (m 94 69).toInt xa xb xc xd xe xf xg) from by first | (exact Or.inr ⟨rfl, fun z => absurd z.2.2.2.2.1 (by assumption)⟩) | (exact Or.inr ⟨rfl, fun z => absurd z.2.1 (by assumption)⟩) | (exact Or.inr ⟨rfl, fun z => absurd z.2.2.1 (by assumption)⟩) | (exact Or.inr ⟨rfl, fun z => absurd z.2.2.2.1 (by assumption)⟩) | (exact Or.inr ⟨rfl, fun z => absurd (z.2.2.2.2.2.1.elim (fun y => absurd y (by assumption)) id) (by assumption)⟩) | (exact Or.inr ⟨rfl, fun z => absurd (z.2.2.2.2.2.2.1.elim (fun y => absurd y (by assumption)) (fun y => y.elim (fun y => absurd y (by assumption)) id)) (by assumption)⟩) | (exact Or.inr ⟨rfl, fun z => absurd (z.2.2.2.2.2.2.2.elim (fun y => absurd y (by assumption)) (fun y => y.elim (fun y => absurd y (by assumption)) (fun y => y.elim (fun y => absurd y (by assumption)) id))) (by assumption)⟩) | (exact Or.inr ⟨rfl, fun z => by have y := z.1; first | (rw [if_pos (by assumption)] at y; omega) | (rw [if_neg (by assumption), if_pos (by assumption)] at y; omega) | (rw [if_neg (by assumption), if_neg (by assumption), if_pos (by assumption)] at y; omega) | (rw [if_neg (by assumption), if_neg (by assumption), if_neg (by assumption)] at y; omega)⟩) | (exfalso; omega; done) | (exfalso; contradiction; done))
          · skip
            have g36 := i_ne h26
            exact K ((0 : Int32)) _ zF_rfl hV (by decide) (show zZW (0 : Int32) (zwd (m 96) (m 94 68) (m 94 69).toInt xa xb xc xd xe xf xg) from by first | (exact Or.inr ⟨rfl, fun z => absurd z.2.2.2.1 (by assumption)⟩) | (exact Or.inr ⟨rfl, fun z => absurd z.2.1 (by assumption)⟩) | (exact Or.inr ⟨rfl, fun z => absurd z.2.2.1 (by assumption)⟩) | (exact Or.inr ⟨rfl, fun z => absurd z.2.2.2.2.1 (by assumption)⟩) | (exact Or.inr ⟨rfl, fun z => absurd (z.2.2.2.2.2.1.elim (fun y => absurd y (by assumption)) id) (by assumption)⟩) | (exact Or.inr ⟨rfl, fun z => absurd (z.2.2.2.2.2.2.1.elim (fun y => absurd y (by assumption)) (fun y => y.elim (fun y => absurd y (by assumption)) id)) (by assumption)⟩) | (exact Or.inr ⟨rfl, fun z => absurd (z.2.2.2.2.2.2.2.elim (fun y => absurd y (by assumption)) (fun y => y.elim (fun y => absurd y (by assumption)) (fun y => y.elim (fun y => absurd y (by assumption)) id))) (by assumption)⟩) | (exact Or.inr ⟨rfl, fun z => by have y := z.1; first | (rw [if_pos (by assumption)] at y; omega) | (rw [if_neg (by assumption), if_pos (by assumption)] at y; omega) | (rw [if_neg (by assumption), if_neg (by assumption), if_pos (by assumption)] at y; omega) | (rw [if_neg (by assumption), if_neg (by assumption), if_neg (by assumption)] at y; omega)⟩) | (exfalso; omega; done) | (exfalso; contradiction; done))
        · skip
          have g37 := i_ne h20
          exact K ((0 : Int32)) _ zF_rfl hV (by decide) (show zZW (0 : Int32) (zwd (m 96) (m 94 68) (m 94 69).toInt xa xb xc xd xe xf xg) from by first | (exact Or.inr ⟨rfl, fun z => absurd z.2.2.1 (by assumption)⟩) | (exact Or.inr ⟨rfl, fun z => absurd z.2.1 (by assumption)⟩) | (exact Or.inr ⟨rfl, fun z => absurd z.2.2.2.1 (by assumption)⟩) | (exact Or.inr ⟨rfl, fun z => absurd z.2.2.2.2.1 (by assumption)⟩) | (exact Or.inr ⟨rfl, fun z => absurd (z.2.2.2.2.2.1.elim (fun y => absurd y (by assumption)) id) (by assumption)⟩) | (exact Or.inr ⟨rfl, fun z => absurd (z.2.2.2.2.2.2.1.elim (fun y => absurd y (by assumption)) (fun y => y.elim (fun y => absurd y (by assumption)) id)) (by assumption)⟩) | (exact Or.inr ⟨rfl, fun z => absurd (z.2.2.2.2.2.2.2.elim (fun y => absurd y (by assumption)) (fun y => y.elim (fun y => absurd y (by assumption)) (fun y => y.elim (fun y => absurd y (by assumption)) id))) (by assumption)⟩) | (exact Or.inr ⟨rfl, fun z => by have y := z.1; first | (rw [if_pos (by assumption)] at y; omega) | (rw [if_neg (by assumption), if_pos (by assumption)] at y; omega) | (rw [if_neg (by assumption), if_neg (by assumption), if_pos (by assumption)] at y; omega) | (rw [if_neg (by assumption), if_neg (by assumption), if_neg (by assumption)] at y; omega)⟩) | (exfalso; omega; done) | (exfalso; contradiction; done))
      · skip
        have g38 := i_ne h14
        exact K ((0 : Int32)) _ zF_rfl hV (by decide) (show zZW (0 : Int32) (zwd (m 96) (m 94 68) (m 94 69).toInt xa xb xc xd xe xf xg) from by first | (exact Or.inr ⟨rfl, fun z => absurd z.2.1 (by assumption)⟩) | (exact Or.inr ⟨rfl, fun z => absurd z.2.2.1 (by assumption)⟩) | (exact Or.inr ⟨rfl, fun z => absurd z.2.2.2.1 (by assumption)⟩) | (exact Or.inr ⟨rfl, fun z => absurd z.2.2.2.2.1 (by assumption)⟩) | (exact Or.inr ⟨rfl, fun z => absurd (z.2.2.2.2.2.1.elim (fun y => absurd y (by assumption)) id) (by assumption)⟩) | (exact Or.inr ⟨rfl, fun z => absurd (z.2.2.2.2.2.2.1.elim (fun y => absurd y (by assumption)) (fun y => y.elim (fun y => absurd y (by assumption)) id)) (by assumption)⟩) | (exact Or.inr ⟨rfl, fun z => absurd (z.2.2.2.2.2.2.2.elim (fun y => absurd y (by assumption)) (fun y => y.elim (fun y => absurd y (by assumption)) (fun y => y.elim (fun y => absurd y (by assumption)) id))) (by assumption)⟩) | (exact Or.inr ⟨rfl, fun z => by have y := z.1; first | (rw [if_pos (by assumption)] at y; omega) | (rw [if_neg (by assumption), if_pos (by assumption)] at y; omega) | (rw [if_neg (by assumption), if_neg (by assumption), if_pos (by assumption)] at y; omega) | (rw [if_neg (by assumption), if_neg (by assumption), if_neg (by assumption)] at y; omega)⟩) | (exfalso; omega; done) | (exfalso; contradiction; done))
    · skip
      have g39 := i_ne h8
      exact K ((0 : Int32)) _ zF_rfl hV (by decide) (show zZW (0 : Int32) (zwd (m 96) (m 94 68) (m 94 69).toInt xa xb xc xd xe xf xg) from by first | (exact Or.inr ⟨rfl, fun z => by have y := z.1; first | (rw [if_pos (by assumption)] at y; omega) | (rw [if_neg (by assumption), if_pos (by assumption)] at y; omega) | (rw [if_neg (by assumption), if_neg (by assumption), if_pos (by assumption)] at y; omega) | (rw [if_neg (by assumption), if_neg (by assumption), if_neg (by assumption)] at y; omega)⟩) | (exact Or.inr ⟨rfl, fun z => absurd z.2.1 (by assumption)⟩) | (exact Or.inr ⟨rfl, fun z => absurd z.2.2.1 (by assumption)⟩) | (exact Or.inr ⟨rfl, fun z => absurd z.2.2.2.1 (by assumption)⟩) | (exact Or.inr ⟨rfl, fun z => absurd z.2.2.2.2.1 (by assumption)⟩) | (exact Or.inr ⟨rfl, fun z => absurd (z.2.2.2.2.2.1.elim (fun y => absurd y (by assumption)) id) (by assumption)⟩) | (exact Or.inr ⟨rfl, fun z => absurd (z.2.2.2.2.2.2.1.elim (fun y => absurd y (by assumption)) (fun y => y.elim (fun y => absurd y (by assumption)) id)) (by assumption)⟩) | (exact Or.inr ⟨rfl, fun z => absurd (z.2.2.2.2.2.2.2.elim (fun y => absurd y (by assumption)) (fun y => y.elim (fun y => absurd y (by assumption)) (fun y => y.elim (fun y => absurd y (by assumption)) id))) (by assumption)⟩) | (exfalso; omega; done) | (exfalso; contradiction; done))
  · skip
    have g40 := i_ne h5
    have b41 := i_bd xf
    refine zd (fun (h42 : xf = (0 : Int32)) => ?_) (fun (h42 : ¬ xf = (0 : Int32)) => ?_)
    · skip
      have g43 := i_eq h42
      have li44 : (5 : Int32).toInt = 5 := rfl
      refine zd (fun (h45 : (m 94 69) = (5 : Int32)) => ?_) (fun (h45 : ¬ (m 94 69) = (5 : Int32)) => ?_)
      · skip
        have g46 := i_eq h45
        first | have e47 : ((m 94 68) + (0 : Int32)).toInt = (m 94 68).toInt + (0) := i_addk rfl (by omega) (by omega) | have b48 := i_bd ((m 94 68) + (0 : Int32))
        have hg49 : (0 ≤ ((m 94 68) + (0 : Int32)) ∧ ((m 94 68) + (0 : Int32)).toNatClampNeg < 100) := i_ix (by omega) (by omega)
        refine ⟨hg49, ?_⟩
        have b50 := i_bd (m 96 ((m 94 68) + (0 : Int32)).toNatClampNeg)
        refine zd (fun (h51 : (m 96 ((m 94 68) + (0 : Int32)).toNatClampNeg) = xa) => ?_) (fun (h51 : ¬ (m 96 ((m 94 68) + (0 : Int32)).toNatClampNeg) = xa) => ?_)
        · skip
          have g52 := i_eq h51
          first | have e53 : ((m 94 68) + (1 : Int32)).toInt = (m 94 68).toInt + (1) := i_addk rfl (by omega) (by omega) | have b54 := i_bd ((m 94 68) + (1 : Int32))
          have hg55 : (0 ≤ ((m 94 68) + (1 : Int32)) ∧ ((m 94 68) + (1 : Int32)).toNatClampNeg < 100) := i_ix (by omega) (by omega)
          refine ⟨hg55, ?_⟩
          have b56 := i_bd (m 96 ((m 94 68) + (1 : Int32)).toNatClampNeg)
          refine zd (fun (h57 : (m 96 ((m 94 68) + (1 : Int32)).toNatClampNeg) = xb) => ?_) (fun (h57 : ¬ (m 96 ((m 94 68) + (1 : Int32)).toNatClampNeg) = xb) => ?_)
          · skip
            have g58 := i_eq h57
            first | have e59 : ((m 94 68) + (2 : Int32)).toInt = (m 94 68).toInt + (2) := i_addk rfl (by omega) (by omega) | have b60 := i_bd ((m 94 68) + (2 : Int32))
            have hg61 : (0 ≤ ((m 94 68) + (2 : Int32)) ∧ ((m 94 68) + (2 : Int32)).toNatClampNeg < 100) := i_ix (by omega) (by omega)
            refine ⟨hg61, ?_⟩
            have b62 := i_bd (m 96 ((m 94 68) + (2 : Int32)).toNatClampNeg)
            refine zd (fun (h63 : (m 96 ((m 94 68) + (2 : Int32)).toNatClampNeg) = xc) => ?_) (fun (h63 : ¬ (m 96 ((m 94 68) + (2 : Int32)).toNatClampNeg) = xc) => ?_)
            · skip
              have g64 := i_eq h63
              first | have e65 : ((m 94 68) + (3 : Int32)).toInt = (m 94 68).toInt + (3) := i_addk rfl (by omega) (by omega) | have b66 := i_bd ((m 94 68) + (3 : Int32))
              have hg67 : (0 ≤ ((m 94 68) + (3 : Int32)) ∧ ((m 94 68) + (3 : Int32)).toNatClampNeg < 100) := i_ix (by omega) (by omega)
              refine ⟨hg67, ?_⟩
              have b68 := i_bd (m 96 ((m 94 68) + (3 : Int32)).toNatClampNeg)
              refine zd (fun (h69 : (m 96 ((m 94 68) + (3 : Int32)).toNatClampNeg) = xd) => ?_) (fun (h69 : ¬ (m 96 ((m 94 68) + (3 : Int32)).toNatClampNeg) = xd) => ?_)
              · skip
                have g70 := i_eq h69
                first | have e71 : ((m 94 68) + (4 : Int32)).toInt = (m 94 68).toInt + (4) := i_addk rfl (by omega) (by omega) | have b72 := i_bd ((m 94 68) + (4 : Int32))
                have hg73 : (0 ≤ ((m 94 68) + (4 : Int32)) ∧ ((m 94 68) + (4 : Int32)).toNatClampNeg < 100) := i_ix (by omega) (by omega)
                refine ⟨hg73, ?_⟩
                have b74 := i_bd (m 96 ((m 94 68) + (4 : Int32)).toNatClampNeg)
                refine zd (fun (h75 : (m 96 ((m 94 68) + (4 : Int32)).toNatClampNeg) = xe) => ?_) (fun (h75 : ¬ (m 96 ((m 94 68) + (4 : Int32)).toNatClampNeg) = xe) => ?_)
                · skip
                  have g76 := i_eq h75
                  have li77 : (1 : Int32).toInt = 1 := rfl
                  exact K ((1 : Int32)) _ zF_rfl hV (by decide) (show zZW (1 : Int32) (zwd (m 96) (m 94 68) (m 94 69).toInt xa xb xc xd xe xf xg) from by first | (exact Or.inl ⟨rfl, (by first | (rw [if_neg (by assumption), if_pos (by assumption)]; omega) | (rw [if_pos (by assumption)]; omega) | (rw [if_neg (by assumption), if_neg (by assumption), if_pos (by assumption)]; omega) | (rw [if_neg (by assumption), if_neg (by assumption), if_neg (by assumption)]; omega)), (by assumption), (by assumption), (by assumption), (by assumption), (by first | exact Or.inr ((by assumption)) | exact Or.inl (by assumption)), (by first | exact Or.inr (Or.inl (by assumption)) | exact Or.inl (by assumption) | exact Or.inr (Or.inr ((by assumption)))), (by first | exact Or.inr (Or.inl (by assumption)) | exact Or.inl (by assumption) | exact Or.inr (Or.inr (Or.inl (by assumption))) | exact Or.inr (Or.inr (Or.inr ((by assumption)))))⟩) | (exfalso; omega; done) | (exfalso; contradiction; done))
                · skip
                  have g78 := i_ne h75
                  exact K ((0 : Int32)) _ zF_rfl hV (by decide) (show zZW (0 : Int32) (zwd (m 96) (m 94 68) (m 94 69).toInt xa xb xc xd xe xf xg) from by first | (exact Or.inr ⟨rfl, fun z => absurd (z.2.2.2.2.2.1.elim (fun y => absurd y (by assumption)) id) (by assumption)⟩) | (exact Or.inr ⟨rfl, fun z => absurd z.2.1 (by assumption)⟩) | (exact Or.inr ⟨rfl, fun z => absurd z.2.2.1 (by assumption)⟩) | (exact Or.inr ⟨rfl, fun z => absurd z.2.2.2.1 (by assumption)⟩) | (exact Or.inr ⟨rfl, fun z => absurd z.2.2.2.2.1 (by assumption)⟩) | (exact Or.inr ⟨rfl, fun z => absurd (z.2.2.2.2.2.2.1.elim (fun y => absurd y (by assumption)) (fun y => y.elim (fun y => absurd y (by assumption)) id)) (by assumption)⟩) | (exact Or.inr ⟨rfl, fun z => absurd (z.2.2.2.2.2.2.2.elim (fun y => absurd y (by assumption)) (fun y => y.elim (fun y => absurd y (by assumption)) (fun y => y.elim (fun y => absurd y (by assumption)) id))) (by assumption)⟩) | (exact Or.inr ⟨rfl, fun z => by have y := z.1; first | (rw [if_pos (by assumption)] at y; omega) | (rw [if_neg (by assumption), if_pos (by assumption)] at y; omega) | (rw [if_neg (by assumption), if_neg (by assumption), if_pos (by assumption)] at y; omega) | (rw [if_neg (by assumption), if_neg (by assumption), if_neg (by assumption)] at y; omega)⟩) | (exfalso; omega; done) | (exfalso; contradiction; done))
              · skip
                have g79 := i_ne h69
                exact K ((0 : Int32)) _ zF_rfl hV (by decide) (show zZW (0 : Int32) (zwd (m 96) (m 94 68) (m 94 69).toInt xa xb xc xd xe xf xg) from by first | (exact Or.inr ⟨rfl, fun z => absurd z.2.2.2.2.1 (by assumption)⟩) | (exact Or.inr ⟨rfl, fun z => absurd z.2.1 (by assumption)⟩) | (exact Or.inr ⟨rfl, fun z => absurd z.2.2.1 (by assumption)⟩) | (exact Or.inr ⟨rfl, fun z => absurd z.2.2.2.1 (by assumption)⟩) | (exact Or.inr ⟨rfl, fun z => absurd (z.2.2.2.2.2.1.elim (fun y => absurd y (by assumption)) id) (by assumption)⟩) | (exact Or.inr ⟨rfl, fun z => absurd (z.2.2.2.2.2.2.1.elim (fun y => absurd y (by assumption)) (fun y => y.elim (fun y => absurd y (by assumption)) id)) (by assumption)⟩) | (exact Or.inr ⟨rfl, fun z => absurd (z.2.2.2.2.2.2.2.elim (fun y => absurd y (by assumption)) (fun y => y.elim (fun y => absurd y (by assumption)) (fun y => y.elim (fun y => absurd y (by assumption)) id))) (by assumption)⟩) | (exact Or.inr ⟨rfl, fun z => by have y := z.1; first | (rw [if_pos (by assumption)] at y; omega) | (rw [if_neg (by assumption), if_pos (by assumption)] at y; omega) | (rw [if_neg (by assumption), if_neg (by assumption), if_pos (by assumption)] at y; omega) | (rw [if_neg (by assumption), if_neg (by assumption), if_neg (by assumption)] at y; omega)⟩) | (exfalso; omega; done) | (exfalso; contradiction; done))
            · skip
              have g80 := i_ne h63
              exact K ((0 : Int32)) _ zF_rfl hV (by decide) (show zZW (0 : Int32) (zwd (m 96) (m 94 68) (m 94 69).toInt xa xb xc xd xe xf xg) from by first | (exact Or.inr ⟨rfl, fun z => absurd z.2.2.2.1 (by assumption)⟩) | (exact Or.inr ⟨rfl, fun z => absurd z.2.1 (by assumption)⟩) | (exact Or.inr ⟨rfl, fun z => absurd z.2.2.1 (by assumption)⟩) | (exact Or.inr ⟨rfl, fun z => absurd z.2.2.2.2.1 (by assumption)⟩) | (exact Or.inr ⟨rfl, fun z => absurd (z.2.2.2.2.2.1.elim (fun y => absurd y (by assumption)) id) (by assumption)⟩) | (exact Or.inr ⟨rfl, fun z => absurd (z.2.2.2.2.2.2.1.elim (fun y => absurd y (by assumption)) (fun y => y.elim (fun y => absurd y (by assumption)) id)) (by assumption)⟩) | (exact Or.inr ⟨rfl, fun z => absurd (z.2.2.2.2.2.2.2.elim (fun y => absurd y (by assumption)) (fun y => y.elim (fun y => absurd y (by assumption)) (fun y => y.elim (fun y => absurd y (by assumption)) id))) (by assumption)⟩) | (exact Or.inr ⟨rfl, fun z => by have y := z.1; first | (rw [if_pos (by assumption)] at y; omega) | (rw [if_neg (by assumption), if_pos (by assumption)] at y; omega) | (rw [if_neg (by assumption), if_neg (by assumption), if_pos (by assumption)] at y; omega) | (rw [if_neg (by assumption), if_neg (by assumption), if_neg (by assumption)] at y; omega)⟩) | (exfalso; omega; done) | (exfalso; contradiction; done))
          · skip
            have g81 := i_ne h57
            exact K ((0 : Int32)) _ zF_rfl hV (by decide) (show zZW (0 : Int32) (zwd (m 96) (m 94 68) (m 94 69).toInt xa xb xc xd xe xf xg) from by first | (exact Or.inr ⟨rfl, fun z => absurd z.2.2.1 (by assumption)⟩) | (exact Or.inr ⟨rfl, fun z => absurd z.2.1 (by assumption)⟩) | (exact Or.inr ⟨rfl, fun z => absurd z.2.2.2.1 (by assumption)⟩) | (exact Or.inr ⟨rfl, fun z => absurd z.2.2.2.2.1 (by assumption)⟩) | (exact Or.inr ⟨rfl, fun z => absurd (z.2.2.2.2.2.1.elim (fun y => absurd y (by assumption)) id) (by assumption)⟩) | (exact Or.inr ⟨rfl, fun z => absurd (z.2.2.2.2.2.2.1.elim (fun y => absurd y (by assumption)) (fun y => y.elim (fun y => absurd y (by assumption)) id)) (by assumption)⟩) | (exact Or.inr ⟨rfl, fun z => absurd (z.2.2.2.2.2.2.2.elim (fun y => absurd y (by assumption)) (fun y => y.elim (fun y => absurd y (by assumption)) (fun y => y.elim (fun y => absurd y (by assumption)) id))) (by assumption)⟩) | (exact Or.inr ⟨rfl, fun z => by have y := z.1; first | (rw [if_pos (by assumption)] at y; omega) | (rw [if_neg (by assumption), if_pos (by assumption)] at y; omega) | (rw [if_neg (by assumption), if_neg (by assumption), if_pos (by assumption)] at y; omega) | (rw [if_neg (by assumption), if_neg (by assumption), if_neg (by assumption)] at y; omega)⟩) | (exfalso; omega; done) | (exfalso; contradiction; done))
        · skip
          have g82 := i_ne h51
          exact K ((0 : Int32)) _ zF_rfl hV (by decide) (show zZW (0 : Int32) (zwd (m 96) (m 94 68) (m 94 69).toInt xa xb xc xd xe xf xg) from by first | (exact Or.inr ⟨rfl, fun z => absurd z.2.1 (by assumption)⟩) | (exact Or.inr ⟨rfl, fun z => absurd z.2.2.1 (by assumption)⟩) | (exact Or.inr ⟨rfl, fun z => absurd z.2.2.2.1 (by assumption)⟩) | (exact Or.inr ⟨rfl, fun z => absurd z.2.2.2.2.1 (by assumption)⟩) | (exact Or.inr ⟨rfl, fun z => absurd (z.2.2.2.2.2.1.elim (fun y => absurd y (by assumption)) id) (by assumption)⟩) | (exact Or.inr ⟨rfl, fun z => absurd (z.2.2.2.2.2.2.1.elim (fun y => absurd y (by assumption)) (fun y => y.elim (fun y => absurd y (by assumption)) id)) (by assumption)⟩) | (exact Or.inr ⟨rfl, fun z => absurd (z.2.2.2.2.2.2.2.elim (fun y => absurd y (by assumption)) (fun y => y.elim (fun y => absurd y (by assumption)) (fun y => y.elim (fun y => absurd y (by assumption)) id))) (by assumption)⟩) | (exact Or.inr ⟨rfl, fun z => by have y := z.1; first | (rw [if_pos (by assumption)] at y; omega) | (rw [if_neg (by assumption), if_pos (by assumption)] at y; omega) | (rw [if_neg (by assumption), if_neg (by assumption), if_pos (by assumption)] at y; omega) | (rw [if_neg (by assumption), if_neg (by assumption), if_neg (by assumption)] at y; omega)⟩) | (exfalso; omega; done) | (exfalso; contradiction; done))
      · skip
        have g83 := i_ne h45
        exact K ((0 : Int32)) _ zF_rfl hV (by decide) (show zZW (0 : Int32) (zwd (m 96) (m 94 68) (m 94 69).toInt xa xb xc xd xe xf xg) from by first | (exact Or.inr ⟨rfl, fun z => by have y := z.1; first | (rw [if_neg (by assumption), if_pos (by assumption)] at y; omega) | (rw [if_pos (by assumption)] at y; omega) | (rw [if_neg (by assumption), if_neg (by assumption), if_pos (by assumption)] at y; omega) | (rw [if_neg (by assumption), if_neg (by assumption), if_neg (by assumption)] at y; omega)⟩) | (exact Or.inr ⟨rfl, fun z => absurd z.2.1 (by assumption)⟩) | (exact Or.inr ⟨rfl, fun z => absurd z.2.2.1 (by assumption)⟩) | (exact Or.inr ⟨rfl, fun z => absurd z.2.2.2.1 (by assumption)⟩) | (exact Or.inr ⟨rfl, fun z => absurd z.2.2.2.2.1 (by assumption)⟩) | (exact Or.inr ⟨rfl, fun z => absurd (z.2.2.2.2.2.1.elim (fun y => absurd y (by assumption)) id) (by assumption)⟩) | (exact Or.inr ⟨rfl, fun z => absurd (z.2.2.2.2.2.2.1.elim (fun y => absurd y (by assumption)) (fun y => y.elim (fun y => absurd y (by assumption)) id)) (by assumption)⟩) | (exact Or.inr ⟨rfl, fun z => absurd (z.2.2.2.2.2.2.2.elim (fun y => absurd y (by assumption)) (fun y => y.elim (fun y => absurd y (by assumption)) (fun y => y.elim (fun y => absurd y (by assumption)) id))) (by assumption)⟩) | (exfalso; omega; done) | (exfalso; contradiction; done))
    · skip
      have g84 := i_ne h42
      have b85 := i_bd xg
      refine zd (fun (h86 : xg = (0 : Int32)) => ?_) (fun (h86 : ¬ xg = (0 : Int32)) => ?_)
      · skip
        have g87 := i_eq h86
        have li88 : (6 : Int32).toInt = 6 := rfl
        refine zd (fun (h89 : (m 94 69) = (6 : Int32)) => ?_) (fun (h89 : ¬ (m 94 69) = (6 : Int32)) => ?_)
        · skip
          have g90 := i_eq h89
          first | have e91 : ((m 94 68) + (0 : Int32)).toInt = (m 94 68).toInt + (0) := i_addk rfl (by omega) (by omega) | have b92 := i_bd ((m 94 68) + (0 : Int32))
          have hg93 : (0 ≤ ((m 94 68) + (0 : Int32)) ∧ ((m 94 68) + (0 : Int32)).toNatClampNeg < 100) := i_ix (by omega) (by omega)
          refine ⟨hg93, ?_⟩
          have b94 := i_bd (m 96 ((m 94 68) + (0 : Int32)).toNatClampNeg)
          refine zd (fun (h95 : (m 96 ((m 94 68) + (0 : Int32)).toNatClampNeg) = xa) => ?_) (fun (h95 : ¬ (m 96 ((m 94 68) + (0 : Int32)).toNatClampNeg) = xa) => ?_)
          · skip
            have g96 := i_eq h95
            first | have e97 : ((m 94 68) + (1 : Int32)).toInt = (m 94 68).toInt + (1) := i_addk rfl (by omega) (by omega) | have b98 := i_bd ((m 94 68) + (1 : Int32))
            have hg99 : (0 ≤ ((m 94 68) + (1 : Int32)) ∧ ((m 94 68) + (1 : Int32)).toNatClampNeg < 100) := i_ix (by omega) (by omega)
            refine ⟨hg99, ?_⟩
            have b100 := i_bd (m 96 ((m 94 68) + (1 : Int32)).toNatClampNeg)
            refine zd (fun (h101 : (m 96 ((m 94 68) + (1 : Int32)).toNatClampNeg) = xb) => ?_) (fun (h101 : ¬ (m 96 ((m 94 68) + (1 : Int32)).toNatClampNeg) = xb) => ?_)
            · skip
              have g102 := i_eq h101
              first | have e103 : ((m 94 68) + (2 : Int32)).toInt = (m 94 68).toInt + (2) := i_addk rfl (by omega) (by omega) | have b104 := i_bd ((m 94 68) + (2 : Int32))
              have hg105 : (0 ≤ ((m 94 68) + (2 : Int32)) ∧ ((m 94 68) + (2 : Int32)).toNatClampNeg < 100) := i_ix (by omega) (by omega)
              refine ⟨hg105, ?_⟩
              have b106 := i_bd (m 96 ((m 94 68) + (2 : Int32)).toNatClampNeg)
              refine zd (fun (h107 : (m 96 ((m 94 68) + (2 : Int32)).toNatClampNeg) = xc) => ?_) (fun (h107 : ¬ (m 96 ((m 94 68) + (2 : Int32)).toNatClampNeg) = xc) => ?_)
              · skip
                have g108 := i_eq h107
                first | have e109 : ((m 94 68) + (3 : Int32)).toInt = (m 94 68).toInt + (3) := i_addk rfl (by omega) (by omega) | have b110 := i_bd ((m 94 68) + (3 : Int32))
                have hg111 : (0 ≤ ((m 94 68) + (3 : Int32)) ∧ ((m 94 68) + (3 : Int32)).toNatClampNeg < 100) := i_ix (by omega) (by omega)
                refine ⟨hg111, ?_⟩
                have b112 := i_bd (m 96 ((m 94 68) + (3 : Int32)).toNatClampNeg)
                refine zd (fun (h113 : (m 96 ((m 94 68) + (3 : Int32)).toNatClampNeg) = xd) => ?_) (fun (h113 : ¬ (m 96 ((m 94 68) + (3 : Int32)).toNatClampNeg) = xd) => ?_)
                · skip
                  have g114 := i_eq h113
                  first | have e115 : ((m 94 68) + (4 : Int32)).toInt = (m 94 68).toInt + (4) := i_addk rfl (by omega) (by omega) | have b116 := i_bd ((m 94 68) + (4 : Int32))
                  have hg117 : (0 ≤ ((m 94 68) + (4 : Int32)) ∧ ((m 94 68) + (4 : Int32)).toNatClampNeg < 100) := i_ix (by omega) (by omega)
                  refine ⟨hg117, ?_⟩
                  have b118 := i_bd (m 96 ((m 94 68) + (4 : Int32)).toNatClampNeg)
                  refine zd (fun (h119 : (m 96 ((m 94 68) + (4 : Int32)).toNatClampNeg) = xe) => ?_) (fun (h119 : ¬ (m 96 ((m 94 68) + (4 : Int32)).toNatClampNeg) = xe) => ?_)
                  · skip
                    have g120 := i_eq h119
                    first | have e121 : ((m 94 68) + (5 : Int32)).toInt = (m 94 68).toInt + (5) := i_addk rfl (by omega) (by omega) | have b122 := i_bd ((m 94 68) + (5 : Int32))
                    have hg123 : (0 ≤ ((m 94 68) + (5 : Int32)) ∧ ((m 94 68) + (5 : Int32)).toNatClampNeg < 100) := i_ix (by omega) (by omega)
                    refine ⟨hg123, ?_⟩
                    have b124 := i_bd (m 96 ((m 94 68) + (5 : Int32)).toNatClampNeg)
                    refine zd (fun (h125 : (m 96 ((m 94 68) + (5 : Int32)).toNatClampNeg) = xf) => ?_) (fun (h125 : ¬ (m 96 ((m 94 68) + (5 : Int32)).toNatClampNeg) = xf) => ?_)
                    · skip
                      have g126 := i_eq h125
                      have li127 : (1 : Int32).toInt = 1 := rfl
                      exact K ((1 : Int32)) _ zF_rfl hV (by decide) (show zZW (1 : Int32) (zwd (m 96) (m 94 68) (m 94 69).toInt xa xb xc xd xe xf xg) from by first | (exact Or.inl ⟨rfl, (by first | (rw [if_neg (by assumption), if_neg (by assumption), if_pos (by assumption)]; omega) | (rw [if_pos (by assumption)]; omega) | (rw [if_neg (by assumption), if_pos (by assumption)]; omega) | (rw [if_neg (by assumption), if_neg (by assumption), if_neg (by assumption)]; omega)), (by assumption), (by assumption), (by assumption), (by assumption), (by first | exact Or.inr ((by assumption)) | exact Or.inl (by assumption)), (by first | exact Or.inr (Or.inr ((by assumption))) | exact Or.inl (by assumption) | exact Or.inr (Or.inl (by assumption))), (by first | exact Or.inr (Or.inr (Or.inl (by assumption))) | exact Or.inl (by assumption) | exact Or.inr (Or.inl (by assumption)) | exact Or.inr (Or.inr (Or.inr ((by assumption)))))⟩) | (exfalso; omega; done) | (exfalso; contradiction; done))
                    · skip
                      have g128 := i_ne h125
                      exact K ((0 : Int32)) _ zF_rfl hV (by decide) (show zZW (0 : Int32) (zwd (m 96) (m 94 68) (m 94 69).toInt xa xb xc xd xe xf xg) from by first | (exact Or.inr ⟨rfl, fun z => absurd (z.2.2.2.2.2.2.1.elim (fun y => absurd y (by assumption)) (fun y => y.elim (fun y => absurd y (by assumption)) id)) (by assumption)⟩) | (exact Or.inr ⟨rfl, fun z => absurd z.2.1 (by assumption)⟩) | (exact Or.inr ⟨rfl, fun z => absurd z.2.2.1 (by assumption)⟩) | (exact Or.inr ⟨rfl, fun z => absurd z.2.2.2.1 (by assumption)⟩) | (exact Or.inr ⟨rfl, fun z => absurd z.2.2.2.2.1 (by assumption)⟩) | (exact Or.inr ⟨rfl, fun z => absurd (z.2.2.2.2.2.1.elim (fun y => absurd y (by assumption)) id) (by assumption)⟩) | (exact Or.inr ⟨rfl, fun z => absurd (z.2.2.2.2.2.2.2.elim (fun y => absurd y (by assumption)) (fun y => y.elim (fun y => absurd y (by assumption)) (fun y => y.elim (fun y => absurd y (by assumption)) id))) (by assumption)⟩) | (exact Or.inr ⟨rfl, fun z => by have y := z.1; first | (rw [if_pos (by assumption)] at y; omega) | (rw [if_neg (by assumption), if_pos (by assumption)] at y; omega) | (rw [if_neg (by assumption), if_neg (by assumption), if_pos (by assumption)] at y; omega) | (rw [if_neg (by assumption), if_neg (by assumption), if_neg (by assumption)] at y; omega)⟩) | (exfalso; omega; done) | (exfalso; contradiction; done))
                  · skip
                    have g129 := i_ne h119
                    exact K ((0 : Int32)) _ zF_rfl hV (by decide) (show zZW (0 : Int32) (zwd (m 96) (m 94 68) (m 94 69).toInt xa xb xc xd xe xf xg) from by first | (exact Or.inr ⟨rfl, fun z => absurd (z.2.2.2.2.2.1.elim (fun y => absurd y (by assumption)) id) (by assumption)⟩) | (exact Or.inr ⟨rfl, fun z => absurd z.2.1 (by assumption)⟩) | (exact Or.inr ⟨rfl, fun z => absurd z.2.2.1 (by assumption)⟩) | (exact Or.inr ⟨rfl, fun z => absurd z.2.2.2.1 (by assumption)⟩) | (exact Or.inr ⟨rfl, fun z => absurd z.2.2.2.2.1 (by assumption)⟩) | (exact Or.inr ⟨rfl, fun z => absurd (z.2.2.2.2.2.2.1.elim (fun y => absurd y (by assumption)) (fun y => y.elim (fun y => absurd y (by assumption)) id)) (by assumption)⟩) | (exact Or.inr ⟨rfl, fun z => absurd (z.2.2.2.2.2.2.2.elim (fun y => absurd y (by assumption)) (fun y => y.elim (fun y => absurd y (by assumption)) (fun y => y.elim (fun y => absurd y (by assumption)) id))) (by assumption)⟩) | (exact Or.inr ⟨rfl, fun z => by have y := z.1; first | (rw [if_pos (by assumption)] at y; omega) | (rw [if_neg (by assumption), if_pos (by assumption)] at y; omega) | (rw [if_neg (by assumption), if_neg (by assumption), if_pos (by assumption)] at y; omega) | (rw [if_neg (by assumption), if_neg (by assumption), if_neg (by assumption)] at y; omega)⟩) | (exfalso; omega; done) | (exfalso; contradiction; done))
                · skip
                  have g130 := i_ne h113
                  exact K ((0 : Int32)) _ zF_rfl hV (by decide) (show zZW (0 : Int32) (zwd (m 96) (m 94 68) (m 94 69).toInt xa xb xc xd xe xf xg) from by first | (exact Or.inr ⟨rfl, fun z => absurd z.2.2.2.2.1 (by assumption)⟩) | (exact Or.inr ⟨rfl, fun z => absurd z.2.1 (by assumption)⟩) | (exact Or.inr ⟨rfl, fun z => absurd z.2.2.1 (by assumption)⟩) | (exact Or.inr ⟨rfl, fun z => absurd z.2.2.2.1 (by assumption)⟩) | (exact Or.inr ⟨rfl, fun z => absurd (z.2.2.2.2.2.1.elim (fun y => absurd y (by assumption)) id) (by assumption)⟩) | (exact Or.inr ⟨rfl, fun z => absurd (z.2.2.2.2.2.2.1.elim (fun y => absurd y (by assumption)) (fun y => y.elim (fun y => absurd y (by assumption)) id)) (by assumption)⟩) | (exact Or.inr ⟨rfl, fun z => absurd (z.2.2.2.2.2.2.2.elim (fun y => absurd y (by assumption)) (fun y => y.elim (fun y => absurd y (by assumption)) (fun y => y.elim (fun y => absurd y (by assumption)) id))) (by assumption)⟩) | (exact Or.inr ⟨rfl, fun z => by have y := z.1; first | (rw [if_pos (by assumption)] at y; omega) | (rw [if_neg (by assumption), if_pos (by assumption)] at y; omega) | (rw [if_neg (by assumption), if_neg (by assumption), if_pos (by assumption)] at y; omega) | (rw [if_neg (by assumption), if_neg (by assumption), if_neg (by assumption)] at y; omega)⟩) | (exfalso; omega; done) | (exfalso; contradiction; done))
              · skip
                have g131 := i_ne h107
                exact K ((0 : Int32)) _ zF_rfl hV (by decide) (show zZW (0 : Int32) (zwd (m 96) (m 94 68) (m 94 69).toInt xa xb xc xd xe xf xg) from by first | (exact Or.inr ⟨rfl, fun z => absurd z.2.2.2.1 (by assumption)⟩) | (exact Or.inr ⟨rfl, fun z => absurd z.2.1 (by assumption)⟩) | (exact Or.inr ⟨rfl, fun z => absurd z.2.2.1 (by assumption)⟩) | (exact Or.inr ⟨rfl, fun z => absurd z.2.2.2.2.1 (by assumption)⟩) | (exact Or.inr ⟨rfl, fun z => absurd (z.2.2.2.2.2.1.elim (fun y => absurd y (by assumption)) id) (by assumption)⟩) | (exact Or.inr ⟨rfl, fun z => absurd (z.2.2.2.2.2.2.1.elim (fun y => absurd y (by assumption)) (fun y => y.elim (fun y => absurd y (by assumption)) id)) (by assumption)⟩) | (exact Or.inr ⟨rfl, fun z => absurd (z.2.2.2.2.2.2.2.elim (fun y => absurd y (by assumption)) (fun y => y.elim (fun y => absurd y (by assumption)) (fun y => y.elim (fun y => absurd y (by assumption)) id))) (by assumption)⟩) | (exact Or.inr ⟨rfl, fun z => by have y := z.1; first | (rw [if_pos (by assumption)] at y; omega) | (rw [if_neg (by assumption), if_pos (by assumption)] at y; omega) | (rw [if_neg (by assumption), if_neg (by assumption), if_pos (by assumption)] at y; omega) | (rw [if_neg (by assumption), if_neg (by assumption), if_neg (by assumption)] at y; omega)⟩) | (exfalso; omega; done) | (exfalso; contradiction; done))
            · skip
              have g132 := i_ne h101
              exact K ((0 : Int32)) _ zF_rfl hV (by decide) (show zZW (0 : Int32) (zwd (m 96) (m 94 68) (m 94 69).toInt xa xb xc xd xe xf xg) from by first | (exact Or.inr ⟨rfl, fun z => absurd z.2.2.1 (by assumption)⟩) | (exact Or.inr ⟨rfl, fun z => absurd z.2.1 (by assumption)⟩) | (exact Or.inr ⟨rfl, fun z => absurd z.2.2.2.1 (by assumption)⟩) | (exact Or.inr ⟨rfl, fun z => absurd z.2.2.2.2.1 (by assumption)⟩) | (exact Or.inr ⟨rfl, fun z => absurd (z.2.2.2.2.2.1.elim (fun y => absurd y (by assumption)) id) (by assumption)⟩) | (exact Or.inr ⟨rfl, fun z => absurd (z.2.2.2.2.2.2.1.elim (fun y => absurd y (by assumption)) (fun y => y.elim (fun y => absurd y (by assumption)) id)) (by assumption)⟩) | (exact Or.inr ⟨rfl, fun z => absurd (z.2.2.2.2.2.2.2.elim (fun y => absurd y (by assumption)) (fun y => y.elim (fun y => absurd y (by assumption)) (fun y => y.elim (fun y => absurd y (by assumption)) id))) (by assumption)⟩) | (exact Or.inr ⟨rfl, fun z => by have y := z.1; first | (rw [if_pos (by assumption)] at y; omega) | (rw [if_neg (by assumption), if_pos (by assumption)] at y; omega) | (rw [if_neg (by assumption), if_neg (by assumption), if_pos (by assumption)] at y; omega) | (rw [if_neg (by assumption), if_neg (by assumption), if_neg (by assumption)] at y; omega)⟩) | (exfalso; omega; done) | (exfalso; contradiction; done))
          · skip
            have g133 := i_ne h95
            exact K ((0 : Int32)) _ zF_rfl hV (by decide) (show zZW (0 : Int32) (zwd (m 96) (m 94 68) (m 94 69).toInt xa xb xc xd xe xf xg) from by first | (exact Or.inr ⟨rfl, fun z => absurd z.2.1 (by assumption)⟩) | (exact Or.inr ⟨rfl, fun z => absurd z.2.2.1 (by assumption)⟩) | (exact Or.inr ⟨rfl, fun z => absurd z.2.2.2.1 (by assumption)⟩) | (exact Or.inr ⟨rfl, fun z => absurd z.2.2.2.2.1 (by assumption)⟩) | (exact Or.inr ⟨rfl, fun z => absurd (z.2.2.2.2.2.1.elim (fun y => absurd y (by assumption)) id) (by assumption)⟩) | (exact Or.inr ⟨rfl, fun z => absurd (z.2.2.2.2.2.2.1.elim (fun y => absurd y (by assumption)) (fun y => y.elim (fun y => absurd y (by assumption)) id)) (by assumption)⟩) | (exact Or.inr ⟨rfl, fun z => absurd (z.2.2.2.2.2.2.2.elim (fun y => absurd y (by assumption)) (fun y => y.elim (fun y => absurd y (by assumption)) (fun y => y.elim (fun y => absurd y (by assumption)) id))) (by assumption)⟩) | (exact Or.inr ⟨rfl, fun z => by have y := z.1; first | (rw [if_pos (by assumption)] at y; omega) | (rw [if_neg (by assumption), if_pos (by assumption)] at y; omega) | (rw [if_neg (by assumption), if_neg (by assumption), if_pos (by assumption)] at y; omega) | (rw [if_neg (by assumption), if_neg (by assumption), if_neg (by assumption)] at y; omega)⟩) | (exfalso; omega; done) | (exfalso; contradiction; done))
        · skip
          have g134 := i_ne h89
          exact K ((0 : Int32)) _ zF_rfl hV (by decide) (show zZW (0 : Int32) (zwd (m 96) (m 94 68) (m 94 69).toInt xa xb xc xd xe xf xg) from by first | (exact Or.inr ⟨rfl, fun z => by have y := z.1; first | (rw [if_neg (by assumption), if_neg (by assumption), if_pos (by assumption)] at y; omega) | (rw [if_pos (by assumption)] at y; omega) | (rw [if_neg (by assumption), if_pos (by assumption)] at y; omega) | (rw [if_neg (by assumption), if_neg (by assumption), if_neg (by assumption)] at y; omega)⟩) | (exact Or.inr ⟨rfl, fun z => absurd z.2.1 (by assumption)⟩) | (exact Or.inr ⟨rfl, fun z => absurd z.2.2.1 (by assumption)⟩) | (exact Or.inr ⟨rfl, fun z => absurd z.2.2.2.1 (by assumption)⟩) | (exact Or.inr ⟨rfl, fun z => absurd z.2.2.2.2.1 (by assumption)⟩) | (exact Or.inr ⟨rfl, fun z => absurd (z.2.2.2.2.2.1.elim (fun y => absurd y (by assumption)) id) (by assumption)⟩) | (exact Or.inr ⟨rfl, fun z => absurd (z.2.2.2.2.2.2.1.elim (fun y => absurd y (by assumption)) (fun y => y.elim (fun y => absurd y (by assumption)) id)) (by assumption)⟩) | (exact Or.inr ⟨rfl, fun z => absurd (z.2.2.2.2.2.2.2.elim (fun y => absurd y (by assumption)) (fun y => y.elim (fun y => absurd y (by assumption)) (fun y => y.elim (fun y => absurd y (by assumption)) id))) (by assumption)⟩) | (exfalso; omega; done) | (exfalso; contradiction; done))
      · skip
        have g135 := i_ne h86
        have li136 : (7 : Int32).toInt = 7 := rfl
        refine zd (fun (h137 : (m 94 69) = (7 : Int32)) => ?_) (fun (h137 : ¬ (m 94 69) = (7 : Int32)) => ?_)
        · skip
          have g138 := i_eq h137
          first | have e139 : ((m 94 68) + (0 : Int32)).toInt = (m 94 68).toInt + (0) := i_addk rfl (by omega) (by omega) | have b140 := i_bd ((m 94 68) + (0 : Int32))
          have hg141 : (0 ≤ ((m 94 68) + (0 : Int32)) ∧ ((m 94 68) + (0 : Int32)).toNatClampNeg < 100) := i_ix (by omega) (by omega)
          refine ⟨hg141, ?_⟩
          have b142 := i_bd (m 96 ((m 94 68) + (0 : Int32)).toNatClampNeg)
          refine zd (fun (h143 : (m 96 ((m 94 68) + (0 : Int32)).toNatClampNeg) = xa) => ?_) (fun (h143 : ¬ (m 96 ((m 94 68) + (0 : Int32)).toNatClampNeg) = xa) => ?_)
          · skip
            have g144 := i_eq h143
            first | have e145 : ((m 94 68) + (1 : Int32)).toInt = (m 94 68).toInt + (1) := i_addk rfl (by omega) (by omega) | have b146 := i_bd ((m 94 68) + (1 : Int32))
            have hg147 : (0 ≤ ((m 94 68) + (1 : Int32)) ∧ ((m 94 68) + (1 : Int32)).toNatClampNeg < 100) := i_ix (by omega) (by omega)
            refine ⟨hg147, ?_⟩
            have b148 := i_bd (m 96 ((m 94 68) + (1 : Int32)).toNatClampNeg)
            refine zd (fun (h149 : (m 96 ((m 94 68) + (1 : Int32)).toNatClampNeg) = xb) => ?_) (fun (h149 : ¬ (m 96 ((m 94 68) + (1 : Int32)).toNatClampNeg) = xb) => ?_)
            · skip
              have g150 := i_eq h149
              first | have e151 : ((m 94 68) + (2 : Int32)).toInt = (m 94 68).toInt + (2) := i_addk rfl (by omega) (by omega) | have b152 := i_bd ((m 94 68) + (2 : Int32))
              have hg153 : (0 ≤ ((m 94 68) + (2 : Int32)) ∧ ((m 94 68) + (2 : Int32)).toNatClampNeg < 100) := i_ix (by omega) (by omega)
              refine ⟨hg153, ?_⟩
              have b154 := i_bd (m 96 ((m 94 68) + (2 : Int32)).toNatClampNeg)
              refine zd (fun (h155 : (m 96 ((m 94 68) + (2 : Int32)).toNatClampNeg) = xc) => ?_) (fun (h155 : ¬ (m 96 ((m 94 68) + (2 : Int32)).toNatClampNeg) = xc) => ?_)
              · skip
                have g156 := i_eq h155
                first | have e157 : ((m 94 68) + (3 : Int32)).toInt = (m 94 68).toInt + (3) := i_addk rfl (by omega) (by omega) | have b158 := i_bd ((m 94 68) + (3 : Int32))
                have hg159 : (0 ≤ ((m 94 68) + (3 : Int32)) ∧ ((m 94 68) + (3 : Int32)).toNatClampNeg < 100) := i_ix (by omega) (by omega)
                refine ⟨hg159, ?_⟩
                have b160 := i_bd (m 96 ((m 94 68) + (3 : Int32)).toNatClampNeg)
                refine zd (fun (h161 : (m 96 ((m 94 68) + (3 : Int32)).toNatClampNeg) = xd) => ?_) (fun (h161 : ¬ (m 96 ((m 94 68) + (3 : Int32)).toNatClampNeg) = xd) => ?_)
                · skip
                  have g162 := i_eq h161
                  first | have e163 : ((m 94 68) + (4 : Int32)).toInt = (m 94 68).toInt + (4) := i_addk rfl (by omega) (by omega) | have b164 := i_bd ((m 94 68) + (4 : Int32))
                  have hg165 : (0 ≤ ((m 94 68) + (4 : Int32)) ∧ ((m 94 68) + (4 : Int32)).toNatClampNeg < 100) := i_ix (by omega) (by omega)
                  refine ⟨hg165, ?_⟩
                  have b166 := i_bd (m 96 ((m 94 68) + (4 : Int32)).toNatClampNeg)
                  refine zd (fun (h167 : (m 96 ((m 94 68) + (4 : Int32)).toNatClampNeg) = xe) => ?_) (fun (h167 : ¬ (m 96 ((m 94 68) + (4 : Int32)).toNatClampNeg) = xe) => ?_)
                  · skip
                    have g168 := i_eq h167
                    first | have e169 : ((m 94 68) + (5 : Int32)).toInt = (m 94 68).toInt + (5) := i_addk rfl (by omega) (by omega) | have b170 := i_bd ((m 94 68) + (5 : Int32))
                    have hg171 : (0 ≤ ((m 94 68) + (5 : Int32)) ∧ ((m 94 68) + (5 : Int32)).toNatClampNeg < 100) := i_ix (by omega) (by omega)
                    refine ⟨hg171, ?_⟩
                    have b172 := i_bd (m 96 ((m 94 68) + (5 : Int32)).toNatClampNeg)
                    refine zd (fun (h173 : (m 96 ((m 94 68) + (5 : Int32)).toNatClampNeg) = xf) => ?_) (fun (h173 : ¬ (m 96 ((m 94 68) + (5 : Int32)).toNatClampNeg) = xf) => ?_)
                    · skip
                      have g174 := i_eq h173
                      first | have e175 : ((m 94 68) + (6 : Int32)).toInt = (m 94 68).toInt + (6) := i_addk rfl (by omega) (by omega) | have b176 := i_bd ((m 94 68) + (6 : Int32))
                      have hg177 : (0 ≤ ((m 94 68) + (6 : Int32)) ∧ ((m 94 68) + (6 : Int32)).toNatClampNeg < 100) := i_ix (by omega) (by omega)
                      refine ⟨hg177, ?_⟩
                      have b178 := i_bd (m 96 ((m 94 68) + (6 : Int32)).toNatClampNeg)
                      refine zd (fun (h179 : (m 96 ((m 94 68) + (6 : Int32)).toNatClampNeg) = xg) => ?_) (fun (h179 : ¬ (m 96 ((m 94 68) + (6 : Int32)).toNatClampNeg) = xg) => ?_)
                      · skip
                        have g180 := i_eq h179
                        have li181 : (1 : Int32).toInt = 1 := rfl
                        exact K ((1 : Int32)) _ zF_rfl hV (by decide) (show zZW (1 : Int32) (zwd (m 96) (m 94 68) (m 94 69).toInt xa xb xc xd xe xf xg) from by first | (exact Or.inl ⟨rfl, (by first | (rw [if_neg (by assumption), if_neg (by assumption), if_neg (by assumption)]; omega) | (rw [if_pos (by assumption)]; omega) | (rw [if_neg (by assumption), if_pos (by assumption)]; omega) | (rw [if_neg (by assumption), if_neg (by assumption), if_pos (by assumption)]; omega)), (by assumption), (by assumption), (by assumption), (by assumption), (by first | exact Or.inr ((by assumption)) | exact Or.inl (by assumption)), (by first | exact Or.inr (Or.inr ((by assumption))) | exact Or.inl (by assumption) | exact Or.inr (Or.inl (by assumption))), (by first | exact Or.inr (Or.inr (Or.inr ((by assumption)))) | exact Or.inl (by assumption) | exact Or.inr (Or.inl (by assumption)) | exact Or.inr (Or.inr (Or.inl (by assumption))))⟩) | (exfalso; omega; done) | (exfalso; contradiction; done))
                      · skip
                        have g182 := i_ne h179
                        exact K ((0 : Int32)) _ zF_rfl hV (by decide) (show zZW (0 : Int32) (zwd (m 96) (m 94 68) (m 94 69).toInt xa xb xc xd xe xf xg) from by first | (exact Or.inr ⟨rfl, fun z => absurd (z.2.2.2.2.2.2.2.elim (fun y => absurd y (by assumption)) (fun y => y.elim (fun y => absurd y (by assumption)) (fun y => y.elim (fun y => absurd y (by assumption)) id))) (by assumption)⟩) | (exact Or.inr ⟨rfl, fun z => absurd z.2.1 (by assumption)⟩) | (exact Or.inr ⟨rfl, fun z => absurd z.2.2.1 (by assumption)⟩) | (exact Or.inr ⟨rfl, fun z => absurd z.2.2.2.1 (by assumption)⟩) | (exact Or.inr ⟨rfl, fun z => absurd z.2.2.2.2.1 (by assumption)⟩) | (exact Or.inr ⟨rfl, fun z => absurd (z.2.2.2.2.2.1.elim (fun y => absurd y (by assumption)) id) (by assumption)⟩) | (exact Or.inr ⟨rfl, fun z => absurd (z.2.2.2.2.2.2.1.elim (fun y => absurd y (by assumption)) (fun y => y.elim (fun y => absurd y (by assumption)) id)) (by assumption)⟩) | (exact Or.inr ⟨rfl, fun z => by have y := z.1; first | (rw [if_pos (by assumption)] at y; omega) | (rw [if_neg (by assumption), if_pos (by assumption)] at y; omega) | (rw [if_neg (by assumption), if_neg (by assumption), if_pos (by assumption)] at y; omega) | (rw [if_neg (by assumption), if_neg (by assumption), if_neg (by assumption)] at y; omega)⟩) | (exfalso; omega; done) | (exfalso; contradiction; done))
                    · skip
                      have g183 := i_ne h173
                      exact K ((0 : Int32)) _ zF_rfl hV (by decide) (show zZW (0 : Int32) (zwd (m 96) (m 94 68) (m 94 69).toInt xa xb xc xd xe xf xg) from by first | (exact Or.inr ⟨rfl, fun z => absurd (z.2.2.2.2.2.2.1.elim (fun y => absurd y (by assumption)) (fun y => y.elim (fun y => absurd y (by assumption)) id)) (by assumption)⟩) | (exact Or.inr ⟨rfl, fun z => absurd z.2.1 (by assumption)⟩) | (exact Or.inr ⟨rfl, fun z => absurd z.2.2.1 (by assumption)⟩) | (exact Or.inr ⟨rfl, fun z => absurd z.2.2.2.1 (by assumption)⟩) | (exact Or.inr ⟨rfl, fun z => absurd z.2.2.2.2.1 (by assumption)⟩) | (exact Or.inr ⟨rfl, fun z => absurd (z.2.2.2.2.2.1.elim (fun y => absurd y (by assumption)) id) (by assumption)⟩) | (exact Or.inr ⟨rfl, fun z => absurd (z.2.2.2.2.2.2.2.elim (fun y => absurd y (by assumption)) (fun y => y.elim (fun y => absurd y (by assumption)) (fun y => y.elim (fun y => absurd y (by assumption)) id))) (by assumption)⟩) | (exact Or.inr ⟨rfl, fun z => by have y := z.1; first | (rw [if_pos (by assumption)] at y; omega) | (rw [if_neg (by assumption), if_pos (by assumption)] at y; omega) | (rw [if_neg (by assumption), if_neg (by assumption), if_pos (by assumption)] at y; omega) | (rw [if_neg (by assumption), if_neg (by assumption), if_neg (by assumption)] at y; omega)⟩) | (exfalso; omega; done) | (exfalso; contradiction; done))
                  · skip
                    have g184 := i_ne h167
                    exact K ((0 : Int32)) _ zF_rfl hV (by decide) (show zZW (0 : Int32) (zwd (m 96) (m 94 68) (m 94 69).toInt xa xb xc xd xe xf xg) from by first | (exact Or.inr ⟨rfl, fun z => absurd (z.2.2.2.2.2.1.elim (fun y => absurd y (by assumption)) id) (by assumption)⟩) | (exact Or.inr ⟨rfl, fun z => absurd z.2.1 (by assumption)⟩) | (exact Or.inr ⟨rfl, fun z => absurd z.2.2.1 (by assumption)⟩) | (exact Or.inr ⟨rfl, fun z => absurd z.2.2.2.1 (by assumption)⟩) | (exact Or.inr ⟨rfl, fun z => absurd z.2.2.2.2.1 (by assumption)⟩) | (exact Or.inr ⟨rfl, fun z => absurd (z.2.2.2.2.2.2.1.elim (fun y => absurd y (by assumption)) (fun y => y.elim (fun y => absurd y (by assumption)) id)) (by assumption)⟩) | (exact Or.inr ⟨rfl, fun z => absurd (z.2.2.2.2.2.2.2.elim (fun y => absurd y (by assumption)) (fun y => y.elim (fun y => absurd y (by assumption)) (fun y => y.elim (fun y => absurd y (by assumption)) id))) (by assumption)⟩) | (exact Or.inr ⟨rfl, fun z => by have y := z.1; first | (rw [if_pos (by assumption)] at y; omega) | (rw [if_neg (by assumption), if_pos (by assumption)] at y; omega) | (rw [if_neg (by assumption), if_neg (by assumption), if_pos (by assumption)] at y; omega) | (rw [if_neg (by assumption), if_neg (by assumption), if_neg (by assumption)] at y; omega)⟩) | (exfalso; omega; done) | (exfalso; contradiction; done))
                · skip
                  have g185 := i_ne h161
                  exact K ((0 : Int32)) _ zF_rfl hV (by decide) (show zZW (0 : Int32) (zwd (m 96) (m 94 68) (m 94 69).toInt xa xb xc xd xe xf xg) from by first | (exact Or.inr ⟨rfl, fun z => absurd z.2.2.2.2.1 (by assumption)⟩) | (exact Or.inr ⟨rfl, fun z => absurd z.2.1 (by assumption)⟩) | (exact Or.inr ⟨rfl, fun z => absurd z.2.2.1 (by assumption)⟩) | (exact Or.inr ⟨rfl, fun z => absurd z.2.2.2.1 (by assumption)⟩) | (exact Or.inr ⟨rfl, fun z => absurd (z.2.2.2.2.2.1.elim (fun y => absurd y (by assumption)) id) (by assumption)⟩) | (exact Or.inr ⟨rfl, fun z => absurd (z.2.2.2.2.2.2.1.elim (fun y => absurd y (by assumption)) (fun y => y.elim (fun y => absurd y (by assumption)) id)) (by assumption)⟩) | (exact Or.inr ⟨rfl, fun z => absurd (z.2.2.2.2.2.2.2.elim (fun y => absurd y (by assumption)) (fun y => y.elim (fun y => absurd y (by assumption)) (fun y => y.elim (fun y => absurd y (by assumption)) id))) (by assumption)⟩) | (exact Or.inr ⟨rfl, fun z => by have y := z.1; first | (rw [if_pos (by assumption)] at y; omega) | (rw [if_neg (by assumption), if_pos (by assumption)] at y; omega) | (rw [if_neg (by assumption), if_neg (by assumption), if_pos (by assumption)] at y; omega) | (rw [if_neg (by assumption), if_neg (by assumption), if_neg (by assumption)] at y; omega)⟩) | (exfalso; omega; done) | (exfalso; contradiction; done))
              · skip
                have g186 := i_ne h155
                exact K ((0 : Int32)) _ zF_rfl hV (by decide) (show zZW (0 : Int32) (zwd (m 96) (m 94 68) (m 94 69).toInt xa xb xc xd xe xf xg) from by first | (exact Or.inr ⟨rfl, fun z => absurd z.2.2.2.1 (by assumption)⟩) | (exact Or.inr ⟨rfl, fun z => absurd z.2.1 (by assumption)⟩) | (exact Or.inr ⟨rfl, fun z => absurd z.2.2.1 (by assumption)⟩) | (exact Or.inr ⟨rfl, fun z => absurd z.2.2.2.2.1 (by assumption)⟩) | (exact Or.inr ⟨rfl, fun z => absurd (z.2.2.2.2.2.1.elim (fun y => absurd y (by assumption)) id) (by assumption)⟩) | (exact Or.inr ⟨rfl, fun z => absurd (z.2.2.2.2.2.2.1.elim (fun y => absurd y (by assumption)) (fun y => y.elim (fun y => absurd y (by assumption)) id)) (by assumption)⟩) | (exact Or.inr ⟨rfl, fun z => absurd (z.2.2.2.2.2.2.2.elim (fun y => absurd y (by assumption)) (fun y => y.elim (fun y => absurd y (by assumption)) (fun y => y.elim (fun y => absurd y (by assumption)) id))) (by assumption)⟩) | (exact Or.inr ⟨rfl, fun z => by have y := z.1; first | (rw [if_pos (by assumption)] at y; omega) | (rw [if_neg (by assumption), if_pos (by assumption)] at y; omega) | (rw [if_neg (by assumption), if_neg (by assumption), if_pos (by assumption)] at y; omega) | (rw [if_neg (by assumption), if_neg (by assumption), if_neg (by assumption)] at y; omega)⟩) | (exfalso; omega; done) | (exfalso; contradiction; done))
            · skip
              have g187 := i_ne h149
              exact K ((0 : Int32)) _ zF_rfl hV (by decide) (show zZW (0 : Int32) (zwd (m 96) (m 94 68) (m 94 69).toInt xa xb xc xd xe xf xg) from by first | (exact Or.inr ⟨rfl, fun z => absurd z.2.2.1 (by assumption)⟩) | (exact Or.inr ⟨rfl, fun z => absurd z.2.1 (by assumption)⟩) | (exact Or.inr ⟨rfl, fun z => absurd z.2.2.2.1 (by assumption)⟩) | (exact Or.inr ⟨rfl, fun z => absurd z.2.2.2.2.1 (by assumption)⟩) | (exact Or.inr ⟨rfl, fun z => absurd (z.2.2.2.2.2.1.elim (fun y => absurd y (by assumption)) id) (by assumption)⟩) | (exact Or.inr ⟨rfl, fun z => absurd (z.2.2.2.2.2.2.1.elim (fun y => absurd y (by assumption)) (fun y => y.elim (fun y => absurd y (by assumption)) id)) (by assumption)⟩) | (exact Or.inr ⟨rfl, fun z => absurd (z.2.2.2.2.2.2.2.elim (fun y => absurd y (by assumption)) (fun y => y.elim (fun y => absurd y (by assumption)) (fun y => y.elim (fun y => absurd y (by assumption)) id))) (by assumption)⟩) | (exact Or.inr ⟨rfl, fun z => by have y := z.1; first | (rw [if_pos (by assumption)] at y; omega) | (rw [if_neg (by assumption), if_pos (by assumption)] at y; omega) | (rw [if_neg (by assumption), if_neg (by assumption), if_pos (by assumption)] at y; omega) | (rw [if_neg (by assumption), if_neg (by assumption), if_neg (by assumption)] at y; omega)⟩) | (exfalso; omega; done) | (exfalso; contradiction; done))
          · skip
            have g188 := i_ne h143
            exact K ((0 : Int32)) _ zF_rfl hV (by decide) (show zZW (0 : Int32) (zwd (m 96) (m 94 68) (m 94 69).toInt xa xb xc xd xe xf xg) from by first | (exact Or.inr ⟨rfl, fun z => absurd z.2.1 (by assumption)⟩) | (exact Or.inr ⟨rfl, fun z => absurd z.2.2.1 (by assumption)⟩) | (exact Or.inr ⟨rfl, fun z => absurd z.2.2.2.1 (by assumption)⟩) | (exact Or.inr ⟨rfl, fun z => absurd z.2.2.2.2.1 (by assumption)⟩) | (exact Or.inr ⟨rfl, fun z => absurd (z.2.2.2.2.2.1.elim (fun y => absurd y (by assumption)) id) (by assumption)⟩) | (exact Or.inr ⟨rfl, fun z => absurd (z.2.2.2.2.2.2.1.elim (fun y => absurd y (by assumption)) (fun y => y.elim (fun y => absurd y (by assumption)) id)) (by assumption)⟩) | (exact Or.inr ⟨rfl, fun z => absurd (z.2.2.2.2.2.2.2.elim (fun y => absurd y (by assumption)) (fun y => y.elim (fun y => absurd y (by assumption)) (fun y => y.elim (fun y => absurd y (by assumption)) id))) (by assumption)⟩) | (exact Or.inr ⟨rfl, fun z => by have y := z.1; first | (rw [if_pos (by assumption)] at y; omega) | (rw [if_neg (by assumption), if_pos (by assumption)] at y; omega) | (rw [if_neg (by assumption), if_neg (by assumption), if_pos (by assumption)] at y; omega) | (rw [if_neg (by assumption), if_neg (by assumption), if_neg (by assumption)] at y; omega)⟩) | (exfalso; omega; done) | (exfalso; contradiction; done))
        · skip
          have g189 := i_ne h137
          exact K ((0 : Int32)) _ zF_rfl hV (by decide) (show zZW (0 : Int32) (zwd (m 96) (m 94 68) (m 94 69).toInt xa xb xc xd xe xf xg) from by first | (exact Or.inr ⟨rfl, fun z => by have y := z.1; first | (rw [if_neg (by assumption), if_neg (by assumption), if_neg (by assumption)] at y; omega) | (rw [if_pos (by assumption)] at y; omega) | (rw [if_neg (by assumption), if_pos (by assumption)] at y; omega) | (rw [if_neg (by assumption), if_neg (by assumption), if_pos (by assumption)] at y; omega)⟩) | (exact Or.inr ⟨rfl, fun z => absurd z.2.1 (by assumption)⟩) | (exact Or.inr ⟨rfl, fun z => absurd z.2.2.1 (by assumption)⟩) | (exact Or.inr ⟨rfl, fun z => absurd z.2.2.2.1 (by assumption)⟩) | (exact Or.inr ⟨rfl, fun z => absurd z.2.2.2.2.1 (by assumption)⟩) | (exact Or.inr ⟨rfl, fun z => absurd (z.2.2.2.2.2.1.elim (fun y => absurd y (by assumption)) id) (by assumption)⟩) | (exact Or.inr ⟨rfl, fun z => absurd (z.2.2.2.2.2.2.1.elim (fun y => absurd y (by assumption)) (fun y => y.elim (fun y => absurd y (by assumption)) id)) (by assumption)⟩) | (exact Or.inr ⟨rfl, fun z => absurd (z.2.2.2.2.2.2.2.elim (fun y => absurd y (by assumption)) (fun y => y.elim (fun y => absurd y (by assumption)) (fun y => y.elim (fun y => absurd y (by assumption)) id))) (by assumption)⟩) | (exfalso; omega; done) | (exfalso; contradiction; done))

/-! from 95.e02 -/
/-! the reference: texts (written by wip/tools/gen94n.py) -/
theorem lp_177n_36 {X : Nat × (Nat → Int32)} {P : Option ma_V → (Nat → Nat → Int32) → Prop} {lo : Int32} {hi : Int32} {m0 : Nat → Nat → Int32} (h0 : zV m0) (K : ∀ v m₉, zF wr_177 m0 m₉ → zV m₉ → (v = 0 ∨ v = 1) → ((m₉ 94 67).toInt ≤ (m₉ 94 4).toInt) → ((m₉ 94 68).toInt + (m₉ 94 69).toInt ≤ 100) → (v.toInt = 1 → lo.toInt ≤ (m₉ 94 71).toInt ∧ (m₉ 94 71).toInt ≤ hi.toInt) → ((m₉ 94 68).toInt + (m₉ 94 69).toInt = (m₉ 94 67).toInt) → ((m₉ 94 68).toInt = tk true (m₉ 96) (m₉ 94 4).toInt (m0 94 67).toInt) → ((m₉ 94 67).toInt = tk false (m₉ 96) (m₉ 94 4).toInt (m₉ 94 68).toInt) → (zNU v (m₉ 94 71).toInt (zNum (m₉ 96) (m₉ 94 68).toInt (m₉ 94 67).toInt lo.toInt hi.toInt) (m₉ 94 70).toInt (m₉ 94 68).toInt) → P (some (.inl v)) m₉) : ∀ (n : Nat) (m : Nat → Nat → Int32) (l1 : Int32) (l2 : Int32) (l3 : Int32) (l4 : Int32) (l5 : Int32), (100 - l5.toInt).toNat = n → zF wr_177 m0 m → zV m → (0 ≤ l5.toInt) → (l1.toInt = lo.toInt) → (l2.toInt = hi.toInt) → (0 ≤ l3.toInt) → (l3.toInt ≤ 1) → ((m 94 67).toInt ≤ (m 94 4).toInt) → ((m 94 68).toInt + (m 94 69).toInt ≤ 100) → ((m 94 68).toInt + (m 94 69).toInt = (m 94 67).toInt) → (1 ≤ (m 94 69).toInt) → ((m 94 68).toInt = tk true (m 96) (m 94 4).toInt (m0 94 67).toInt) → ((m 94 67).toInt = tk false (m 96) (m 94 4).toInt (m 94 68).toInt) → (zGB (m 96) (m 94 68).toInt (m 94 67).toInt l3.toInt l4.toInt l5.toInt) → zm X 1 21 177 36 [(0, .inr (.inr (some 94))), (1, .inl l1), (2, .inl l2), (3, .inl l3), (4, .inl l4), (5, .inl l5)] m P := by
  intro n
  induction n using Nat.strongRecOn with
  | _ n IH =>
    intro m l1 l2 l3 l4 l5 hmu hF hV hi0 hi1 hi2 hi3 hi4 hi5 hi6 hi7 hi8 r_NT1 r_NT2 r_GB
    refine g_177_36 l1 l2 l3 l4 l5 ?_
    have f1 : 0 ≤ (m 94 67).toInt ∧ (m 94 67).toInt ≤ 100 := rs_94_67 (m := m) hV
    have f2 : 0 ≤ (m 94 4).toInt ∧ (m 94 4).toInt ≤ 100 := rs_94_4 (m := m) hV
    have f3 : 0 ≤ (m 94 68).toInt ∧ (m 94 68).toInt ≤ 100 := rs_94_68 (m := m) hV
    have f4 : 0 ≤ (m 94 69).toInt ∧ (m 94 69).toInt ≤ 100 := rs_94_69 (m := m) hV
    have b5 := i_bd l5
    refine zd (fun (h6 : (m 94 69) ≤ l5) => ?_) (fun (h6 : ¬ (m 94 69) ≤ l5) => ?_)
    · skip
      have g7 := i_le h6
      have b8 := i_bd l3
      have li9 : (0 : Int32).toInt = 0 := rfl
      refine zd (fun (h10 : l3 = (0 : Int32)) => ?_) (fun (h10 : ¬ l3 = (0 : Int32)) => ?_)
      · skip
        have g11 := i_eq h10
        skip
        skip
        have hV12 : zV (ma_u m 94 71 l4) := uf_94_71 hV
        have hV13 : zV (ma_u (ma_u m 94 71 l4) 94 70 (m 94 68)) := us_94_70 hV12 (by omega) (by omega)
        have b14 := i_bd l4
        exact K ((0 : Int32)) _ (zF_u (zF_u hF rfl) rfl) hV13 (by decide) (show (m 94 67).toInt ≤ (m 94 4).toInt from by omega) (show (m 94 68).toInt + (m 94 69).toInt ≤ 100 from by omega) (show (0 : Int32).toInt = 1 → lo.toInt ≤ l4.toInt ∧ l4.toInt ≤ hi.toInt from by omega) (show (m 94 68).toInt + (m 94 69).toInt = (m 94 67).toInt from by omega) r_NT1 r_NT2 (show zNU (0 : Int32) l4.toInt (zNum (m 96) (m 94 68).toInt (m 94 67).toInt lo.toInt hi.toInt) (m 94 68).toInt (m 94 68).toInt from by first | (exact Or.inr ⟨by omega, GB_no r_GB (by omega) _ _, by omega⟩) | (exact Or.inr ⟨by omega, zNum_no (by omega), by have z := tk_end (by omega) r_NT1 r_NT2 (by omega); omega⟩) | (exact Or.inr ⟨by omega, zNum_out (GB_end r_GB (by omega) (by omega)) (by omega), by omega⟩) | (exact Or.inl ⟨by omega, (zNum_in (by omega) (GB_end r_GB (by omega) (by omega)) (by omega) (by omega) (by omega)).symm⟩) | (exfalso; omega; done) | (exfalso; contradiction; done))
      · skip
        have g15 := i_ne h10
        have b16 := i_bd l4
        have b17 := i_bd l1
        refine zd (fun (h18 : l4 < l1) => ?_) (fun (h18 : ¬ l4 < l1) => ?_)
        · skip
          have g19 := i_lt h18
          try have gbn := GB_nn r_GB (by omega)
          skip
          have hV20 : zV (ma_u m 94 71 l4) := uf_94_71 hV
          have hV21 : zV (ma_u (ma_u m 94 71 l4) 94 70 (m 94 68)) := us_94_70 hV20 (by omega) (by omega)
          exact K ((0 : Int32)) _ (zF_u (zF_u hF rfl) rfl) hV21 (by decide) (show (m 94 67).toInt ≤ (m 94 4).toInt from by omega) (show (m 94 68).toInt + (m 94 69).toInt ≤ 100 from by omega) (show (0 : Int32).toInt = 1 → lo.toInt ≤ l4.toInt ∧ l4.toInt ≤ hi.toInt from by omega) (show (m 94 68).toInt + (m 94 69).toInt = (m 94 67).toInt from by omega) r_NT1 r_NT2 (show zNU (0 : Int32) l4.toInt (zNum (m 96) (m 94 68).toInt (m 94 67).toInt lo.toInt hi.toInt) (m 94 68).toInt (m 94 68).toInt from by first | (exact Or.inr ⟨by omega, zNum_out (GB_end r_GB (by omega) (by omega)) (by omega), by omega⟩) | (exact Or.inr ⟨by omega, zNum_no (by omega), by have z := tk_end (by omega) r_NT1 r_NT2 (by omega); omega⟩) | (exact Or.inr ⟨by omega, GB_no r_GB (by omega) _ _, by omega⟩) | (exact Or.inl ⟨by omega, (zNum_in (by omega) (GB_end r_GB (by omega) (by omega)) (by omega) (by omega) (by omega)).symm⟩) | (exfalso; omega; done) | (exfalso; contradiction; done))
        · skip
          have g22 := i_nlt h18
          have b23 := i_bd l2
          refine zd (fun (h24 : l4 ≤ l2) => ?_) (fun (h24 : ¬ l4 ≤ l2) => ?_)
          · skip
            have g25 := i_le h24
            try have gbn := GB_nn r_GB (by omega)
            skip
            have hV26 : zV (ma_u m 94 71 l4) := uf_94_71 hV
            have li27 : (1 : Int32).toInt = 1 := rfl
            exact K ((1 : Int32)) _ (zF_u hF rfl) hV26 (by decide) (show (m 94 67).toInt ≤ (m 94 4).toInt from by omega) (show (m 94 68).toInt + (m 94 69).toInt ≤ 100 from by omega) (show (1 : Int32).toInt = 1 → lo.toInt ≤ l4.toInt ∧ l4.toInt ≤ hi.toInt from by omega) (show (m 94 68).toInt + (m 94 69).toInt = (m 94 67).toInt from by omega) r_NT1 r_NT2 (show zNU (1 : Int32) l4.toInt (zNum (m 96) (m 94 68).toInt (m 94 67).toInt lo.toInt hi.toInt) (m 94 70).toInt (m 94 68).toInt from by first | (exact Or.inl ⟨by omega, (zNum_in (by omega) (GB_end r_GB (by omega) (by omega)) (by omega) (by omega) (by omega)).symm⟩) | (exact Or.inr ⟨by omega, zNum_no (by omega), by have z := tk_end (by omega) r_NT1 r_NT2 (by omega); omega⟩) | (exact Or.inr ⟨by omega, GB_no r_GB (by omega) _ _, by omega⟩) | (exact Or.inr ⟨by omega, zNum_out (GB_end r_GB (by omega) (by omega)) (by omega), by omega⟩) | (exfalso; omega; done) | (exfalso; contradiction; done))
          · skip
            have g28 := i_nle h24
            try have gbn := GB_nn r_GB (by omega)
            skip
            have hV29 : zV (ma_u m 94 71 l4) := uf_94_71 hV
            have hV30 : zV (ma_u (ma_u m 94 71 l4) 94 70 (m 94 68)) := us_94_70 hV29 (by omega) (by omega)
            exact K ((0 : Int32)) _ (zF_u (zF_u hF rfl) rfl) hV30 (by decide) (show (m 94 67).toInt ≤ (m 94 4).toInt from by omega) (show (m 94 68).toInt + (m 94 69).toInt ≤ 100 from by omega) (show (0 : Int32).toInt = 1 → lo.toInt ≤ l4.toInt ∧ l4.toInt ≤ hi.toInt from by omega) (show (m 94 68).toInt + (m 94 69).toInt = (m 94 67).toInt from by omega) r_NT1 r_NT2 (show zNU (0 : Int32) l4.toInt (zNum (m 96) (m 94 68).toInt (m 94 67).toInt lo.toInt hi.toInt) (m 94 68).toInt (m 94 68).toInt from by first | (exact Or.inr ⟨by omega, zNum_out (GB_end r_GB (by omega) (by omega)) (by omega), by omega⟩) | (exact Or.inr ⟨by omega, zNum_no (by omega), by have z := tk_end (by omega) r_NT1 r_NT2 (by omega); omega⟩) | (exact Or.inr ⟨by omega, GB_no r_GB (by omega) _ _, by omega⟩) | (exact Or.inl ⟨by omega, (zNum_in (by omega) (GB_end r_GB (by omega) (by omega)) (by omega) (by omega) (by omega)).symm⟩) | (exfalso; omega; done) | (exfalso; contradiction; done))
    · skip
      have g31 := i_nle h6
      have b32 := i_bd l3
      have li33 : (0 : Int32).toInt = 0 := rfl
      refine zd (fun (h34 : l3 = (0 : Int32)) => ?_) (fun (h34 : ¬ l3 = (0 : Int32)) => ?_)
      · skip
        have g35 := i_eq h34
        refine zd (fun (h36 : l3 = (0 : Int32)) => ?_) (fun (h36 : ¬ l3 = (0 : Int32)) => ?_)
        · skip
          have g37 := i_eq h36
          skip
          skip
          have hV38 : zV (ma_u m 94 71 l4) := uf_94_71 hV
          have hV39 : zV (ma_u (ma_u m 94 71 l4) 94 70 (m 94 68)) := us_94_70 hV38 (by omega) (by omega)
          have b40 := i_bd l4
          exact K ((0 : Int32)) _ (zF_u (zF_u hF rfl) rfl) hV39 (by decide) (show (m 94 67).toInt ≤ (m 94 4).toInt from by omega) (show (m 94 68).toInt + (m 94 69).toInt ≤ 100 from by omega) (show (0 : Int32).toInt = 1 → lo.toInt ≤ l4.toInt ∧ l4.toInt ≤ hi.toInt from by omega) (show (m 94 68).toInt + (m 94 69).toInt = (m 94 67).toInt from by omega) r_NT1 r_NT2 (show zNU (0 : Int32) l4.toInt (zNum (m 96) (m 94 68).toInt (m 94 67).toInt lo.toInt hi.toInt) (m 94 68).toInt (m 94 68).toInt from by first | (exact Or.inr ⟨by omega, GB_no r_GB (by omega) _ _, by omega⟩) | (exact Or.inr ⟨by omega, zNum_no (by omega), by have z := tk_end (by omega) r_NT1 r_NT2 (by omega); omega⟩) | (exact Or.inr ⟨by omega, zNum_out (GB_end r_GB (by omega) (by omega)) (by omega), by omega⟩) | (exact Or.inl ⟨by omega, (zNum_in (by omega) (GB_end r_GB (by omega) (by omega)) (by omega) (by omega) (by omega)).symm⟩) | (exfalso; omega; done) | (exfalso; contradiction; done))
        · skip
          have g41 := i_ne h36
          have b42 := i_bd l4
          have b43 := i_bd l1
          refine zd (fun (h44 : l4 < l1) => ?_) (fun (h44 : ¬ l4 < l1) => ?_)
          · skip
            have g45 := i_lt h44
            try have gbn := GB_nn r_GB (by omega)
            try have gb4 := GB_4 r_GB (by omega) (by omega)
            have hV46 : zV (ma_u m 94 71 l4) := uf_94_71 hV
            have hV47 : zV (ma_u (ma_u m 94 71 l4) 94 70 (m 94 68)) := us_94_70 hV46 (by omega) (by omega)
            exact K ((0 : Int32)) _ (zF_u (zF_u hF rfl) rfl) hV47 (by decide) (show (m 94 67).toInt ≤ (m 94 4).toInt from by omega) (show (m 94 68).toInt + (m 94 69).toInt ≤ 100 from by omega) (show (0 : Int32).toInt = 1 → lo.toInt ≤ l4.toInt ∧ l4.toInt ≤ hi.toInt from by omega) (show (m 94 68).toInt + (m 94 69).toInt = (m 94 67).toInt from by omega) r_NT1 r_NT2 (show zNU (0 : Int32) l4.toInt (zNum (m 96) (m 94 68).toInt (m 94 67).toInt lo.toInt hi.toInt) (m 94 68).toInt (m 94 68).toInt from by first | (exact Or.inr ⟨by omega, zNum_no (by omega), by have z := tk_end (by omega) r_NT1 r_NT2 (by omega); omega⟩) | (exact Or.inr ⟨by omega, GB_no r_GB (by omega) _ _, by omega⟩) | (exact Or.inr ⟨by omega, zNum_out (GB_end r_GB (by omega) (by omega)) (by omega), by omega⟩) | (exact Or.inl ⟨by omega, (zNum_in (by omega) (GB_end r_GB (by omega) (by omega)) (by omega) (by omega) (by omega)).symm⟩) | (exfalso; omega; done) | (exfalso; contradiction; done))
          · skip
            have g48 := i_nlt h44
            have b49 := i_bd l2
            refine zd (fun (h50 : l4 ≤ l2) => ?_) (fun (h50 : ¬ l4 ≤ l2) => ?_)
            · skip
              have g51 := i_le h50
              try have gbn := GB_nn r_GB (by omega)
              try have gb4 := GB_4 r_GB (by omega) (by omega)
              have hV52 : zV (ma_u m 94 71 l4) := uf_94_71 hV
              have li53 : (1 : Int32).toInt = 1 := rfl
              exact K ((1 : Int32)) _ (zF_u hF rfl) hV52 (by decide) (show (m 94 67).toInt ≤ (m 94 4).toInt from by omega) (show (m 94 68).toInt + (m 94 69).toInt ≤ 100 from by omega) (show (1 : Int32).toInt = 1 → lo.toInt ≤ l4.toInt ∧ l4.toInt ≤ hi.toInt from by omega) (show (m 94 68).toInt + (m 94 69).toInt = (m 94 67).toInt from by omega) r_NT1 r_NT2 (show zNU (1 : Int32) l4.toInt (zNum (m 96) (m 94 68).toInt (m 94 67).toInt lo.toInt hi.toInt) (m 94 70).toInt (m 94 68).toInt from by first | (exact Or.inr ⟨by omega, zNum_no (by omega), by have z := tk_end (by omega) r_NT1 r_NT2 (by omega); omega⟩) | (exact Or.inr ⟨by omega, GB_no r_GB (by omega) _ _, by omega⟩) | (exact Or.inr ⟨by omega, zNum_out (GB_end r_GB (by omega) (by omega)) (by omega), by omega⟩) | (exact Or.inl ⟨by omega, (zNum_in (by omega) (GB_end r_GB (by omega) (by omega)) (by omega) (by omega) (by omega)).symm⟩) | (exfalso; omega; done) | (exfalso; contradiction; done))
            · skip
              have g54 := i_nle h50
              try have gbn := GB_nn r_GB (by omega)
              try have gb4 := GB_4 r_GB (by omega) (by omega)
              have hV55 : zV (ma_u m 94 71 l4) := uf_94_71 hV
              have hV56 : zV (ma_u (ma_u m 94 71 l4) 94 70 (m 94 68)) := us_94_70 hV55 (by omega) (by omega)
              exact K ((0 : Int32)) _ (zF_u (zF_u hF rfl) rfl) hV56 (by decide) (show (m 94 67).toInt ≤ (m 94 4).toInt from by omega) (show (m 94 68).toInt + (m 94 69).toInt ≤ 100 from by omega) (show (0 : Int32).toInt = 1 → lo.toInt ≤ l4.toInt ∧ l4.toInt ≤ hi.toInt from by omega) (show (m 94 68).toInt + (m 94 69).toInt = (m 94 67).toInt from by omega) r_NT1 r_NT2 (show zNU (0 : Int32) l4.toInt (zNum (m 96) (m 94 68).toInt (m 94 67).toInt lo.toInt hi.toInt) (m 94 68).toInt (m 94 68).toInt from by first | (exact Or.inr ⟨by omega, zNum_no (by omega), by have z := tk_end (by omega) r_NT1 r_NT2 (by omega); omega⟩) | (exact Or.inr ⟨by omega, GB_no r_GB (by omega) _ _, by omega⟩) | (exact Or.inr ⟨by omega, zNum_out (GB_end r_GB (by omega) (by omega)) (by omega), by omega⟩) | (exact Or.inl ⟨by omega, (zNum_in (by omega) (GB_end r_GB (by omega) (by omega)) (by omega) (by omega) (by omega)).symm⟩) | (exfalso; omega; done) | (exfalso; contradiction; done))
      · skip
        have g57 := i_ne h34
        first | have e58 : ((m 94 68) + l5).toInt = (m 94 68).toInt + l5.toInt := i_add (by omega) (by omega) | have b59 := i_bd ((m 94 68) + l5)
        have hg60 : (0 ≤ ((m 94 68) + l5) ∧ ((m 94 68) + l5).toNatClampNeg < 100) := i_ix (by omega) (by omega)
        refine ⟨hg60, ?_⟩
        have b61 := i_bd (m 96 ((m 94 68) + l5).toNatClampNeg)
        have li62 : (48 : Int32).toInt = 48 := rfl
        refine zd (fun (h63 : (m 96 ((m 94 68) + l5).toNatClampNeg) < (48 : Int32)) => ?_) (fun (h63 : ¬ (m 96 ((m 94 68) + l5).toNatClampNeg) < (48 : Int32)) => ?_)
        · skip
          have g64 := i_lt h63
          try have gbn := GB_nn r_GB (by omega)
          try have gb4 := GB_4 r_GB (by omega) (by omega)
          have b65 := i_bd l1
          have b66 := i_bd l2
          have li67 : (10 : Int32).toInt = 10 := rfl
          have b68 := i_bd l4
          first | have e69 : ((10 : Int32) * l4).toInt = 10 * l4.toInt := i_mulk2 rfl (by omega) (by omega) | have b70 := i_bd ((10 : Int32) * l4)
          first | have e71 : (((10 : Int32) * l4) + (m 96 ((m 94 68) + l5).toNatClampNeg)).toInt = ((10 : Int32) * l4).toInt + (m 96 ((m 94 68) + l5).toNatClampNeg).toInt := i_add (by omega) (by omega) | have b72 := i_bd (((10 : Int32) * l4) + (m 96 ((m 94 68) + l5).toNatClampNeg))
          first | have b74 := i_bd ((((10 : Int32) * l4) + (m 96 ((m 94 68) + l5).toNatClampNeg)) - (48 : Int32)) | have e73 : ((((10 : Int32) * l4) + (m 96 ((m 94 68) + l5).toNatClampNeg)) - (48 : Int32)).toInt = (((10 : Int32) * l4) + (m 96 ((m 94 68) + l5).toNatClampNeg)).toInt - (48) := i_subk rfl (by omega) (by omega)
          first | have e75 : (l5 + (1 : Int32)).toInt = l5.toInt + (1) := i_addk rfl (by omega) (by omega) | have b76 := i_bd (l5 + (1 : Int32))
          exact IH (100 - (l5 + (1 : Int32)).toInt).toNat (by omega) _ (l1) (l2) ((0 : Int32)) (((((10 : Int32) * l4) + (m 96 ((m 94 68) + l5).toNatClampNeg)) - (48 : Int32))) ((l5 + (1 : Int32))) rfl hF hV (by omega) (by omega) (by omega) (by omega) (by omega) (show (m 94 67).toInt ≤ (m 94 4).toInt from by omega) (show (m 94 68).toInt + (m 94 69).toInt ≤ 100 from by omega) (show (m 94 68).toInt + (m 94 69).toInt = (m 94 67).toInt from by omega) (show 1 ≤ (m 94 69).toInt from by omega) r_NT1 r_NT2 (show zGB (m 96) (m 94 68).toInt (m 94 67).toInt (0 : Int32).toInt ((((10 : Int32) * l4) + (m 96 ((m 94 68) + l5).toNatClampNeg)) - (48 : Int32)).toInt (l5 + (1 : Int32)).toInt from by first | (exact GB_bad r_GB (by omega) (by omega) (x := (m 96 ((m 94 68) + l5).toNatClampNeg)) (congrArg (m 96) (congrArg Int.toNat (show ((m 94 68) + l5).toInt = (m 94 68).toInt + l5.toInt from by omega))) (by omega) (by omega)) | (exact GB_go r_GB (by omega) (by omega) (by omega) (x := (m 96 ((m 94 68) + l5).toNatClampNeg)) (congrArg (m 96) (congrArg Int.toNat (show ((m 94 68) + l5).toInt = (m 94 68).toInt + l5.toInt from by omega))) (by omega) (by omega) (by omega) (by omega) (by omega)) | (exfalso; omega; done) | (exfalso; contradiction; done))
        · skip
          have g77 := i_nlt h63
          have li78 : (57 : Int32).toInt = 57 := rfl
          refine zd (fun (h79 : (57 : Int32) < (m 96 ((m 94 68) + l5).toNatClampNeg)) => ?_) (fun (h79 : ¬ (57 : Int32) < (m 96 ((m 94 68) + l5).toNatClampNeg)) => ?_)
          · skip
            have g80 := i_lt h79
            try have gbn := GB_nn r_GB (by omega)
            try have gb4 := GB_4 r_GB (by omega) (by omega)
            have b81 := i_bd l1
            have b82 := i_bd l2
            have li83 : (10 : Int32).toInt = 10 := rfl
            have b84 := i_bd l4
            first | have e85 : ((10 : Int32) * l4).toInt = 10 * l4.toInt := i_mulk2 rfl (by omega) (by omega) | have b86 := i_bd ((10 : Int32) * l4)
            first | have b88 := i_bd (((10 : Int32) * l4) + (m 96 ((m 94 68) + l5).toNatClampNeg)) | have e87 : (((10 : Int32) * l4) + (m 96 ((m 94 68) + l5).toNatClampNeg)).toInt = ((10 : Int32) * l4).toInt + (m 96 ((m 94 68) + l5).toNatClampNeg).toInt := i_add (by omega) (by omega)
            first | have b90 := i_bd ((((10 : Int32) * l4) + (m 96 ((m 94 68) + l5).toNatClampNeg)) - (48 : Int32)) | have e89 : ((((10 : Int32) * l4) + (m 96 ((m 94 68) + l5).toNatClampNeg)) - (48 : Int32)).toInt = (((10 : Int32) * l4) + (m 96 ((m 94 68) + l5).toNatClampNeg)).toInt - (48) := i_subk rfl (by omega) (by omega)
            first | have e91 : (l5 + (1 : Int32)).toInt = l5.toInt + (1) := i_addk rfl (by omega) (by omega) | have b92 := i_bd (l5 + (1 : Int32))
            exact IH (100 - (l5 + (1 : Int32)).toInt).toNat (by omega) _ (l1) (l2) ((0 : Int32)) (((((10 : Int32) * l4) + (m 96 ((m 94 68) + l5).toNatClampNeg)) - (48 : Int32))) ((l5 + (1 : Int32))) rfl hF hV (by omega) (by omega) (by omega) (by omega) (by omega) (show (m 94 67).toInt ≤ (m 94 4).toInt from by omega) (show (m 94 68).toInt + (m 94 69).toInt ≤ 100 from by omega) (show (m 94 68).toInt + (m 94 69).toInt = (m 94 67).toInt from by omega) (show 1 ≤ (m 94 69).toInt from by omega) r_NT1 r_NT2 (show zGB (m 96) (m 94 68).toInt (m 94 67).toInt (0 : Int32).toInt ((((10 : Int32) * l4) + (m 96 ((m 94 68) + l5).toNatClampNeg)) - (48 : Int32)).toInt (l5 + (1 : Int32)).toInt from by first | (exact GB_bad r_GB (by omega) (by omega) (x := (m 96 ((m 94 68) + l5).toNatClampNeg)) (congrArg (m 96) (congrArg Int.toNat (show ((m 94 68) + l5).toInt = (m 94 68).toInt + l5.toInt from by omega))) (by omega) (by omega)) | (exact GB_go r_GB (by omega) (by omega) (by omega) (x := (m 96 ((m 94 68) + l5).toNatClampNeg)) (congrArg (m 96) (congrArg Int.toNat (show ((m 94 68) + l5).toInt = (m 94 68).toInt + l5.toInt from by omega))) (by omega) (by omega) (by omega) (by omega) (by omega)) | (exfalso; omega; done) | (exfalso; contradiction; done))
          · skip
            have g93 := i_nlt h79
            try have gbn := GB_nn r_GB (by omega)
            try have gb4 := GB_4 r_GB (by omega) (by omega)
            have b94 := i_bd l1
            have b95 := i_bd l2
            have li96 : (1 : Int32).toInt = 1 := rfl
            have li97 : (10 : Int32).toInt = 10 := rfl
            have b98 := i_bd l4
            first | have e99 : ((10 : Int32) * l4).toInt = 10 * l4.toInt := i_mulk2 rfl (by omega) (by omega) | have b100 := i_bd ((10 : Int32) * l4)
            first | have e101 : (((10 : Int32) * l4) + (m 96 ((m 94 68) + l5).toNatClampNeg)).toInt = ((10 : Int32) * l4).toInt + (m 96 ((m 94 68) + l5).toNatClampNeg).toInt := i_add (by omega) (by omega) | have b102 := i_bd (((10 : Int32) * l4) + (m 96 ((m 94 68) + l5).toNatClampNeg))
            first | have e103 : ((((10 : Int32) * l4) + (m 96 ((m 94 68) + l5).toNatClampNeg)) - (48 : Int32)).toInt = (((10 : Int32) * l4) + (m 96 ((m 94 68) + l5).toNatClampNeg)).toInt - (48) := i_subk rfl (by omega) (by omega) | have b104 := i_bd ((((10 : Int32) * l4) + (m 96 ((m 94 68) + l5).toNatClampNeg)) - (48 : Int32))
            first | have e105 : (l5 + (1 : Int32)).toInt = l5.toInt + (1) := i_addk rfl (by omega) (by omega) | have b106 := i_bd (l5 + (1 : Int32))
            exact IH (100 - (l5 + (1 : Int32)).toInt).toNat (by omega) _ (l1) (l2) ((1 : Int32)) (((((10 : Int32) * l4) + (m 96 ((m 94 68) + l5).toNatClampNeg)) - (48 : Int32))) ((l5 + (1 : Int32))) rfl hF hV (by omega) (by omega) (by omega) (by omega) (by omega) (show (m 94 67).toInt ≤ (m 94 4).toInt from by omega) (show (m 94 68).toInt + (m 94 69).toInt ≤ 100 from by omega) (show (m 94 68).toInt + (m 94 69).toInt = (m 94 67).toInt from by omega) (show 1 ≤ (m 94 69).toInt from by omega) r_NT1 r_NT2 (show zGB (m 96) (m 94 68).toInt (m 94 67).toInt (1 : Int32).toInt ((((10 : Int32) * l4) + (m 96 ((m 94 68) + l5).toNatClampNeg)) - (48 : Int32)).toInt (l5 + (1 : Int32)).toInt from by first | (exact GB_go r_GB (by omega) (by omega) (by omega) (x := (m 96 ((m 94 68) + l5).toNatClampNeg)) (congrArg (m 96) (congrArg Int.toNat (show ((m 94 68) + l5).toInt = (m 94 68).toInt + l5.toInt from by omega))) (by omega) (by omega) (by omega) (by omega) (by omega)) | (exact GB_bad r_GB (by omega) (by omega) (x := (m 96 ((m 94 68) + l5).toNatClampNeg)) (congrArg (m 96) (congrArg Int.toNat (show ((m 94 68) + l5).toInt = (m 94 68).toInt + l5.toInt from by omega))) (by omega) (by omega)) | (exfalso; omega; done) | (exfalso; contradiction; done))
theorem sp_177n {X : Nat × (Nat → Int32)} {P : Option ma_V → (Nat → Nat → Int32) → Prop} {m : Nat → Nat → Int32} (lo : Int32) (hi : Int32) (hV : zV m) (hpre0 : (m 94 67).toInt ≤ (m 94 4).toInt) (KZ : ∀ v m₉, zV (zov wr_177 m m₉) → (v = 0 ∨ v = 1) → ((m₉ 94 67).toInt ≤ (m 94 4).toInt) → ((m₉ 94 68).toInt + (m₉ 94 69).toInt ≤ 100) → (v.toInt = 1 → lo.toInt ≤ (m₉ 94 71).toInt ∧ (m₉ 94 71).toInt ≤ hi.toInt) → ((m₉ 94 68).toInt + (m₉ 94 69).toInt = (m₉ 94 67).toInt) → ((m₉ 94 68).toInt = tk true (m 96) (m 94 4).toInt (m 94 67).toInt) → ((m₉ 94 67).toInt = tk false (m 96) (m 94 4).toInt (m₉ 94 68).toInt) → (zNU v (m₉ 94 71).toInt (zNum (m 96) (m₉ 94 68).toInt (m₉ 94 67).toInt lo.toInt hi.toInt) (m₉ 94 70).toInt (m₉ 94 68).toInt) → P (some (.inl v)) (zov wr_177 m m₉)) : zm X 1 21 177 0 [(0, .inr (.inr (some 94))), (1, .inl lo), (2, .inl hi)] m P := by
  have K : ∀ v m₉, zF wr_177 m m₉ → zV m₉ → (v = 0 ∨ v = 1) → ((m₉ 94 67).toInt ≤ (m₉ 94 4).toInt) → ((m₉ 94 68).toInt + (m₉ 94 69).toInt ≤ 100) → (v.toInt = 1 → lo.toInt ≤ (m₉ 94 71).toInt ∧ (m₉ 94 71).toInt ≤ hi.toInt) → ((m₉ 94 68).toInt + (m₉ 94 69).toInt = (m₉ 94 67).toInt) → ((m₉ 94 68).toInt = tk true (m₉ 96) (m₉ 94 4).toInt (m 94 67).toInt) → ((m₉ 94 67).toInt = tk false (m₉ 96) (m₉ 94 4).toInt (m₉ 94 68).toInt) → (zNU v (m₉ 94 71).toInt (zNum (m₉ 96) (m₉ 94 68).toInt (m₉ 94 67).toInt lo.toInt hi.toInt) (m₉ 94 70).toInt (m₉ 94 68).toInt) → P (some (.inl v)) m₉ := by
    intro v m₉ hf z q0 q1 q2 q3 q4 q5 q6 q7
    have e := zov_eq hf
    rw [e] at z ⊢
    skip
    try rw [e] at q1
    try rw [e] at q2
    try rw [e] at q3
    try rw [e] at q4
    try rw [e] at q5
    try rw [e] at q6
    try rw [e] at q7
    exact KZ v m₉ z q0 q1 q2 q3 q4 q5 q6 q7
  refine g_177_0 lo hi ?_
  have f1 : 0 ≤ (m 94 67).toInt ∧ (m 94 67).toInt ≤ 100 := rs_94_67 (m := m) hV
  have f2 : 0 ≤ (m 94 4).toInt ∧ (m 94 4).toInt ≤ 100 := rs_94_4 (m := m) hV
  refine sp_173n  hV (show (m 94 67).toInt ≤ (m 94 4).toInt from by omega) (fun v2 m1 hV_m1 hb_m1 p0_m1 p1_m1 p2_m1 p3_m1 p4_m1 => zmi_n ?_)
  have p0_m1 : (m1 94 67).toInt ≤ (m 94 4).toInt := p0_m1
  have p1_m1 : (m1 94 68).toInt + (m1 94 69).toInt = (m1 94 67).toInt := p1_m1
  have p2_m1 : (v2.toInt = 1 ∧ 1 ≤ (m1 94 69).toInt) ∨ (v2.toInt = 0 ∧ (m1 94 69).toInt = 0) := p2_m1
  have p3_m1 : (m1 94 68).toInt = tk true (m 96) (m 94 4).toInt (m 94 67).toInt := p3_m1
  have p4_m1 : (m1 94 67).toInt = tk false (m 96) (m 94 4).toInt (m1 94 68).toInt := p4_m1
  have f3 : 0 ≤ (m1 94 67).toInt ∧ (m1 94 67).toInt ≤ 100 := rs_94_67 (m := (zov wr_173 m m1)) hV_m1
  have f4 : 0 ≤ (m1 94 68).toInt ∧ (m1 94 68).toInt ≤ 100 := rs_94_68 (m := (zov wr_173 m m1)) hV_m1
  have f5 : 0 ≤ (m1 94 69).toInt ∧ (m1 94 69).toInt ≤ 100 := rs_94_69 (m := (zov wr_173 m m1)) hV_m1
  have f6 := i_01 hb_m1
  have li7 : (0 : Int32).toInt = 0 := rfl
  refine zd (fun (h8 : v2 = (0 : Int32)) => ?_) (fun (h8 : ¬ v2 = (0 : Int32)) => ?_)
  · skip
    have g9 := i_eq h8
    have hV10 : zV (ma_u (zov wr_173 m m1) 94 70 (m 94 4)) := us_94_70 hV_m1 (by omega) (by omega)
    have b11 := i_bd (m 94 71)
    exact K ((0 : Int32)) _ (zF_u (zF_zov zF_rfl ws_173_177) rfl) hV10 (by decide) (show (m1 94 67).toInt ≤ (m 94 4).toInt from by omega) (show (m1 94 68).toInt + (m1 94 69).toInt ≤ 100 from by omega) (show (0 : Int32).toInt = 1 → lo.toInt ≤ (m 94 71).toInt ∧ (m 94 71).toInt ≤ hi.toInt from by omega) (show (m1 94 68).toInt + (m1 94 69).toInt = (m1 94 67).toInt from by omega) p3_m1 p4_m1 (show zNU (0 : Int32) (m 94 71).toInt (zNum (m 96) (m1 94 68).toInt (m1 94 67).toInt lo.toInt hi.toInt) (m 94 4).toInt (m1 94 68).toInt from by first | (exact Or.inr ⟨by omega, zNum_no (by omega), by have z := tk_end (by omega) p3_m1 p4_m1 (by omega); omega⟩) | (exfalso; omega; done) | (exfalso; contradiction; done))
  · skip
    have g12 := i_ne h8
    have li13 : (5 : Int32).toInt = 5 := rfl
    refine zd (fun (h14 : (5 : Int32) < (m1 94 69)) => ?_) (fun (h14 : ¬ (5 : Int32) < (m1 94 69)) => ?_)
    · skip
      have g15 := i_lt h14
      have b16 := i_bd lo
      have b17 := i_bd hi
      exact lp_177n_36 (lo := lo) (hi := hi) hV K _ _ (lo) (hi) ((0 : Int32)) ((0 : Int32)) ((0 : Int32)) rfl (zF_zov zF_rfl ws_173_177) hV_m1 (by omega) (by omega) (by omega) (by omega) (by omega) (show (m1 94 67).toInt ≤ (m 94 4).toInt from by omega) (show (m1 94 68).toInt + (m1 94 69).toInt ≤ 100 from by omega) (show (m1 94 68).toInt + (m1 94 69).toInt = (m1 94 67).toInt from by omega) (show 1 ≤ (m1 94 69).toInt from by omega) p3_m1 p4_m1 (show zGB (m 96) (m1 94 68).toInt (m1 94 67).toInt (0 : Int32).toInt (0 : Int32).toInt (0 : Int32).toInt from by first | (exact GB_0 (by omega) (by omega)) | (exact GB_1 (by omega) (by omega) (by omega) (by omega)) | (exfalso; omega; done) | (exfalso; contradiction; done))
    · skip
      have g18 := i_nlt h14
      have b19 := i_bd lo
      have b20 := i_bd hi
      have li21 : (1 : Int32).toInt = 1 := rfl
      exact lp_177n_36 (lo := lo) (hi := hi) hV K _ _ (lo) (hi) ((1 : Int32)) ((0 : Int32)) ((0 : Int32)) rfl (zF_zov zF_rfl ws_173_177) hV_m1 (by omega) (by omega) (by omega) (by omega) (by omega) (show (m1 94 67).toInt ≤ (m 94 4).toInt from by omega) (show (m1 94 68).toInt + (m1 94 69).toInt ≤ 100 from by omega) (show (m1 94 68).toInt + (m1 94 69).toInt = (m1 94 67).toInt from by omega) (show 1 ≤ (m1 94 69).toInt from by omega) p3_m1 p4_m1 (show zGB (m 96) (m1 94 68).toInt (m1 94 67).toInt (1 : Int32).toInt (0 : Int32).toInt (0 : Int32).toInt from by first | (exact GB_1 (by omega) (by omega) (by omega) (by omega)) | (exact GB_0 (by omega) (by omega)) | (exfalso; omega; done) | (exfalso; contradiction; done))
theorem sp_179n {X : Nat × (Nat → Int32)} {P : Option ma_V → (Nat → Nat → Int32) → Prop} {m : Nat → Nat → Int32}  (hV : zV m) (hpre0 : (m 94 67).toInt ≤ (m 94 4).toInt) (KZ : ∀ v m₉, zV (zov wr_179 m m₉) → (v = 0 ∨ v = 1) → ((m₉ 94 67).toInt ≤ (m 94 4).toInt) → ((m₉ 94 68).toInt + (m₉ 94 69).toInt = (m₉ 94 67).toInt) → ((m₉ 94 68).toInt = tk true (m 96) (m 94 4).toInt (m 94 67).toInt) → ((m₉ 94 67).toInt = tk false (m 96) (m 94 4).toInt (m₉ 94 68).toInt) → (zFO v (m₉ 94 22).toInt (zForm (m 96) (m₉ 94 68) (m₉ 94 69).toInt) (m₉ 94 70).toInt (m₉ 94 68).toInt) → P (some (.inl v)) (zov wr_179 m m₉)) : zm X 2 50 179 0 [(0, .inr (.inr (some 94)))] m P := by
  have K : ∀ v m₉, zF wr_179 m m₉ → zV m₉ → (v = 0 ∨ v = 1) → ((m₉ 94 67).toInt ≤ (m₉ 94 4).toInt) → ((m₉ 94 68).toInt + (m₉ 94 69).toInt = (m₉ 94 67).toInt) → ((m₉ 94 68).toInt = tk true (m₉ 96) (m₉ 94 4).toInt (m 94 67).toInt) → ((m₉ 94 67).toInt = tk false (m₉ 96) (m₉ 94 4).toInt (m₉ 94 68).toInt) → (zFO v (m₉ 94 22).toInt (zForm (m₉ 96) (m₉ 94 68) (m₉ 94 69).toInt) (m₉ 94 70).toInt (m₉ 94 68).toInt) → P (some (.inl v)) m₉ := by
    intro v m₉ hf z q0 q1 q2 q3 q4 q5
    have e := zov_eq hf
    rw [e] at z ⊢
    skip
    try rw [e] at q1
    try rw [e] at q2
    try rw [e] at q3
    try rw [e] at q4
    try rw [e] at q5
    exact KZ v m₉ z q0 q1 q2 q3 q4 q5
  refine g_179_0  ?_
  have f1 : 0 ≤ (m 94 67).toInt ∧ (m 94 67).toInt ≤ 100 := rs_94_67 (m := m) hV
  have f2 : 0 ≤ (m 94 4).toInt ∧ (m 94 4).toInt ≤ 100 := rs_94_4 (m := m) hV
  refine sp_173n  hV (show (m 94 67).toInt ≤ (m 94 4).toInt from by omega) (fun v2 m1 hV_m1 hb_m1 p0_m1 p1_m1 p2_m1 p3_m1 p4_m1 => zmi_n ?_)
  have p0_m1 : (m1 94 67).toInt ≤ (m 94 4).toInt := p0_m1
  have p1_m1 : (m1 94 68).toInt + (m1 94 69).toInt = (m1 94 67).toInt := p1_m1
  have p2_m1 : (v2.toInt = 1 ∧ 1 ≤ (m1 94 69).toInt) ∨ (v2.toInt = 0 ∧ (m1 94 69).toInt = 0) := p2_m1
  have p3_m1 : (m1 94 68).toInt = tk true (m 96) (m 94 4).toInt (m 94 67).toInt := p3_m1
  have p4_m1 : (m1 94 67).toInt = tk false (m 96) (m 94 4).toInt (m1 94 68).toInt := p4_m1
  have f3 : 0 ≤ (m1 94 67).toInt ∧ (m1 94 67).toInt ≤ 100 := rs_94_67 (m := (zov wr_173 m m1)) hV_m1
  have f4 : 0 ≤ (m1 94 68).toInt ∧ (m1 94 68).toInt ≤ 100 := rs_94_68 (m := (zov wr_173 m m1)) hV_m1
  have f5 : 0 ≤ (m1 94 69).toInt ∧ (m1 94 69).toInt ≤ 100 := rs_94_69 (m := (zov wr_173 m m1)) hV_m1
  have f6 := i_01 hb_m1
  have li7 : (0 : Int32).toInt = 0 := rfl
  refine zd (fun (h8 : v2 = (0 : Int32)) => ?_) (fun (h8 : ¬ v2 = (0 : Int32)) => ?_)
  · skip
    have g9 := i_eq h8
    have hV10 : zV (ma_u (zov wr_173 m m1) 94 70 (m 94 4)) := us_94_70 hV_m1 (by omega) (by omega)
    exact K ((0 : Int32)) _ (zF_u (zF_zov zF_rfl ws_173_179) rfl) hV10 (by decide) (show (m1 94 67).toInt ≤ (m 94 4).toInt from by omega) (show (m1 94 68).toInt + (m1 94 69).toInt = (m1 94 67).toInt from by omega) p3_m1 p4_m1 (show zFO (0 : Int32) (m 94 22).toInt (zForm (m 96) (m1 94 68) (m1 94 69).toInt) (m 94 4).toInt (m1 94 68).toInt from by first | (exact Or.inr ⟨by omega, zForm_0 (by omega), by have z := tk_end (by omega) p3_m1 p4_m1 (by omega); omega⟩) | (exfalso; omega; done) | (exfalso; contradiction; done))
  · skip
    have g11 := i_ne h8
    have li12 : (102 : Int32).toInt = 102 := rfl
    have li13 : (105 : Int32).toInt = 105 := rfl
    have li14 : (114 : Int32).toInt = 114 := rfl
    have li15 : (115 : Int32).toInt = 115 := rfl
    have li16 : (116 : Int32).toInt = 116 := rfl
    refine sp_175n ((102 : Int32)) ((105 : Int32)) ((114 : Int32)) ((115 : Int32)) ((116 : Int32)) ((0 : Int32)) ((0 : Int32)) hV_m1 (show (m1 94 68).toInt + (m1 94 69).toInt ≤ 100 from by omega) (fun v4 m3 hV_m3 hb_m3 p0_m3 => zmi_n ?_)
    have p0_m3 : zZW v4 (zwd (m 96) (m1 94 68) (m1 94 69).toInt (102 : Int32) (105 : Int32) (114 : Int32) (115 : Int32) (116 : Int32) (0 : Int32) (0 : Int32)) := p0_m3
    have f17 := i_01 hb_m3
    refine zd (fun (h18 : v4 = (0 : Int32)) => ?_) (fun (h18 : ¬ v4 = (0 : Int32)) => ?_)
    · skip
      have g19 := i_eq h18
      have li20 : (110 : Int32).toInt = 110 := rfl
      have li21 : (101 : Int32).toInt = 101 := rfl
      have li22 : (120 : Int32).toInt = 120 := rfl
      refine sp_175n ((110 : Int32)) ((101 : Int32)) ((120 : Int32)) ((116 : Int32)) ((0 : Int32)) ((0 : Int32)) ((0 : Int32)) hV_m3 (show (m1 94 68).toInt + (m1 94 69).toInt ≤ 100 from by omega) (fun v6 m5 hV_m5 hb_m5 p0_m5 => zmi_n ?_)
      have p0_m5 : zZW v6 (zwd (m 96) (m1 94 68) (m1 94 69).toInt (110 : Int32) (101 : Int32) (120 : Int32) (116 : Int32) (0 : Int32) (0 : Int32) (0 : Int32)) := p0_m5
      have f23 := i_01 hb_m5
      refine zd (fun (h24 : v6 = (0 : Int32)) => ?_) (fun (h24 : ¬ v6 = (0 : Int32)) => ?_)
      · skip
        have g25 := i_eq h24
        have li26 : (98 : Int32).toInt = 98 := rfl
        refine sp_175n ((98 : Int32)) ((101 : Int32)) ((115 : Int32)) ((116 : Int32)) ((0 : Int32)) ((0 : Int32)) ((0 : Int32)) hV_m5 (show (m1 94 68).toInt + (m1 94 69).toInt ≤ 100 from by omega) (fun v8 m7 hV_m7 hb_m7 p0_m7 => zmi_n ?_)
        have p0_m7 : zZW v8 (zwd (m 96) (m1 94 68) (m1 94 69).toInt (98 : Int32) (101 : Int32) (115 : Int32) (116 : Int32) (0 : Int32) (0 : Int32) (0 : Int32)) := p0_m7
        have f27 := i_01 hb_m7
        refine zd (fun (h28 : v8 = (0 : Int32)) => ?_) (fun (h28 : ¬ v8 = (0 : Int32)) => ?_)
        · skip
          have g29 := i_eq h28
          have li30 : (119 : Int32).toInt = 119 := rfl
          have li31 : (111 : Int32).toInt = 111 := rfl
          refine sp_175n ((119 : Int32)) ((111 : Int32)) ((114 : Int32)) ((115 : Int32)) ((116 : Int32)) ((0 : Int32)) ((0 : Int32)) hV_m7 (show (m1 94 68).toInt + (m1 94 69).toInt ≤ 100 from by omega) (fun v10 m9 hV_m9 hb_m9 p0_m9 => zmi_n ?_)
          have p0_m9 : zZW v10 (zwd (m 96) (m1 94 68) (m1 94 69).toInt (119 : Int32) (111 : Int32) (114 : Int32) (115 : Int32) (116 : Int32) (0 : Int32) (0 : Int32)) := p0_m9
          have f32 := i_01 hb_m9
          refine zd (fun (h33 : v10 = (0 : Int32)) => ?_) (fun (h33 : ¬ v10 = (0 : Int32)) => ?_)
          · skip
            have g34 := i_eq h33
            have hV35 : zV (ma_u (zov wr_175 (zov wr_175 (zov wr_175 (zov wr_175 (zov wr_173 m m1) m3) m5) m7) m9) 94 22 (-1 : Int32)) := uf_94_22 hV_m9
            have hV36 : zV (ma_u (ma_u (zov wr_175 (zov wr_175 (zov wr_175 (zov wr_175 (zov wr_173 m m1) m3) m5) m7) m9) 94 22 (-1 : Int32)) 94 70 (m1 94 68)) := us_94_70 hV35 (by omega) (by omega)
            exact K ((0 : Int32)) _ (zF_u (zF_u (zF_zov (zF_zov (zF_zov (zF_zov (zF_zov zF_rfl ws_173_179) ws_175_179) ws_175_179) ws_175_179) ws_175_179) rfl) rfl) hV36 (by decide) (show (m1 94 67).toInt ≤ (m 94 4).toInt from by omega) (show (m1 94 68).toInt + (m1 94 69).toInt = (m1 94 67).toInt from by omega) p3_m1 p4_m1 (show zFO (0 : Int32) (-1 : Int32).toInt (zForm (m 96) (m1 94 68) (m1 94 69).toInt) (m1 94 68).toInt (m1 94 68).toInt from by first | (exact Or.inr ⟨by omega, by (unfold zForm; rw [if_neg (zno p0_m3 (by assumption)), if_neg (zno p0_m5 (by assumption)), if_neg (zno p0_m7 (by assumption)), if_neg (zno p0_m9 (by assumption))]), by omega⟩) | (exact Or.inr ⟨by omega, by (unfold zForm; rw [if_neg (zno p0_m3 (by assumption)), if_neg (zno p0_m5 (by assumption)), if_neg (zno p0_m7 (by assumption)), if_neg (zno p0_m9 (by assumption))]; rfl), by omega⟩) | (exfalso; omega; done) | (exfalso; contradiction; done))
          · skip
            have g37 := i_ne h33
            have hV38 : zV (ma_u (zov wr_175 (zov wr_175 (zov wr_175 (zov wr_175 (zov wr_173 m m1) m3) m5) m7) m9) 94 22 (3 : Int32)) := uf_94_22 hV_m9
            have li39 : (1 : Int32).toInt = 1 := rfl
            exact K ((1 : Int32)) _ (zF_u (zF_zov (zF_zov (zF_zov (zF_zov (zF_zov zF_rfl ws_173_179) ws_175_179) ws_175_179) ws_175_179) ws_175_179) rfl) hV38 (by decide) (show (m1 94 67).toInt ≤ (m 94 4).toInt from by omega) (show (m1 94 68).toInt + (m1 94 69).toInt = (m1 94 67).toInt from by omega) p3_m1 p4_m1 (show zFO (1 : Int32) (3 : Int32).toInt (zForm (m 96) (m1 94 68) (m1 94 69).toInt) (m 94 70).toInt (m1 94 68).toInt from by first | (exact Or.inl ⟨by omega, by (unfold zForm; rw [if_neg (zno p0_m3 (by assumption)), if_neg (zno p0_m5 (by assumption)), if_neg (zno p0_m7 (by assumption)), if_pos (zyes p0_m9 (by assumption))]; first | rfl | done), by decide⟩) | (exact Or.inl ⟨by omega, by (unfold zForm; rw [if_neg (zno p0_m3 (by assumption)), if_neg (zno p0_m5 (by assumption)), if_neg (zno p0_m7 (by assumption)), if_pos (zyes p0_m9 (by assumption))]), by decide⟩) | (exfalso; omega; done) | (exfalso; contradiction; done))
        · skip
          have g40 := i_ne h28
          have hV41 : zV (ma_u (zov wr_175 (zov wr_175 (zov wr_175 (zov wr_173 m m1) m3) m5) m7) 94 22 (2 : Int32)) := uf_94_22 hV_m7
          have li42 : (1 : Int32).toInt = 1 := rfl
          exact K ((1 : Int32)) _ (zF_u (zF_zov (zF_zov (zF_zov (zF_zov zF_rfl ws_173_179) ws_175_179) ws_175_179) ws_175_179) rfl) hV41 (by decide) (show (m1 94 67).toInt ≤ (m 94 4).toInt from by omega) (show (m1 94 68).toInt + (m1 94 69).toInt = (m1 94 67).toInt from by omega) p3_m1 p4_m1 (show zFO (1 : Int32) (2 : Int32).toInt (zForm (m 96) (m1 94 68) (m1 94 69).toInt) (m 94 70).toInt (m1 94 68).toInt from by first | (exact Or.inl ⟨by omega, by (unfold zForm; rw [if_neg (zno p0_m3 (by assumption)), if_neg (zno p0_m5 (by assumption)), if_pos (zyes p0_m7 (by assumption))]; first | rfl | done), by decide⟩) | (exact Or.inl ⟨by omega, by (unfold zForm; rw [if_neg (zno p0_m3 (by assumption)), if_neg (zno p0_m5 (by assumption)), if_pos (zyes p0_m7 (by assumption))]), by decide⟩) | (exfalso; omega; done) | (exfalso; contradiction; done))
      · skip
        have g43 := i_ne h24
        have hV44 : zV (ma_u (zov wr_175 (zov wr_175 (zov wr_173 m m1) m3) m5) 94 22 (1 : Int32)) := uf_94_22 hV_m5
        have li45 : (1 : Int32).toInt = 1 := rfl
        exact K ((1 : Int32)) _ (zF_u (zF_zov (zF_zov (zF_zov zF_rfl ws_173_179) ws_175_179) ws_175_179) rfl) hV44 (by decide) (show (m1 94 67).toInt ≤ (m 94 4).toInt from by omega) (show (m1 94 68).toInt + (m1 94 69).toInt = (m1 94 67).toInt from by omega) p3_m1 p4_m1 (show zFO (1 : Int32) (1 : Int32).toInt (zForm (m 96) (m1 94 68) (m1 94 69).toInt) (m 94 70).toInt (m1 94 68).toInt from by first | (exact Or.inl ⟨by omega, by (unfold zForm; rw [if_neg (zno p0_m3 (by assumption)), if_pos (zyes p0_m5 (by assumption))]; first | rfl | done), by decide⟩) | (exact Or.inl ⟨by omega, by (unfold zForm; rw [if_neg (zno p0_m3 (by assumption)), if_pos (zyes p0_m5 (by assumption))]), by decide⟩) | (exfalso; omega; done) | (exfalso; contradiction; done))
    · skip
      have g46 := i_ne h18
      have hV47 : zV (ma_u (zov wr_175 (zov wr_173 m m1) m3) 94 22 (0 : Int32)) := uf_94_22 hV_m3
      have li48 : (1 : Int32).toInt = 1 := rfl
      exact K ((1 : Int32)) _ (zF_u (zF_zov (zF_zov zF_rfl ws_173_179) ws_175_179) rfl) hV47 (by decide) (show (m1 94 67).toInt ≤ (m 94 4).toInt from by omega) (show (m1 94 68).toInt + (m1 94 69).toInt = (m1 94 67).toInt from by omega) p3_m1 p4_m1 (show zFO (1 : Int32) (0 : Int32).toInt (zForm (m 96) (m1 94 68) (m1 94 69).toInt) (m 94 70).toInt (m1 94 68).toInt from by first | (exact Or.inl ⟨by omega, by (unfold zForm; rw [if_pos (zyes p0_m3 (by assumption))]; first | rfl | done), by decide⟩) | (exact Or.inl ⟨by omega, by (unfold zForm; rw [if_pos (zyes p0_m3 (by assumption))]), by decide⟩) | (exfalso; omega; done) | (exfalso; contradiction; done))

/-! from 95.e03 -/
/-! the reference: texts (written by wip/tools/gen94n.py) -/
theorem sp_178n {X : Nat × (Nat → Int32)} {P : Option ma_V → (Nat → Nat → Int32) → Prop} {m : Nat → Nat → Int32}  (hV : zV m) (hpre0 : (m 94 67).toInt ≤ (m 94 4).toInt) (KZ : ∀ v m₉, zV (zov wr_178 m m₉) → (v = 0 ∨ v = 1) → ((m₉ 94 67).toInt ≤ (m 94 4).toInt) → ((m₉ 94 68).toInt + (m₉ 94 69).toInt = (m₉ 94 67).toInt) → ((m₉ 94 68).toInt = tk true (m 96) (m 94 4).toInt (m 94 67).toInt) → ((m₉ 94 67).toInt = tk false (m 96) (m 94 4).toInt (m₉ 94 68).toInt) → (zNU v (m₉ 94 21).toInt (zNum (m 96) (m₉ 94 68).toInt (m₉ 94 67).toInt 16 1500) (m₉ 94 70).toInt (m₉ 94 68).toInt) → (v.toInt = 1 → 16 ≤ (m₉ 94 21).toInt) → P (some (.inl v)) (zov wr_178 m m₉)) : zm X 2 47 178 0 [(0, .inr (.inr (some 94)))] m P := by
  have K : ∀ v m₉, zF wr_178 m m₉ → zV m₉ → (v = 0 ∨ v = 1) → ((m₉ 94 67).toInt ≤ (m₉ 94 4).toInt) → ((m₉ 94 68).toInt + (m₉ 94 69).toInt = (m₉ 94 67).toInt) → ((m₉ 94 68).toInt = tk true (m₉ 96) (m₉ 94 4).toInt (m 94 67).toInt) → ((m₉ 94 67).toInt = tk false (m₉ 96) (m₉ 94 4).toInt (m₉ 94 68).toInt) → (zNU v (m₉ 94 21).toInt (zNum (m₉ 96) (m₉ 94 68).toInt (m₉ 94 67).toInt 16 1500) (m₉ 94 70).toInt (m₉ 94 68).toInt) → (v.toInt = 1 → 16 ≤ (m₉ 94 21).toInt) → P (some (.inl v)) m₉ := by
    intro v m₉ hf z q0 q1 q2 q3 q4 q5 q6
    have e := zov_eq hf
    rw [e] at z ⊢
    skip
    try rw [e] at q1
    try rw [e] at q2
    try rw [e] at q3
    try rw [e] at q4
    try rw [e] at q5
    try rw [e] at q6
    exact KZ v m₉ z q0 q1 q2 q3 q4 q5 q6
  refine g_178_0  ?_
  have f1 : 0 ≤ (m 94 67).toInt ∧ (m 94 67).toInt ≤ 100 := rs_94_67 (m := m) hV
  have f2 : 0 ≤ (m 94 4).toInt ∧ (m 94 4).toInt ≤ 100 := rs_94_4 (m := m) hV
  have li3 : (16 : Int32).toInt = 16 := rfl
  have li4 : (1500 : Int32).toInt = 1500 := rfl
  refine sp_177n ((16 : Int32)) ((1500 : Int32)) hV (show (m 94 67).toInt ≤ (m 94 4).toInt from by omega) (fun v2 m1 hV_m1 hb_m1 p0_m1 p1_m1 p2_m1 p3_m1 p4_m1 p5_m1 p6_m1 => zmi_n ?_)
  have p0_m1 : (m1 94 67).toInt ≤ (m 94 4).toInt := p0_m1
  have p1_m1 : (m1 94 68).toInt + (m1 94 69).toInt ≤ 100 := p1_m1
  have p2_m1 : v2.toInt = 1 → (16 : Int32).toInt ≤ (m1 94 71).toInt ∧ (m1 94 71).toInt ≤ (1500 : Int32).toInt := p2_m1
  have p3_m1 : (m1 94 68).toInt + (m1 94 69).toInt = (m1 94 67).toInt := p3_m1
  have p4_m1 : (m1 94 68).toInt = tk true (m 96) (m 94 4).toInt (m 94 67).toInt := p4_m1
  have p5_m1 : (m1 94 67).toInt = tk false (m 96) (m 94 4).toInt (m1 94 68).toInt := p5_m1
  have p6_m1 : zNU v2 (m1 94 71).toInt (zNum (m 96) (m1 94 68).toInt (m1 94 67).toInt (16 : Int32).toInt (1500 : Int32).toInt) (m1 94 70).toInt (m1 94 68).toInt := p6_m1
  have f5 : 0 ≤ (m1 94 67).toInt ∧ (m1 94 67).toInt ≤ 100 := rs_94_67 (m := (zov wr_177 m m1)) hV_m1
  have f6 : 0 ≤ (m1 94 68).toInt ∧ (m1 94 68).toInt ≤ 100 := rs_94_68 (m := (zov wr_177 m m1)) hV_m1
  have f7 : 0 ≤ (m1 94 69).toInt ∧ (m1 94 69).toInt ≤ 100 := rs_94_69 (m := (zov wr_177 m m1)) hV_m1
  have b8 := i_bd (m1 94 71)
  have f9 := i_01 hb_m1
  have li10 : (0 : Int32).toInt = 0 := rfl
  refine zd (fun (h11 : v2 = (0 : Int32)) => ?_) (fun (h11 : ¬ v2 = (0 : Int32)) => ?_)
  · skip
    have g12 := i_eq h11
    have f13 : 0 ≤ (m 94 21).toInt ∧ (m 94 21).toInt ≤ 1500 := rs_94_21 (m := m) hV
    exact K ((0 : Int32)) _ (zF_zov zF_rfl ws_177_178) hV_m1 (by decide) (show (m1 94 67).toInt ≤ (m 94 4).toInt from by omega) (show (m1 94 68).toInt + (m1 94 69).toInt = (m1 94 67).toInt from by omega) p4_m1 p5_m1 (show zNU (0 : Int32) (m 94 21).toInt (zNum (m 96) (m1 94 68).toInt (m1 94 67).toInt 16 1500) (m1 94 70).toInt (m1 94 68).toInt from by first | (exact Or.inr ⟨by omega, NU_no p6_m1 (by omega), NU_br p6_m1 (by omega)⟩) | (exact Or.inl ⟨by omega, NU_ok p6_m1 (by omega)⟩) | (exfalso; omega; done) | (exfalso; contradiction; done)) (show (0 : Int32).toInt = 1 → 16 ≤ (m 94 21).toInt from by omega)
  · skip
    have g14 := i_ne h11
    have hV15 : zV (ma_u (zov wr_177 m m1) 94 21 (m1 94 71)) := us_94_21 hV_m1 (by omega) (by omega)
    have li16 : (1 : Int32).toInt = 1 := rfl
    exact K ((1 : Int32)) _ (zF_u (zF_zov zF_rfl ws_177_178) rfl) hV15 (by decide) (show (m1 94 67).toInt ≤ (m 94 4).toInt from by omega) (show (m1 94 68).toInt + (m1 94 69).toInt = (m1 94 67).toInt from by omega) p4_m1 p5_m1 (show zNU (1 : Int32) (m1 94 71).toInt (zNum (m 96) (m1 94 68).toInt (m1 94 67).toInt 16 1500) (m1 94 70).toInt (m1 94 68).toInt from by first | (exact Or.inl ⟨by omega, NU_ok p6_m1 (by omega)⟩) | (exact Or.inr ⟨by omega, NU_no p6_m1 (by omega), NU_br p6_m1 (by omega)⟩) | (exfalso; omega; done) | (exfalso; contradiction; done)) (show (1 : Int32).toInt = 1 → 16 ≤ (m1 94 71).toInt from by omega)

/-! from 95.e06 -/
/-! the reference: texts (written by wip/tools/gen94n.py) -/
theorem lp_168n_3 {X : Nat × (Nat → Int32)} {P : Option ma_V → (Nat → Nat → Int32) → Prop} {a : Int32} {m0 : Nat → Nat → Int32} (h0 : zV m0) (K : ∀ m₉, zF wr_168 m0 m₉ → zV m₉ → ((m₉ 94 3).toInt = (m0 94 3).toInt + 4) → (zFq (m0 95) (m₉ 95) (m0 94 3).toInt a) → P none m₉) : ∀ (n : Nat) (m : Nat → Nat → Int32) (l1 : Int32) (l2 : Int32), (l2.toInt + 8).toNat = n → zF wr_168 m0 m → zV m → ((l2.toInt = 24 ∧ (m 94 3).toInt = (m0 94 3).toInt + 0) ∨ (l2.toInt = 16 ∧ (m 94 3).toInt = (m0 94 3).toInt + 1) ∨ (l2.toInt = 8 ∧ (m 94 3).toInt = (m0 94 3).toInt + 2) ∨ (l2.toInt = 0 ∧ (m 94 3).toInt = (m0 94 3).toInt + 3) ∨ (l2.toInt = -8 ∧ (m 94 3).toInt = (m0 94 3).toInt + 4)) → ((m0 94 3).toInt ≤ 96) → (l1 = a) → (zFp (m0 95) (m 95) (m0 94 3).toInt a ((m 94 3).toInt - (m0 94 3).toInt)) → zm X 0 0 168 3 [(0, .inr (.inr (some 94))), (1, .inl l1), (2, .inl l2)] m P := by
  intro n
  induction n using Nat.strongRecOn with
  | _ n IH =>
    intro m l1 l2 hmu hF hV hi0 hi1 r_LA r_FP
    refine g_168_3 l1 l2 ?_
    have f1 : 0 ≤ (m 94 3).toInt ∧ (m 94 3).toInt ≤ 100 := rs_94_3 (m := m) hV
    have f2 : 0 ≤ (m0 94 3).toInt ∧ (m0 94 3).toInt ≤ 100 := rs_94_3 (m := m0) h0
    have b3 := i_bd l2
    have li4 : (0 : Int32).toInt = 0 := rfl
    refine zd (fun (h5 : l2 < (0 : Int32)) => ?_) (fun (h5 : ¬ l2 < (0 : Int32)) => ?_)
    · skip
      have g6 := i_lt h5
      exact K _ hF hV (show (m 94 3).toInt = (m0 94 3).toInt + 4 from by omega) (show zFq (m0 95) (m 95) (m0 94 3).toInt a from by first | (exact fp_e r_FP (by omega)) | (exfalso; omega; done) | (exfalso; contradiction; done))
    · skip
      have g7 := i_nlt h5
      have hg8 : (0 ≤ (m 94 3) ∧ (m 94 3).toNatClampNeg < 100) := i_ix (by omega) (by omega)
      refine ⟨hg8, ?_⟩
      have hV9 : zV (ma_u m 95 (m 94 3).toNatClampNeg (vp_nar .byte ((l1 >>> (l2 &&& 31)).toInt8.toInt32))) := ua_95 hV
      first | have e11 : ((m 94 3) + (1 : Int32)).toInt = (m 94 3).toInt + (1) := i_addk rfl (by omega) (by omega) | have b12 := i_bd ((m 94 3) + (1 : Int32))
      have hV10 : zV (ma_u (ma_u m 95 (m 94 3).toNatClampNeg (vp_nar .byte ((l1 >>> (l2 &&& 31)).toInt8.toInt32))) 94 3 ((m 94 3) + (1 : Int32))) := us_94_3 hV9 (by omega) (by omega)
      first | have e13 : (l2 + (-8 : Int32)).toInt = l2.toInt + (-8) := i_addk rfl (by omega) (by omega) | have b14 := i_bd (l2 + (-8 : Int32))
      exact IH ((l2 + (-8 : Int32)).toInt + 8).toNat (by omega) _ (l1) ((l2 + (-8 : Int32))) rfl (zF_u (zF_u hF rfl) rfl) hV10 (show ((l2 + (-8 : Int32)).toInt = 24 ∧ ((m 94 3) + (1 : Int32)).toInt = (m0 94 3).toInt + 0) ∨ ((l2 + (-8 : Int32)).toInt = 16 ∧ ((m 94 3) + (1 : Int32)).toInt = (m0 94 3).toInt + 1) ∨ ((l2 + (-8 : Int32)).toInt = 8 ∧ ((m 94 3) + (1 : Int32)).toInt = (m0 94 3).toInt + 2) ∨ ((l2 + (-8 : Int32)).toInt = 0 ∧ ((m 94 3) + (1 : Int32)).toInt = (m0 94 3).toInt + 3) ∨ ((l2 + (-8 : Int32)).toInt = -8 ∧ ((m 94 3) + (1 : Int32)).toInt = (m0 94 3).toInt + 4) from by omega) (show (m0 94 3).toInt ≤ 96 from by omega) r_LA (show zFp (m0 95) ((ma_u m 95 (m 94 3).toNatClampNeg (vp_nar .byte ((l1 >>> (l2 &&& 31)).toInt8.toInt32))) 95) (m0 94 3).toInt a (((m 94 3) + (1 : Int32)).toInt - (m0 94 3).toInt) from by first | (exact fp_s (s := l2) r_FP (by omega) (by omega) (by rw [tn_cast (by omega)]; omega) (by rw [r_LA]; rfl) (by omega) (by omega)) | (exact fp_0 (by omega)) | (exfalso; omega; done) | (exfalso; contradiction; done))
theorem sp_168n {X : Nat × (Nat → Int32)} {P : Option ma_V → (Nat → Nat → Int32) → Prop} {m : Nat → Nat → Int32} (a : Int32) (hV : zV m) (hpre0 : (m 94 3).toInt ≤ 96) (KZ : ∀ m₉, zV (zov wr_168 m m₉) → ((m₉ 94 3).toInt = (m 94 3).toInt + 4) → (zFq (m 95) (m₉ 95) (m 94 3).toInt a) → P none (zov wr_168 m m₉)) : zm X 0 0 168 0 [(0, .inr (.inr (some 94))), (1, .inl a)] m P := by
  have K : ∀ m₉, zF wr_168 m m₉ → zV m₉ → ((m₉ 94 3).toInt = (m 94 3).toInt + 4) → (zFq (m 95) (m₉ 95) (m 94 3).toInt a) → P none m₉ := by
    intro m₉ hf z q0 q1
    have e := zov_eq hf
    rw [e] at z ⊢
    try rw [e] at q0
    try rw [e] at q1
    exact KZ m₉ z q0 q1
  refine g_168_0 a ?_
  have f1 : 0 ≤ (m 94 3).toInt ∧ (m 94 3).toInt ≤ 100 := rs_94_3 (m := m) hV
  have li2 : (24 : Int32).toInt = 24 := rfl
  exact lp_168n_3 (a := a) hV K _ _ (a) ((24 : Int32)) rfl zF_rfl hV (show ((24 : Int32).toInt = 24 ∧ (m 94 3).toInt = (m 94 3).toInt + 0) ∨ ((24 : Int32).toInt = 16 ∧ (m 94 3).toInt = (m 94 3).toInt + 1) ∨ ((24 : Int32).toInt = 8 ∧ (m 94 3).toInt = (m 94 3).toInt + 2) ∨ ((24 : Int32).toInt = 0 ∧ (m 94 3).toInt = (m 94 3).toInt + 3) ∨ ((24 : Int32).toInt = -8 ∧ (m 94 3).toInt = (m 94 3).toInt + 4) from by omega) (show (m 94 3).toInt ≤ 96 from by omega) (show a = a from by first | (exact rfl) | (exfalso; omega; done) | (exfalso; contradiction; done)) (show zFp (m 95) (m 95) (m 94 3).toInt a ((m 94 3).toInt - (m 94 3).toInt) from by first | (exact fp_0 (by omega)) | (exfalso; omega; done) | (exfalso; contradiction; done))

/-! from 95.e07 -/
/-! the reference: texts (written by wip/tools/gen94n.py) -/
theorem sp_166n {X : Nat × (Nat → Int32)} {P : Option ma_V → (Nat → Nat → Int32) → Prop} {m : Nat → Nat → Int32} (xa : Int32) (xb : Int32) (xc : Int32) (xd : Int32) (xe : Int32) (hV : zV m)  (KZ : ∀ v m₉, zV (zov wr_166 m m₉) → ((81 ≤ (m 94 3).toInt ∧ (m₉ 94 0).toInt = 1 ∧ (m₉ 94 3).toInt = (m 94 3).toInt) ∨ ((m 94 3).toInt ≤ 80 ∧ (m₉ 94 0).toInt = 0 ∧ (m₉ 94 3).toInt = (m 94 3).toInt + 20 ∧ v.toInt = (m 94 3).toInt + 20)) → (((m 94 3).toInt ≤ 80 ∧ zFd (m 95) (m₉ 95) (m 94 3).toInt 5 (zw5 xa xb xc xd xe)) ∨ (81 ≤ (m 94 3).toInt ∧ (m₉ 95) = (m 95))) → P (some (.inl v)) (zov wr_166 m m₉)) : zm X 1 22 166 0 [(0, .inr (.inr (some 94))), (1, .inl xa), (2, .inl xb), (3, .inl xc), (4, .inl xd), (5, .inl xe)] m P := by
  have K : ∀ v m₉, zF wr_166 m m₉ → zV m₉ → ((81 ≤ (m 94 3).toInt ∧ (m₉ 94 0).toInt = 1 ∧ (m₉ 94 3).toInt = (m 94 3).toInt) ∨ ((m 94 3).toInt ≤ 80 ∧ (m₉ 94 0).toInt = 0 ∧ (m₉ 94 3).toInt = (m 94 3).toInt + 20 ∧ v.toInt = (m 94 3).toInt + 20)) → (((m 94 3).toInt ≤ 80 ∧ zFd (m 95) (m₉ 95) (m 94 3).toInt 5 (zw5 xa xb xc xd xe)) ∨ (81 ≤ (m 94 3).toInt ∧ (m₉ 95) = (m 95))) → P (some (.inl v)) m₉ := by
    intro v m₉ hf z q0 q1
    have e := zov_eq hf
    rw [e] at z ⊢
    try rw [e] at q0
    try rw [e] at q1
    exact KZ v m₉ z q0 q1
  refine g_166_0 xa xb xc xd xe ?_
  have f1 : 0 ≤ (m 94 3).toInt ∧ (m 94 3).toInt ≤ 100 := rs_94_3 (m := m) hV
  first | have e2 : ((m 94 3) + (20 : Int32)).toInt = (m 94 3).toInt + (20) := i_addk rfl (by omega) (by omega) | have b3 := i_bd ((m 94 3) + (20 : Int32))
  have li4 : (100 : Int32).toInt = 100 := rfl
  refine zd (fun (h5 : ((m 94 3) + (20 : Int32)) ≤ (100 : Int32)) => ?_) (fun (h5 : ¬ ((m 94 3) + (20 : Int32)) ≤ (100 : Int32)) => ?_)
  · skip
    have g6 := i_le h5
    have hV7 : zV (ma_u m 94 0 (0 : Int32)) := uf_94_0 hV
    refine sp_168n (xa) hV7 (show (m 94 3).toInt ≤ 96 from by omega) (fun m1 hV_m1 p0_m1 p1_m1 => zmv_n ?_)
    have p0_m1 : (m1 94 3).toInt = (m 94 3).toInt + 4 := p0_m1
    have p1_m1 : zFq (m 95) (m1 95) (m 94 3).toInt xa := p1_m1
    have f8 : 0 ≤ (m1 94 3).toInt ∧ (m1 94 3).toInt ≤ 100 := rs_94_3 (m := (zov wr_168 (ma_u m 94 0 (0 : Int32)) m1)) hV_m1
    refine sp_168n (xb) hV_m1 (show (m1 94 3).toInt ≤ 96 from by omega) (fun m3 hV_m3 p0_m3 p1_m3 => zmv_n ?_)
    have p0_m3 : (m3 94 3).toInt = (m1 94 3).toInt + 4 := p0_m3
    have p1_m3 : zFq (m1 95) (m3 95) (m1 94 3).toInt xb := p1_m3
    have f9 : 0 ≤ (m3 94 3).toInt ∧ (m3 94 3).toInt ≤ 100 := rs_94_3 (m := (zov wr_168 (zov wr_168 (ma_u m 94 0 (0 : Int32)) m1) m3)) hV_m3
    refine sp_168n (xc) hV_m3 (show (m3 94 3).toInt ≤ 96 from by omega) (fun m5 hV_m5 p0_m5 p1_m5 => zmv_n ?_)
    have p0_m5 : (m5 94 3).toInt = (m3 94 3).toInt + 4 := p0_m5
    have p1_m5 : zFq (m3 95) (m5 95) (m3 94 3).toInt xc := p1_m5
    have f10 : 0 ≤ (m5 94 3).toInt ∧ (m5 94 3).toInt ≤ 100 := rs_94_3 (m := (zov wr_168 (zov wr_168 (zov wr_168 (ma_u m 94 0 (0 : Int32)) m1) m3) m5)) hV_m5
    refine sp_168n (xd) hV_m5 (show (m5 94 3).toInt ≤ 96 from by omega) (fun m7 hV_m7 p0_m7 p1_m7 => zmv_n ?_)
    have p0_m7 : (m7 94 3).toInt = (m5 94 3).toInt + 4 := p0_m7
    have p1_m7 : zFq (m5 95) (m7 95) (m5 94 3).toInt xd := p1_m7
    have f11 : 0 ≤ (m7 94 3).toInt ∧ (m7 94 3).toInt ≤ 100 := rs_94_3 (m := (zov wr_168 (zov wr_168 (zov wr_168 (zov wr_168 (ma_u m 94 0 (0 : Int32)) m1) m3) m5) m7)) hV_m7
    refine sp_168n (xe) hV_m7 (show (m7 94 3).toInt ≤ 96 from by omega) (fun m9 hV_m9 p0_m9 p1_m9 => zmv_n ?_)
    have p0_m9 : (m9 94 3).toInt = (m7 94 3).toInt + 4 := p0_m9
    have p1_m9 : zFq (m7 95) (m9 95) (m7 94 3).toInt xe := p1_m9
    have f12 : 0 ≤ (m9 94 3).toInt ∧ (m9 94 3).toInt ≤ 100 := rs_94_3 (m := (zov wr_168 (zov wr_168 (zov wr_168 (zov wr_168 (zov wr_168 (ma_u m 94 0 (0 : Int32)) m1) m3) m5) m7) m9)) hV_m9
    have li13 : (0 : Int32).toInt = 0 := rfl
    exact K ((m9 94 3)) _ (zF_zov (zF_zov (zF_zov (zF_zov (zF_zov (zF_u zF_rfl rfl) ws_168_166) ws_168_166) ws_168_166) ws_168_166) ws_168_166) hV_m9 (show (81 ≤ (m 94 3).toInt ∧ (0 : Int32).toInt = 1 ∧ (m9 94 3).toInt = (m 94 3).toInt) ∨ ((m 94 3).toInt ≤ 80 ∧ (0 : Int32).toInt = 0 ∧ (m9 94 3).toInt = (m 94 3).toInt + 20 ∧ (m9 94 3).toInt = (m 94 3).toInt + 20) from by omega) (show ((m 94 3).toInt ≤ 80 ∧ zFd (m 95) (m9 95) (m 94 3).toInt 5 (zw5 xa xb xc xd xe)) ∨ (81 ≤ (m 94 3).toInt ∧ (m9 95) = (m 95)) from by first | (exact Or.inl ⟨by omega, (fd_s (fd_s (fd_s (fd_s (fd_s fd_0 (by omega) p1_m1 (by omega) rfl) (by omega) p1_m3 (by omega) rfl) (by omega) p1_m5 (by omega) rfl) (by omega) p1_m7 (by omega) rfl) (by omega) p1_m9 (by omega) rfl)⟩) | (exfalso; omega; done) | (exfalso; contradiction; done))
  · skip
    have g14 := i_nle h5
    have hV15 : zV (ma_u m 94 0 (1 : Int32)) := uf_94_0 hV
    have li16 : (0 : Int32).toInt = 0 := rfl
    have li17 : (1 : Int32).toInt = 1 := rfl
    exact K ((0 : Int32)) _ (zF_u zF_rfl rfl) hV15 (show (81 ≤ (m 94 3).toInt ∧ (1 : Int32).toInt = 1 ∧ (m 94 3).toInt = (m 94 3).toInt) ∨ ((m 94 3).toInt ≤ 80 ∧ (1 : Int32).toInt = 0 ∧ (m 94 3).toInt = (m 94 3).toInt + 20 ∧ (0 : Int32).toInt = (m 94 3).toInt + 20) from by omega) (show ((m 94 3).toInt ≤ 80 ∧ zFd (m 95) (m 95) (m 94 3).toInt 5 (zw5 xa xb xc xd xe)) ∨ (81 ≤ (m 94 3).toInt ∧ (m 95) = (m 95)) from by first | (exact Or.inr ⟨by omega, rfl⟩) | (exfalso; omega; done) | (exfalso; contradiction; done))

/-! from 95.f0 -/
/-! THE CLASS'S HEAP BY NUMBERS: cells below 126 as they are (a walk's at 75 to 77), things by their numbers from 126 on (126 there, 127 kind, 128 size, 130 place, 133 holds, 134 wish), from 1000 on which words refer -/
def zrl (c k : Nat) : Bool := (decide (71 ≤ c) && decide (c ≤ 74)) || decide (c = 76) || decide (c = 77) || decide (c = 87) || (decide (c = 69) && (decide (k = 5) || decide (k = 6) || decide (k = 8) || decide (k = 11))) || (decide (c = 75) && (decide (3 ≤ k) && decide (k ≤ 5)))
def zcw (W c : Nat) : Nat := if 75 ≤ c ∧ c ≤ 77 then c - 75 + W else c
def zfd (f : Nat) : Bool := decide (f = 1) || decide (f = 2) || decide (f = 4) || decide (f = 5) || decide (f = 7) || decide (f = 8)
def zbit (x : Int64) (i : Int32) : Int32 := if lg_cmp ((x.toUInt64 >>> (i.toInt64.toUInt64 &&& Int64.toUInt64 63)).toInt64 &&& (1 : Int64)) (0 : Int64) = 0 then 0 else 1
def aTf (I : Nat → Nat → Int32) (R : Nat → Option Nat) (f n : Nat) : Int32 := if n < 512 then (match R n with | some c => I c f | none => 0) else 0
def aTn (R : Nat → Option Nat) (n : Nat) : Int32 := if n < 512 then (match R n with | some _ => 1 | none => 0) else 0
def aTr (L : Nat → Nat → Int64) (R : Nat → Option Nat) (n i : Nat) : Int32 := if n < 512 then (match R n with | some c => zbit (L c 3) (Int32.ofNat i) | none => 0) else 0
def aF (W : Nat) (I : Nat → Nat → Int32) (R : Nat → Option Nat) (L : Nat → Nat → Int64) : Nat → Nat → Int32 := fun c k => if c < 126 then (if zrl c k = true then I (zcw W c) k else 0) else if c = 126 then aTn R k else if c < 1000 then (if zfd (c - 126) = true then aTf I R (c - 126) k else 0) else aTr L R (c - 1000) k
def aS (W : Nat) (S : ma_S) : Nat → Nat → Int32 := aF W (mI S) (mR S 70) (mL S)
def zNm (I : Nat → Nat → Int32) (R : Nat → Option Nat) : Prop := ∀ n c, n < 512 → R n = some c → 126 ≤ c ∧ I c 0 = Int32.ofNat n
def xB (S : ma_S) (R : Nat → Option Nat) : Prop := mR S 70 = R ∧ zNm (mI S) R
def xC (W : Nat) (S : ma_S) (ab : Nat → Nat → Int32) (R : Nat → Option Nat) : Prop := aS W S = ab ∧ xB S R
def xW (W : Nat) : Prop := W = 75 ∨ W = 88
def zRu (R : Nat → Option Nat) (n : Nat) (q : Option Nat) : Nat → Option Nat := fun k => if k = n then q else R k
/-- nobody of that number -/
def zNo (a : Nat → Nat → Int32) (n : Nat) : Nat → Nat → Int32 := fun c k => if (126 ≤ c ∧ c < 1000 ∧ k = n) ∨ c = 1000 + n then 0 else a c k
/-- the thing of that number, if it is there -/
def zTa (R : Nat → Option Nat) (y : Int32) : Option Nat := if 0 ≤ y.toInt ∧ y.toInt < 512 then R y.toNatClampNeg else none
abbrev zRT : Type := Nat → Option Nat
theorem xW75 : xW 75 := Or.inl rfl
theorem xW88 : xW 88 := Or.inr rfl
theorem zp_e {S : ma_S} {c k c₉ k₉ : Nat} {x : Int32} (hc : 126 ≤ c) (h : c₉ < 126) : mI (ma_put S c₉ k₉ (.inl x)) c k = mI S c k := if_neg (fun z => by omega)
theorem zp_i {S : ma_S} {c k c₉ k₉ : Nat} {x : Int32} (hc : 126 ≤ c₉) (h : c < 126) : mI (ma_put S c₉ k₉ (.inl x)) c k = mI S c k := if_neg (fun z => by omega)
theorem zp_f {S : ma_S} {c k c₉ k₉ : Nat} {x : Int32} (h : k ≠ k₉) : mI (ma_put S c₉ k₉ (.inl x)) c k = mI S c k := if_neg (fun z => h z.2)
theorem zp_r {S : ma_S} {c k c₉ k₉ : Nat} {q : Option Nat} : mI (ma_put S c₉ k₉ (.inr (.inr q))) c k = mI S c k := rfl
section AF
variable {W c k c0 n f t : Nat} {I : Nat → Nat → Int32} {R : Nat → Option Nat} {L : Nat → Nat → Int64} {x y : Int32} {S : ma_S} {ab : Nat → Nat → Int32}
theorem zrl_p (h : zrl c k = true) : (71 ≤ c ∧ c ≤ 74) ∨ c = 76 ∨ c = 77 ∨ c = 87 ∨ c = 69 ∨ c = 75 := by
  unfold zrl at h
  simp only [Bool.or_eq_true, Bool.and_eq_true, decide_eq_true_eq] at h
  omega
theorem zfd_p (h : zfd f = true) : 1 ≤ f ∧ f ≤ 8 := by
  unfold zfd at h
  simp only [Bool.or_eq_true, decide_eq_true_eq] at h
  omega
theorem zcw_lt (hW : xW W) (h : zrl c k = true) : zcw W c < 126 := by
  have p := zrl_p h
  unfold xW at hW
  unfold zcw
  split <;> omega
theorem zcw_inj (hW : xW W) (h1 : zrl c k = true) (h2 : zrl c0 n = true) (e : zcw W c = zcw W c0) : c = c0 := by
  have p := zrl_p h1
  have q := zrl_p h2
  unfold xW at hW
  unfold zcw at e
  split at e <;> split at e <;> omega
theorem zcw_s (h : c < 75 ∨ 77 < c) : zcw W c = c := by
  unfold zcw
  rw [if_neg (by omega)]
theorem aF_I (h : zrl c k = true) : aF W I R L c k = I (zcw W c) k := by
  have p := zrl_p h
  unfold aF
  rw [if_pos (by omega), if_pos h]
theorem aTf_o (hR : ∀ n t, n < 512 → R n = some t → 126 ≤ t) (hc : c < 126) : aTf (ma_u I c k x) R f n = aTf I R f n := by
  unfold aTf
  by_cases h : n < 512
  · rw [if_pos h, if_pos h]
    cases e : R n with
    | none => rfl
    | some t =>
      show (if t = c ∧ f = k then x else I t f) = I t f
      rw [if_neg (fun y => by have := hR n t h e; omega)]
  · rw [if_neg h, if_neg h]
theorem aF_put (hW : xW W) (h : zrl c0 k = true) (hR : ∀ n t, n < 512 → R n = some t → 126 ≤ t) : aF W (ma_u I (zcw W c0) k x) R L = ma_u (aF W I R L) c0 k x := by
  funext c k₉
  show aF W _ R L c k₉ = if c = c0 ∧ k₉ = k then x else aF W I R L c k₉
  by_cases z : c = c0 ∧ k₉ = k
  · rw [if_pos z, z.1, z.2, aF_I h]
    show (if zcw W c0 = zcw W c0 ∧ k = k then x else _) = x
    rw [if_pos ⟨rfl, rfl⟩]
  · rw [if_neg z]
    by_cases b : zrl c k₉ = true
    · rw [aF_I b, aF_I b]
      show (if zcw W c = zcw W c0 ∧ k₉ = k then x else I (zcw W c) k₉) = _
      rw [if_neg (fun y => z ⟨zcw_inj hW b h y.1, y.2⟩)]
    · unfold aF
      rw [if_neg b, if_neg b, aTf_o hR (zcw_lt hW h)]
def zir (W c k : Nat) : Prop := c < 126 ∧ ((W = 75 ∧ zrl c k = false) ∨ (W = 88 ∧ ((75 ≤ c ∧ c ≤ 77) ∨ (zrl c k = false ∧ (c < 88 ∨ 90 < c)))))
theorem zir_W (hW : xW W) (h : zrl c k = false) (hc : c < 88 ∨ (90 < c ∧ c < 126)) : zir W c k := by
  refine ⟨by omega, ?_⟩
  rcases hW with e | e
  · exact Or.inl ⟨e, h⟩
  · exact Or.inr ⟨e, Or.inr ⟨h, by omega⟩⟩
theorem zir_n (h : zir W c k) (hr : zrl c0 k = true) : zcw W c0 ≠ c := by
  have p := zrl_p hr
  intro e
  unfold zcw at e
  obtain ⟨h0, h1 | h1⟩ := h
  · have e2 : c0 = c := by
      split at e <;> omega
    rw [← e2, hr] at h1
    exact absurd h1.2 (by decide)
  · rcases h1.2 with h2 | h2
    · split at e <;> omega
    · have e2 : c0 = c := by
        split at e <;> omega
      rw [← e2, hr] at h2
      exact absurd h2.1 (by decide)
theorem aF_no (h : zir W c k) (hR : ∀ n t, n < 512 → R n = some t → 126 ≤ t) : aF W (ma_u I c k x) R L = aF W I R L := by
  funext c1 k1
  by_cases b : zrl c1 k1 = true
  · rw [aF_I b, aF_I b]
    show (if zcw W c1 = c ∧ k1 = k then x else I (zcw W c1) k1) = _
    rw [if_neg (fun y => zir_n h (y.2 ▸ b) y.1)]
  · unfold aF
    rw [if_neg b, if_neg b, aTf_o hR h.1]
theorem aF_t (hW : xW W) (hn : n < 512) (hc : R n = some c) (hi : ∀ n₉, n₉ < 512 → R n₉ = some c → n₉ = n) (hf : zfd f = true) (h126 : 126 ≤ c) : aF W (ma_u I c f x) R L = ma_u (aF W I R L) (126 + f) n x := by
  have pf := zfd_p hf
  funext c1 k1
  show aF W _ R L c1 k1 = if c1 = 126 + f ∧ k1 = n then x else aF W I R L c1 k1
  by_cases b : zrl c1 k1 = true
  · have p := zrl_p b
    rw [aF_I b, aF_I b, if_neg (by omega)]
    show (if zcw W c1 = c ∧ k1 = f then x else I (zcw W c1) k1) = _
    rw [if_neg (fun y => by have := zcw_lt hW b; omega)]
  · by_cases g : c1 = 126 + f ∧ k1 = n
    · rw [if_pos g, g.1, g.2]
      unfold aF aTf
      rw [if_neg (by omega), if_neg (by omega), if_pos (by omega), Nat.add_sub_cancel_left, if_pos hf, if_pos hn, hc]
      show (if c = c ∧ f = f then x else _) = x
      rw [if_pos ⟨rfl, rfl⟩]
    · rw [if_neg g]
      unfold aF
      rw [if_neg b, if_neg b]
      have e : c1 ≠ 126 → c1 < 1000 → ¬ c1 < 126 → zfd (c1 - 126) = true → aTf (ma_u I c f x) R (c1 - 126) k1 = aTf I R (c1 - 126) k1 := by
        intro g1 g2 g3 g4
        unfold aTf
        by_cases hk : k1 < 512
        · rw [if_pos hk, if_pos hk]
          cases q : R k1 with
          | none => rfl
          | some t =>
            show (if t = c ∧ c1 - 126 = f then x else I t (c1 - 126)) = I t (c1 - 126)
            rw [if_neg (fun y => g ⟨by omega, hi k1 hk (by rw [q, y.1])⟩)]
        · rw [if_neg hk, if_neg hk]
      by_cases a1 : c1 < 126
      · rw [if_pos a1, if_pos a1]
      · by_cases a2 : c1 = 126
        · rw [if_neg a1, if_neg a1, if_pos a2, if_pos a2]
        · by_cases a3 : c1 < 1000
          · by_cases a4 : zfd (c1 - 126) = true
            · rw [e a2 a3 a1 a4]
            · rw [if_neg a4, if_neg a4]
          · rw [if_neg a1, if_neg a1, if_neg a2, if_neg a2, if_neg a3, if_neg a3]
theorem aF_6 (hW : xW W) (h126 : 126 ≤ c) (hf : zfd f = false) : aF W (ma_u I c f x) R L = aF W I R L := by
  funext c1 k1
  by_cases b : zrl c1 k1 = true
  · rw [aF_I b, aF_I b]
    show (if zcw W c1 = c ∧ k1 = f then x else I (zcw W c1) k1) = _
    rw [if_neg (fun y => by have := zcw_lt hW b; omega)]
  · unfold aF
    rw [if_neg b, if_neg b]
    by_cases a4 : zfd (c1 - 126) = true
    · have e : aTf (ma_u I c f x) R (c1 - 126) k1 = aTf I R (c1 - 126) k1 := by
        unfold aTf
        by_cases hk : k1 < 512
        · rw [if_pos hk, if_pos hk]
          cases q : R k1 with
          | none => rfl
          | some t =>
            show (if t = c ∧ c1 - 126 = f then x else I t (c1 - 126)) = I t (c1 - 126)
            rw [if_neg (fun y => by rw [y.2, hf] at a4; cases a4)]
        · rw [if_neg hk, if_neg hk]
      rw [e]
    · rw [if_neg a4, if_neg a4]
theorem aF_R : aF W I (zRu R n none) L = zNo (aF W I R L) n := by
  funext c1 k1
  unfold zNo
  by_cases b : c1 < 126
  · rw [if_neg (by omega)]
    unfold aF
    rw [if_pos b, if_pos b]
  · by_cases a2 : c1 < 1000
    · by_cases a3 : k1 = n
      · rw [if_pos (Or.inl ⟨by omega, a2, a3⟩)]
        unfold aF aTn aTf zRu
        rw [if_neg b, if_pos a2]
        simp only [if_pos a3, ite_self]
      · rw [if_neg (by omega)]
        unfold aF aTn aTf zRu
        rw [if_neg b, if_neg b, if_pos a2, if_pos a2]
        simp only [if_neg a3]
    · have a4 : ¬ c1 = 126 := by omega
      by_cases a3 : c1 = 1000 + n
      · rw [if_pos (Or.inr a3)]
        unfold aF aTr zRu
        rw [if_neg b, if_neg a4, if_neg a2, if_pos (show c1 - 1000 = n by omega)]
        simp only [ite_self]
      · rw [if_neg (by omega)]
        unfold aF aTr zRu
        rw [if_neg b, if_neg a4, if_neg a2, if_neg b, if_neg a4, if_neg a2, if_neg (show ¬ c1 - 1000 = n by omega)]
theorem ofN_tn (h : 0 ≤ y.toInt) : Int32.ofNat y.toNatClampNeg = y := by
  have b := i_bd y
  have e := tn_cast h
  apply Int32.toInt_inj.mp
  rw [Int32.toInt_ofNat_of_lt (by omega)]
  exact e
theorem xB_hR (h : xB S R) : ∀ n t, n < 512 → mR S 70 n = some t → 126 ≤ t := fun n t hn e => (h.2 n t hn (by rw [← h.1]; exact e)).1
theorem xB_pi (h : xB S R) (hk : c < 126 ∨ k ≠ 0) : xB (ma_put S c k (.inl x)) R := by
  refine ⟨h.1, fun n t hn e => ?_⟩
  have q := h.2 n t hn e
  refine ⟨q.1, ?_⟩
  show (if t = c ∧ 0 = k then x else mI S t 0) = _
  rw [if_neg (fun y => by omega)]
  exact q.2
theorem xC_o (h : xB S R) : xC W S (aS W S) R := ⟨rfl, h⟩
theorem xC_p (h : xC W S ab R) (c0 : Nat) (hW : xW W) (hr : zrl c0 k = true) (hw : zcw W c0 = c) : xC W (ma_put S c k (.inl x)) (ma_u ab c0 k x) R := by
  have hl := zcw_lt hW hr
  refine ⟨?_, xB_pi h.2 (Or.inl (by omega))⟩
  rw [← h.1, ← hw]
  have q := aF_put (I := mI S) (R := mR S 70) (L := mL S) (x := x) hW hr (xB_hR h.2)
  exact q
theorem xC_n (h : xC W S ab R) (hz : zir W c k) : xC W (ma_put S c k (.inl x)) ab R := by
  refine ⟨?_, xB_pi h.2 (Or.inl hz.1)⟩
  rw [← h.1]
  have q := aF_no (I := mI S) (R := mR S 70) (L := mL S) (x := x) hz (xB_hR h.2)
  exact q
theorem zTa_p (e : zTa R y = some c) : 0 ≤ y.toInt ∧ y.toInt < 512 ∧ R y.toNatClampNeg = some c := by
  unfold zTa at e
  split at e
  · next z => exact ⟨z.1, z.2, e⟩
  · cases e
theorem zTa_n (e : zTa R y = some c) : y.toNatClampNeg < 512 := by
  have p := zTa_p e
  have q := tn_cast p.1
  omega
theorem xB_inj (h : xB S R) (e : zTa R y = some c) : ∀ n₉, n₉ < 512 → R n₉ = some c → n₉ = y.toNatClampNeg := by
  intro n₉ hn q
  have p := zTa_p e
  have z1 := (h.2 n₉ c hn q).2
  have z2 := (h.2 _ c (zTa_n e) p.2.2).2
  rw [z1] at z2
  have z3 := congrArg Int32.toInt z2
  rw [Int32.toInt_ofNat_of_lt (by omega), Int32.toInt_ofNat_of_lt (by have := zTa_n e; omega)] at z3
  omega
theorem xC_t (h : xC W S ab R) (hW : xW W) (e : zTa R y = some c) (hf : zfd k = true) : xC W (ma_put S c k (.inl x)) (ma_u ab (126 + k) y.toNatClampNeg x) R := by
  have p := zTa_p e
  have q := h.2.2 _ c (zTa_n e) p.2.2
  have pf := zfd_p hf
  refine ⟨?_, xB_pi h.2 (Or.inr (by omega))⟩
  rw [← h.1]
  have z := aF_t (I := mI S) (L := mL S) (x := x) hW (zTa_n e) p.2.2 (xB_inj h.2 e) hf q.1
  rw [← h.2.1] at z
  exact z
theorem xC_6 (h : xC W S ab R) (hW : xW W) (hc : 126 ≤ c) (hf : zfd k = false) (hk : k ≠ 0) : xC W (ma_put S c k (.inl x)) ab R := by
  refine ⟨?_, xB_pi h.2 (Or.inr hk)⟩
  rw [← h.1]
  have q := aF_6 (I := mI S) (R := mR S 70) (L := mL S) (x := x) hW hc hf
  exact q
theorem xC_0 (h : xC W S ab R) : xC W (ma_put S 70 n (.inr (.inr none))) (zNo ab n) (zRu R n none) := by
  have e : mR (ma_put S 70 n (.inr (.inr none))) 70 = zRu R n none := by
    funext k₉
    show (if 70 = 70 ∧ k₉ = n then none else mR S 70 k₉) = if k₉ = n then none else R k₉
    rw [← h.2.1]
    by_cases z : k₉ = n
    · rw [if_pos ⟨rfl, z⟩, if_pos z]
    · rw [if_neg (fun q => z q.2), if_neg z]
  refine ⟨?_, e, fun n₉ t hn q => ?_⟩
  · unfold aS
    rw [e]
    have z := aF_R (W := W) (I := mI S) (R := R) (L := mL S) (n := n)
    rw [← h.1]
    unfold aS
    rw [h.2.1]
    exact z
  · unfold zRu at q
    split at q
    · cases q
    · exact h.2.2 n₉ t hn q
/-- what a thing is, by its number -/
def zTp (W : Nat) (S : ma_S) (y : Int32) (c : Nat) : Prop := 0 ≤ y.toInt ∧ y.toInt < 512 ∧ mI S c 0 = y ∧ mI S c 1 = aS W S 127 y.toNatClampNeg ∧ mI S c 2 = aS W S 128 y.toNatClampNeg ∧ mI S c 4 = aS W S 130 y.toNatClampNeg ∧ mI S c 7 = aS W S 133 y.toNatClampNeg ∧ mI S c 8 = aS W S 134 y.toNatClampNeg ∧ aS W S 126 y.toNatClampNeg = 1
theorem aTf_c (hn : n < 512) (e : R n = some c) : aTf I R f n = I c f := by
  unfold aTf
  rw [if_pos hn, e]
theorem xB_th (h : xB S R) (e : zTa R y = some c) : zTp W S y c := by
  have p := zTa_p e
  have hn := zTa_n e
  have hR : mR S 70 y.toNatClampNeg = some c := by rw [h.1]; exact p.2.2
  have f1 : ∀ f, aTf (mI S) (mR S 70) f y.toNatClampNeg = mI S c f := fun f => aTf_c hn hR
  refine ⟨p.1, p.2.1, ?_, (f1 1).symm, (f1 2).symm, (f1 4).symm, (f1 7).symm, (f1 8).symm, ?_⟩
  · rw [(h.2 _ c hn p.2.2).2]
    exact ofN_tn p.1
  · show aTn (mR S 70) y.toNatClampNeg = 1
    unfold aTn
    rw [if_pos hn, hR]
theorem xB_nt (h : xB S R) (e : zTa R y = none) : ¬ (0 ≤ y.toInt ∧ y.toInt < 512 ∧ aS W S 126 y.toNatClampNeg ≠ 0) := by
  intro z
  unfold zTa at e
  rw [if_pos ⟨z.1, z.2.1⟩, ← h.1] at e
  apply z.2.2
  show aTn (mR S 70) y.toNatClampNeg = 0
  unfold aTn
  rw [e]
  simp only [ite_self]
theorem xB_rf (h : xB S R) (e : zTa R y = some c) : aS W S (1000 + y.toNatClampNeg) k = zbit (mL S c 3) (Int32.ofNat k) := by
  have p := zTa_p e
  have hR : mR S 70 y.toNatClampNeg = some c := by rw [h.1]; exact p.2.2
  unfold aS aF
  rw [if_neg (by omega), if_neg (by omega), if_neg (by omega), Nat.add_sub_cancel_left]
  unfold aTr
  rw [if_pos (zTa_n e), hR]
theorem ta_rd (h : xB S R) (h0 : 0 ≤ y.toInt) (h1 : y.toInt < 512) : mR S 70 y.toNatClampNeg = zTa R y := by
  unfold zTa
  rw [if_pos ⟨h0, h1⟩, h.1]
theorem ta_no (h : y.toInt < 0 ∨ 512 ≤ y.toInt) : none = zTa R y := by
  unfold zTa
  rw [if_neg (by omega)]
theorem rg_up (h : xB S R) (e : zTa R y = some c) : zTa R (mI S c 0) = some c := by
  rw [(xB_th (W := 75) h e).2.2.1]
  exact e
theorem aS_I {c₉ : Nat} (h : zrl c k = true) (hw : zcw W c = c₉) : aS W S c k = mI S c₉ k := by
  rw [← hw]
  exact aF_I h
theorem xB_x (h : xB S R) : xB S (mR S 70) := ⟨rfl, by rw [h.1]; exact h.2⟩
theorem aS_W (h : c ≠ 75 ∧ c ≠ 76 ∧ c ≠ 77) : aS 75 S c k = aS 88 S c k := by
  unfold aS aF
  have e : ∀ W, zcw W c = c := by
    intro W
    unfold zcw
    rw [if_neg (by omega)]
  rw [e, e]
end AF

/-! from 95.f1 -/
/-! WHAT THE CLASS DOES TO ITS HEAP, as functions of the heap by numbers -/
/-- it comes: a WHITE one goes GREY, to the end of the queue -/
def aCc (a : Nat → Nat → Int32) (y : Int32) : Prop := 0 ≤ y.toInt ∧ y.toInt < 512 ∧ a 126 y.toNatClampNeg ≠ 0 ∧ (a 75 5).toInt ≤ (a 130 y.toNatClampNeg).toInt ∧ (a 75 4).toInt < 512 ∧ a 77 y.toNatClampNeg = 0
def aCm (a : Nat → Nat → Int32) (y : Int32) : Nat → Nat → Int32 := if 0 ≤ y.toInt ∧ y.toInt < 512 ∧ a 126 y.toNatClampNeg ≠ 0 ∧ (a 75 5).toInt ≤ (a 130 y.toNatClampNeg).toInt ∧ (a 75 4).toInt < 512 ∧ a 77 y.toNatClampNeg = 0 then ma_u (ma_u (ma_u a 77 y.toNatClampNeg 1) 76 (a 75 4).toNatClampNeg y) 75 4 (a 75 4 + 1) else a
/-- what word i of n refers to; -1: nothing, or an int -/
def aRef (a : Nat → Nat → Int32) (n : Nat) (i : Int32) : Int32 := if a (1000 + n) i.toNatClampNeg ≠ 0 ∧ 0 ≤ (a 130 n + 1 + i).toInt ∧ (a 130 n + 1 + i).toInt < 4500 then a 71 (a 130 n + 1 + i).toNatClampNeg else -1
/-- what its words from i on refer to comes -/
def aCwf (n : Nat) : Nat → Int32 → (Nat → Nat → Int32) → Nat → Nat → Int32
  | 0, _, a => a
  | f + 1, i, a => aCwf n f (i + 1) (aCm a (aRef a n i))
def aCw (a : Nat → Nat → Int32) (n : Nat) (i : Int32) : Nat → Nat → Int32 := aCwf n ((a 128 n).toInt - 1 - i.toInt).toNat i a
/-- a step: the first GREY one is BLACK, what it refers to comes -/
def aPop (a : Nat → Nat → Int32) : Nat → Nat → Int32 := if 0 ≤ (a 76 (a 75 3).toNatClampNeg).toInt ∧ (a 76 (a 75 3).toNatClampNeg).toInt < 512 ∧ a 126 (a 76 (a 75 3).toNatClampNeg).toNatClampNeg ≠ 0 then aCw (ma_u (ma_u a 75 3 (a 75 3 + 1)) 77 (a 76 (a 75 3).toNatClampNeg).toNatClampNeg 2) (a 76 (a 75 3).toNatClampNeg).toNatClampNeg 0 else ma_u a 75 3 (a 75 3 + 1)
/-- at most so many steps; how many -/
def aSp : Nat → (Nat → Nat → Int32) → Nat → Nat → Int32
  | 0, a => a
  | k + 1, a => if (a 75 3).toInt < (a 75 4).toInt then aSp k (aPop a) else a
def aSn : Nat → (Nat → Nat → Int32) → Nat
  | 0, _ => 0
  | k + 1, a => if (a 75 3).toInt < (a 75 4).toInt then aSn k (aPop a) + 1 else 0
/-- held ones from n on come -/
def aHf : Nat → Int32 → (Nat → Nat → Int32) → Nat → Nat → Int32
  | 0, _, a => a
  | f + 1, n, a => aHf f (n + 1) (if 0 ≤ n.toInt ∧ n.toInt < 512 ∧ a 126 n.toNatClampNeg ≠ 0 ∧ 0 < (a 133 n.toNatClampNeg).toInt then aCm a n else a)
def aHo (a : Nat → Nat → Int32) (n : Int32) : Nat → Nat → Int32 := aHf ((a 69 6).toInt - n.toInt).toNat n a
/-- WISHES from i on come, then the held ones -/
def aWf : Nat → Int32 → (Nat → Nat → Int32) → Nat → Nat → Int32
  | 0, _, a => aHo a 0
  | f + 1, i, a => aWf f (i + 1) (aCm a (a 74 i.toNatClampNeg))
def aWi (a : Nat → Nat → Int32) (i : Int32) : Nat → Nat → Int32 := aWf ((a 69 5).toInt - i.toInt).toNat i a
/-- ROOTS from i on come, then WISHES, then the held ones -/
def aRf : Nat → Int32 → (Nat → Nat → Int32) → Nat → Nat → Int32
  | 0, _, a => aWi a 0
  | f + 1, i, a => aRf f (i + 1) (aCm a (a 72 i.toNatClampNeg))
def aRo (a : Nat → Nat → Int32) (i : Int32) : Nat → Nat → Int32 := aRf (16 - i.toInt).toNat i a
/-- a row's words below n are x -/
def zFl (a : Nat → Nat → Int32) (c : Nat) (x : Int32) (n : Int) : Nat → Nat → Int32 := fun c₉ k => if c₉ = c ∧ (k : Int) < n then x else a c₉ k
/-- all WHITE, the queue empty -/
def aWh (a : Nat → Nat → Int32) (p : Int32) : Nat → Nat → Int32 := ma_u (ma_u (ma_u (zFl a 77 0 512) 75 3 0) 75 4 0) 75 5 p
def zSr (k : Nat) (a : Nat → Nat → Int32) (d : Int) (m : Nat) (b : Nat → Nat → Int32) : Prop := aSp k a = aSp m b ∧ d + (aSn k a : Int) = (aSn m b : Int)
section AB1
variable {a : Nat → Nat → Int32} {y i n : Int32} {c k m : Nat}
theorem aCm_y (h : aCc a y) : aCm a y = ma_u (ma_u (ma_u a 77 y.toNatClampNeg 1) 76 (a 75 4).toNatClampNeg y) 75 4 (a 75 4 + 1) := if_pos h
theorem aCm_n (h : ¬ aCc a y) : aCm a y = a := if_neg h
theorem aCm_o (h : c ≠ 75 ∧ c ≠ 76 ∧ c ≠ 77) : aCm a y c k = a c k := by
  unfold aCm
  split
  · show (if c = 75 ∧ k = 4 then _ else if c = 76 ∧ k = _ then _ else if c = 77 ∧ k = _ then _ else a c k) = a c k
    rw [if_neg (fun z => h.1 z.1), if_neg (fun z => h.2.1 z.1), if_neg (fun z => h.2.2 z.1)]
  · rfl
theorem i_p1 (h : i.toInt < 2147483647) : (i + 1).toInt = i.toInt + 1 := by
  have b := i_bd i
  exact i_addk rfl (by omega) (by omega)
theorem aCw_go (h : i.toInt < (a 128 m).toInt - 1) : aCw a m i = aCw (aCm a (aRef a m i)) m (i + 1) := by
  have b := i_bd (a 128 m)
  have e : (i + 1).toInt = i.toInt + 1 := i_p1 (by omega)
  unfold aCw
  rw [aCm_o ⟨by decide, by decide, by decide⟩, e]
  have e2 : ((a 128 m).toInt - 1 - i.toInt).toNat = ((a 128 m).toInt - 1 - (i.toInt + 1)).toNat + 1 := by omega
  rw [e2]
  rfl
theorem aCw_st (h : ¬ i.toInt < (a 128 m).toInt - 1) : aCw a m i = a := by
  unfold aCw
  rw [show ((a 128 m).toInt - 1 - i.toInt).toNat = 0 by omega]
  rfl
theorem aSp_go (h : (a 75 3).toInt < (a 75 4).toInt) : aSp (k + 1) a = aSp k (aPop a) := if_pos h
theorem aSp_st (h : k = 0 ∨ ¬ (a 75 3).toInt < (a 75 4).toInt) : aSp k a = a := by
  cases k with
  | zero => rfl
  | succ k => exact if_neg (by omega)
theorem aSn_go (h : (a 75 3).toInt < (a 75 4).toInt) : aSn (k + 1) a = aSn k (aPop a) + 1 := if_pos h
theorem aSn_st (h : k = 0 ∨ ¬ (a 75 3).toInt < (a 75 4).toInt) : aSn k a = 0 := by
  cases k with
  | zero => rfl
  | succ k => exact if_neg (by omega)
theorem aPop_y (e : a 76 (a 75 3).toNatClampNeg = y) (h0 : 0 ≤ y.toInt) (h1 : y.toInt < 512) (h : a 126 y.toNatClampNeg ≠ 0) : aPop a = aCw (ma_u (ma_u a 75 3 (a 75 3 + 1)) 77 y.toNatClampNeg 2) y.toNatClampNeg 0 := by
  unfold aPop
  rw [e]
  exact if_pos ⟨h0, h1, h⟩
theorem aPop_n (e : a 76 (a 75 3).toNatClampNeg = y) (h : ¬ (0 ≤ y.toInt ∧ y.toInt < 512 ∧ a 126 y.toNatClampNeg ≠ 0)) : aPop a = ma_u a 75 3 (a 75 3 + 1) := by
  unfold aPop
  rw [e]
  exact if_neg h
theorem aHo_y (h : n.toInt < (a 69 6).toInt) (z : 0 ≤ n.toInt ∧ n.toInt < 512 ∧ a 126 n.toNatClampNeg ≠ 0 ∧ 0 < (a 133 n.toNatClampNeg).toInt) : aHo a n = aHo (aCm a n) (n + 1) := by
  have b := i_bd (a 69 6)
  have e : (n + 1).toInt = n.toInt + 1 := i_p1 (by omega)
  unfold aHo
  rw [aCm_o ⟨by decide, by decide, by decide⟩, e]
  have e2 : ((a 69 6).toInt - n.toInt).toNat = ((a 69 6).toInt - (n.toInt + 1)).toNat + 1 := by omega
  rw [e2]
  show aHf _ (n + 1) (if _ then aCm a n else a) = _
  rw [if_pos z]
theorem aHo_n (h : n.toInt < (a 69 6).toInt) (z : ¬ (0 ≤ n.toInt ∧ n.toInt < 512 ∧ a 126 n.toNatClampNeg ≠ 0 ∧ 0 < (a 133 n.toNatClampNeg).toInt)) : aHo a n = aHo a (n + 1) := by
  have b := i_bd (a 69 6)
  have e : (n + 1).toInt = n.toInt + 1 := i_p1 (by omega)
  unfold aHo
  rw [e]
  have e2 : ((a 69 6).toInt - n.toInt).toNat = ((a 69 6).toInt - (n.toInt + 1)).toNat + 1 := by omega
  rw [e2]
  show aHf _ (n + 1) (if _ then aCm a n else a) = _
  rw [if_neg z]
theorem aHo_st (h : ¬ n.toInt < (a 69 6).toInt) : aHo a n = a := by
  unfold aHo
  rw [show ((a 69 6).toInt - n.toInt).toNat = 0 by omega]
  rfl
theorem aWi_go (h : i.toInt < (a 69 5).toInt) : aWi a i = aWi (aCm a (a 74 i.toNatClampNeg)) (i + 1) := by
  have b := i_bd (a 69 5)
  have e : (i + 1).toInt = i.toInt + 1 := i_p1 (by omega)
  unfold aWi
  rw [aCm_o ⟨by decide, by decide, by decide⟩, e]
  have e2 : ((a 69 5).toInt - i.toInt).toNat = ((a 69 5).toInt - (i.toInt + 1)).toNat + 1 := by omega
  rw [e2]
  rfl
theorem aWi_st (h : ¬ i.toInt < (a 69 5).toInt) : aWi a i = aHo a 0 := by
  unfold aWi
  rw [show ((a 69 5).toInt - i.toInt).toNat = 0 by omega]
  rfl
theorem aRo_go (h : i.toInt < 16) : aRo a i = aRo (aCm a (a 72 i.toNatClampNeg)) (i + 1) := by
  have e : (i + 1).toInt = i.toInt + 1 := i_p1 (by omega)
  unfold aRo
  rw [e]
  have e2 : (16 - i.toInt).toNat = (16 - (i.toInt + 1)).toNat + 1 := by omega
  rw [e2]
  rfl
theorem aRo_st (h : ¬ i.toInt < 16) : aRo a i = aWi a 0 := by
  unfold aRo
  rw [show (16 - i.toInt).toNat = 0 by omega]
  rfl
theorem zFl_0 {x : Int32} : zFl a c x 0 = a := by
  funext c₉ k₉
  exact if_neg (by omega)
theorem zFl_s {x j : Int32} (h0 : 0 ≤ j.toInt) (h1 : j.toInt < 2147483647) : ma_u (zFl a c x j.toInt) c j.toNatClampNeg x = zFl a c x (j + 1).toInt := by
  have e := i_p1 h1
  have e2 := tn_cast h0
  funext c₉ k₉
  show (if c₉ = c ∧ k₉ = j.toNatClampNeg then x else if c₉ = c ∧ (k₉ : Int) < j.toInt then x else a c₉ k₉) = if c₉ = c ∧ (k₉ : Int) < (j + 1).toInt then x else a c₉ k₉
  by_cases h : c₉ = c ∧ (k₉ : Int) < (j + 1).toInt
  · rw [if_pos h]
    by_cases h2 : k₉ = j.toNatClampNeg
    · rw [if_pos ⟨h.1, h2⟩]
    · rw [if_neg (fun z => h2 z.2), if_pos ⟨h.1, by omega⟩]
  · rw [if_neg h, if_neg (fun z => h ⟨z.1, by omega⟩), if_neg (fun z => h ⟨z.1, by omega⟩)]
theorem zSr_go {b : Nat → Nat → Int32} {d : Int} {k₉ : Nat} (h : zSr k a d m b) (e : k = k₉ + 1) (hl : (a 75 3).toInt < (a 75 4).toInt) : zSr k₉ (aPop a) (d + 1) m b := by
  subst e
  have h1 := h.1
  have h2 := h.2
  rw [aSp_go hl] at h1
  rw [aSn_go hl] at h2
  exact ⟨h1, by omega⟩
theorem zSr_st {b : Nat → Nat → Int32} {d : Int} (h : zSr k a d m b) (hl : k = 0 ∨ ¬ (a 75 3).toInt < (a 75 4).toInt) : a = aSp m b ∧ d = (aSn m b : Int) := by
  have h1 := h.1
  have h2 := h.2
  rw [aSp_st hl] at h1
  rw [aSn_st hl] at h2
  exact ⟨h1, by omega⟩
theorem zSr_k {b : Nat → Nat → Int32} {d d₉ : Int} {k₉ : Nat} (h : zSr k a d m b) (e : k = k₉) (e2 : d = d₉) : zSr k₉ a d₉ m b := by
  rw [← e, ← e2]
  exact h
theorem aRef_in (h : a (1000 + m) i.toNatClampNeg ≠ 0) (h1 : 0 ≤ (a 130 m + 1 + i).toInt) (h2 : (a 130 m + 1 + i).toInt < 4500) : aRef a m i = a 71 (a 130 m + 1 + i).toNatClampNeg := if_pos ⟨h, h1, h2⟩
theorem aRef_no (h : ¬ (a (1000 + m) i.toNatClampNeg ≠ 0 ∧ 0 ≤ (a 130 m + 1 + i).toInt ∧ (a 130 m + 1 + i).toInt < 4500)) : aRef a m i = -1 := if_neg h
theorem rf_bit {W : Nat} {S : ma_S} {R : zRT} (hC : xB S R) (rg : zTa R y = some c) (hi : 0 ≤ i.toInt) : aS W S (1000 + y.toNatClampNeg) i.toNatClampNeg = zbit (mL S c 3) i := by
  rw [xB_rf hC rg, ofN_tn hi]
theorem rf_in {W : Nat} {S : ma_S} {R : zRT} (hC : xB S R) (rg : zTa R y = some c) (hi : 0 ≤ i.toInt) (hb : ¬ lg_cmp (((mL S c 3).toUInt64 >>> (i.toInt64.toUInt64 &&& Int64.toUInt64 63)).toInt64 &&& (1 : Int64)) (0 : Int64) = 0) (h1 : 0 ≤ (mI S c 4 + 1 + i).toInt) (h2 : (mI S c 4 + 1 + i).toInt < 4500) : aRef (aS W S) y.toNatClampNeg i = mI S 71 (mI S c 4 + 1 + i).toNatClampNeg := by
  have t := xB_th (W := W) hC rg
  have e := t.2.2.2.2.2.1
  rw [e] at h1 h2 ⊢
  refine aRef_in ?_ h1 h2
  rw [rf_bit hC rg hi]
  unfold zbit
  rw [if_neg hb]
  decide
theorem rf_b0 {W : Nat} {S : ma_S} {R : zRT} (hC : xB S R) (rg : zTa R y = some c) (hi : 0 ≤ i.toInt) (hb : lg_cmp (((mL S c 3).toUInt64 >>> (i.toInt64.toUInt64 &&& Int64.toUInt64 63)).toInt64 &&& (1 : Int64)) (0 : Int64) = 0) : aRef (aS W S) y.toNatClampNeg i = -1 := by
  refine aRef_no (fun z => z.1 ?_)
  rw [rf_bit hC rg hi]
  unfold zbit
  rw [if_pos hb]
theorem rf_no {W : Nat} {S : ma_S} {R : zRT} (hC : xB S R) (rg : zTa R y = some c) (h : (mI S c 4 + 1 + i).toInt < 0 ∨ 4500 ≤ (mI S c 4 + 1 + i).toInt) : aRef (aS W S) y.toNatClampNeg i = -1 := by
  have t := xB_th (W := W) hC rg
  have e := t.2.2.2.2.2.1
  rw [e] at h
  exact aRef_no (fun z => by omega)
theorem ta_m1 {R : zRT} : none = zTa R (-1) := rfl
end AB1

/-! from 95.f2 -/
/-! cells that a walk leaves, and what the store does -/
section AB2
variable {a b : Nat → Nat → Int32} {y i n : Int32} {c k m : Nat}
theorem aCw_o (h : c ≠ 75 ∧ c ≠ 76 ∧ c ≠ 77) : ∀ (f : Nat) (i : Int32) (a : Nat → Nat → Int32), aCwf m f i a c k = a c k := by
  intro f
  induction f with
  | zero => intro i a; rfl
  | succ f ih =>
    intro i a
    show aCwf m f (i + 1) (aCm a (aRef a m i)) c k = a c k
    rw [ih, aCm_o h]
theorem aPop_o (h : c ≠ 75 ∧ c ≠ 76 ∧ c ≠ 77) : aPop a c k = a c k := by
  unfold aPop
  split
  · unfold aCw
    rw [aCw_o h]
    show (if c = 77 ∧ k = _ then _ else if c = 75 ∧ k = 3 then _ else a c k) = a c k
    rw [if_neg (fun z => h.2.2 z.1), if_neg (fun z => h.1 z.1)]
  · show (if c = 75 ∧ k = 3 then _ else a c k) = a c k
    rw [if_neg (fun z => h.1 z.1)]
theorem aSp_o (h : c ≠ 75 ∧ c ≠ 76 ∧ c ≠ 77) : ∀ (f : Nat) (a : Nat → Nat → Int32), aSp f a c k = a c k := by
  intro f
  induction f with
  | zero => intro a; rfl
  | succ f ih =>
    intro a
    show (if (a 75 3).toInt < (a 75 4).toInt then aSp f (aPop a) else a) c k = a c k
    split
    · rw [ih, aPop_o h]
    · rfl
/-- WEAK below n lose it -/
def zUw (a : Nat → Nat → Int32) (y : Int32) (n : Int) : Nat → Nat → Int32 := fun c k => if c = 73 ∧ (k : Int) < n ∧ a 73 k = y then -1 else a c k
theorem zUw_0 : zUw a y 0 = a := by
  funext c₉ k₉
  exact if_neg (by omega)
theorem zUw_r : zUw a y i.toInt 73 i.toNatClampNeg = a 73 i.toNatClampNeg := by
  unfold zUw
  have b := i_bd i
  by_cases h : 0 ≤ i.toInt
  · rw [if_neg (fun z => by have := tn_cast h; omega)]
  · rw [if_neg (fun z => by omega)]
theorem zUw_y (h0 : 0 ≤ i.toInt) (h1 : i.toInt < 2147483647) (e0 : a 73 i.toNatClampNeg = y) : ma_u (zUw a y i.toInt) 73 i.toNatClampNeg (-1) = zUw a y (i + 1).toInt := by
  have e := i_p1 h1
  have e2 := tn_cast h0
  funext c₉ k₉
  show (if c₉ = 73 ∧ k₉ = i.toNatClampNeg then -1 else if c₉ = 73 ∧ (k₉ : Int) < i.toInt ∧ a 73 k₉ = y then -1 else a c₉ k₉) = if c₉ = 73 ∧ (k₉ : Int) < (i + 1).toInt ∧ a 73 k₉ = y then -1 else a c₉ k₉
  by_cases h2 : c₉ = 73 ∧ k₉ = i.toNatClampNeg
  · rw [if_pos h2, if_pos ⟨h2.1, by omega, by rw [h2.2]; exact e0⟩]
  · rw [if_neg h2]
    by_cases h3 : c₉ = 73 ∧ (k₉ : Int) < i.toInt ∧ a 73 k₉ = y
    · rw [if_pos h3, if_pos ⟨h3.1, by omega, h3.2.2⟩]
    · rw [if_neg h3, if_neg (fun z => h3 ⟨z.1, by have := z.2.1; omega, z.2.2⟩)]
theorem zUw_n (h0 : 0 ≤ i.toInt) (h1 : i.toInt < 2147483647) (e0 : ¬ a 73 i.toNatClampNeg = y) : zUw a y i.toInt = zUw a y (i + 1).toInt := by
  have e := i_p1 h1
  have e2 := tn_cast h0
  funext c₉ k₉
  show (if c₉ = 73 ∧ (k₉ : Int) < i.toInt ∧ a 73 k₉ = y then -1 else a c₉ k₉) = if c₉ = 73 ∧ (k₉ : Int) < (i + 1).toInt ∧ a 73 k₉ = y then -1 else a c₉ k₉
  by_cases h3 : c₉ = 73 ∧ (k₉ : Int) < i.toInt ∧ a 73 k₉ = y
  · rw [if_pos h3, if_pos ⟨h3.1, by omega, h3.2.2⟩]
  · rw [if_neg h3, if_neg (fun z => h3 ⟨z.1, by
      have z1 := z.2.1
      by_cases q : k₉ = i.toNatClampNeg
      · exact absurd (by rw [← q]; exact z.2.2) e0
      · omega, z.2.2⟩)]
theorem zUw_o {n : Int} (h : c ≠ 73) : zUw a y n c k = a c k := if_neg (fun z => h z.1)
/-- a last wish is granted -/
def aGr (a : Nat → Nat → Int32) (y : Int32) : Nat → Nat → Int32 := if (a 69 5).toInt < 512 then ma_u (ma_u (ma_u (zUw a y 16) 134 y.toNatClampNeg 0) 74 (a 69 5).toNatClampNeg y) 69 5 (a 69 5 + 1) else ma_u (zUw a y 16) 134 y.toNatClampNeg 0
theorem aGr_o (h : c ≠ 73 ∧ c ≠ 134 ∧ c ≠ 74 ∧ ¬ (c = 69 ∧ k = 5)) : aGr a y c k = a c k := by
  unfold aGr
  split
  · show (if c = 69 ∧ k = 5 then _ else if c = 74 ∧ k = _ then _ else if c = 134 ∧ k = _ then _ else zUw a y 16 c k) = _
    rw [if_neg h.2.2.2, if_neg (fun z => h.2.2.1 z.1), if_neg (fun z => h.2.1 z.1), zUw_o h.1]
  · show (if c = 134 ∧ k = _ then _ else zUw a y 16 c k) = _
    rw [if_neg (fun z => h.2.1 z.1), zUw_o h.1]
/-- of those from n on: with a wish and WHITE: granted, and what they keep -/
def aGc (a : Nat → Nat → Int32) (n : Int32) : Prop := 0 ≤ n.toInt ∧ n.toInt < 512 ∧ a 126 n.toNatClampNeg ≠ 0 ∧ a 134 n.toNatClampNeg ≠ 0 ∧ (a 75 5).toInt ≤ (a 130 n.toNatClampNeg).toInt ∧ a 77 n.toNatClampNeg = 0
def aGf : Nat → Int32 → (Nat → Nat → Int32) → Nat → Nat → Int32
  | 0, _, a => a
  | f + 1, n, a => aGf f (n + 1) (if 0 ≤ n.toInt ∧ n.toInt < 512 ∧ a 126 n.toNatClampNeg ≠ 0 ∧ a 134 n.toNatClampNeg ≠ 0 ∧ (a 75 5).toInt ≤ (a 130 n.toNatClampNeg).toInt ∧ a 77 n.toNatClampNeg = 0 then aSp 512 (aCm (aGr a n) n) else a)
def aGw (a : Nat → Nat → Int32) (n : Int32) : Nat → Nat → Int32 := aGf ((a 69 6).toInt - n.toInt).toNat n a
theorem aGw_y (h : n.toInt < (a 69 6).toInt) (z : aGc a n) : aGw a n = aGw (aSp 512 (aCm (aGr a n) n)) (n + 1) := by
  have b := i_bd (a 69 6)
  have e : (n + 1).toInt = n.toInt + 1 := i_p1 (by omega)
  unfold aGw
  rw [aSp_o ⟨by decide, by decide, by decide⟩, aCm_o ⟨by decide, by decide, by decide⟩, aGr_o ⟨by decide, by decide, by decide, by decide⟩, e]
  have e2 : ((a 69 6).toInt - n.toInt).toNat = ((a 69 6).toInt - (n.toInt + 1)).toNat + 1 := by omega
  rw [e2]
  show aGf _ (n + 1) (if _ then aSp 512 (aCm (aGr a n) n) else a) = _
  unfold aGc at z
  rw [if_pos z]
theorem aGw_n (h : n.toInt < (a 69 6).toInt) (z : ¬ aGc a n) : aGw a n = aGw a (n + 1) := by
  have b := i_bd (a 69 6)
  have e : (n + 1).toInt = n.toInt + 1 := i_p1 (by omega)
  unfold aGw
  rw [e]
  have e2 : ((a 69 6).toInt - n.toInt).toNat = ((a 69 6).toInt - (n.toInt + 1)).toNat + 1 := by omega
  rw [e2]
  show aGf _ (n + 1) (if _ then aSp 512 (aCm (aGr a n) n) else a) = _
  unfold aGc at z
  rw [if_neg z]
theorem aGw_st (h : ¬ n.toInt < (a 69 6).toInt) : aGw a n = a := by
  unfold aGw
  rw [show ((a 69 6).toInt - n.toInt).toNat = 0 by omega]
  rfl
/-- words are free -/
def zFr (a : Nat → Nat → Int32) (p e : Int) : Nat → Nat → Int32 := fun c k => if c = 71 ∧ p ≤ (k : Int) ∧ (k : Int) < e then -1 else a c k
theorem zFr_0 {p e : Int} (h : e ≤ p) : zFr a p e = a := by
  funext c₉ k₉
  exact if_neg (by omega)
theorem zFr_s {p : Int} (h0 : 0 ≤ i.toInt) (hp : p ≤ i.toInt) (h1 : i.toInt < 2147483647) : ma_u (zFr a p i.toInt) 71 i.toNatClampNeg (-1) = zFr a p (i + 1).toInt := by
  have e := i_p1 h1
  have e2 := tn_cast h0
  funext c₉ k₉
  show (if c₉ = 71 ∧ k₉ = i.toNatClampNeg then -1 else if c₉ = 71 ∧ p ≤ (k₉ : Int) ∧ (k₉ : Int) < i.toInt then -1 else a c₉ k₉) = if c₉ = 71 ∧ p ≤ (k₉ : Int) ∧ (k₉ : Int) < (i + 1).toInt then -1 else a c₉ k₉
  by_cases h2 : c₉ = 71 ∧ k₉ = i.toNatClampNeg
  · rw [if_pos h2, if_pos ⟨h2.1, by omega, by omega⟩]
  · rw [if_neg h2]
    by_cases h3 : c₉ = 71 ∧ p ≤ (k₉ : Int) ∧ (k₉ : Int) < i.toInt
    · rw [if_pos h3, if_pos ⟨h3.1, h3.2.1, by omega⟩]
    · rw [if_neg h3, if_neg (fun z => h3 ⟨z.1, z.2.1, by
        have z1 := z.2.2
        by_cases q : k₉ = i.toNatClampNeg
        · exact absurd ⟨z.1, q⟩ h2
        · omega⟩)]
theorem zFr_e {p e e₉ : Int} (h : e = e₉ ∨ (e ≤ p ∧ e₉ ≤ p)) : zFr a p e = zFr a p e₉ := by
  rcases h with h | h
  · rw [h]
  · rw [zFr_0 h.1, zFr_0 h.2]
theorem zFr_o {p e : Int} (h : c ≠ 71) : zFr a p e c k = a c k := if_neg (fun z => h z.1)
/-- it is gone -/
def zMin (x : Int) : Int := if x < 4500 then x else 4500
def aRm (a : Nat → Nat → Int32) (y : Int32) : Nat → Nat → Int32 := ma_u (ma_u (zNo (zFr (zUw a y 16) (a 130 y.toNatClampNeg).toInt (zMin (a 130 y.toNatClampNeg + a 128 y.toNatClampNeg).toInt)) y.toNatClampNeg) 69 8 (a 69 8 - a 128 y.toNatClampNeg)) 69 11 (a 69 11 + a 128 y.toNatClampNeg)
theorem zNo_o (h : c < 126) : zNo a m c k = a c k := if_neg (by omega)
theorem aRm_o (h : c < 126) (h2 : c ≠ 73 ∧ c ≠ 71 ∧ ¬ (c = 69 ∧ k = 8) ∧ ¬ (c = 69 ∧ k = 11)) : aRm a y c k = a c k := by
  show (if c = 69 ∧ k = 11 then _ else if c = 69 ∧ k = 8 then _ else zNo _ _ c k) = _
  rw [if_neg h2.2.2.2, if_neg h2.2.2.1, zNo_o h, zFr_o h2.2.1, zUw_o h2.1]
def aMc (a : Nat → Nat → Int32) (n : Int32) : Prop := 0 ≤ n.toInt ∧ n.toInt < 512 ∧ a 126 n.toNatClampNeg ≠ 0 ∧ (a 75 5).toInt ≤ (a 130 n.toNatClampNeg).toInt ∧ a 77 n.toNatClampNeg = 0
def aMf : Nat → Int32 → (Nat → Nat → Int32) → Nat → Nat → Int32
  | 0, _, a => a
  | f + 1, n, a => aMf f (n + 1) (if 0 ≤ n.toInt ∧ n.toInt < 512 ∧ a 126 n.toNatClampNeg ≠ 0 ∧ (a 75 5).toInt ≤ (a 130 n.toNatClampNeg).toInt ∧ a 77 n.toNatClampNeg = 0 then aRm a n else a)
/-- those from n on that are WHITE are gone -/
def aMv (a : Nat → Nat → Int32) (n : Int32) : Nat → Nat → Int32 := aMf ((a 69 6).toInt - n.toInt).toNat n a
theorem aMv_y (h : n.toInt < (a 69 6).toInt) (z : aMc a n) : aMv a n = aMv (aRm a n) (n + 1) := by
  have b := i_bd (a 69 6)
  have e : (n + 1).toInt = n.toInt + 1 := i_p1 (by omega)
  unfold aMv
  rw [aRm_o (by decide) ⟨by decide, by decide, by decide, by decide⟩, e]
  have e2 : ((a 69 6).toInt - n.toInt).toNat = ((a 69 6).toInt - (n.toInt + 1)).toNat + 1 := by omega
  rw [e2]
  show aMf _ (n + 1) (if _ then aRm a n else a) = _
  unfold aMc at z
  rw [if_pos z]
theorem aMv_n (h : n.toInt < (a 69 6).toInt) (z : ¬ aMc a n) : aMv a n = aMv a (n + 1) := by
  have b := i_bd (a 69 6)
  have e : (n + 1).toInt = n.toInt + 1 := i_p1 (by omega)
  unfold aMv
  rw [e]
  have e2 : ((a 69 6).toInt - n.toInt).toNat = ((a 69 6).toInt - (n.toInt + 1)).toNat + 1 := by omega
  rw [e2]
  show aMf _ (n + 1) (if _ then aRm a n else a) = _
  unfold aMc at z
  rw [if_neg z]
theorem aMv_st (h : ¬ n.toInt < (a 69 6).toInt) : aMv a n = a := by
  unfold aMv
  rw [show ((a 69 6).toInt - n.toInt).toNat = 0 by omega]
  rfl
/-- the first of WISHES is taken -/
def zSh (a : Nat → Nat → Int32) (n : Int) : Nat → Nat → Int32 := fun c k => if c = 74 ∧ (k : Int) < n then a 74 (k + 1) else a c k
theorem zSh_0 : zSh a 0 = a := by
  funext c₉ k₉
  exact if_neg (by omega)
theorem zSh_r (h0 : 0 ≤ i.toInt) (h1 : i.toInt < 2147483647) : zSh a i.toInt 74 (i + 1).toNatClampNeg = a 74 (i.toNatClampNeg + 1) := by
  have e := i_p1 h1
  have e2 := tn_cast h0
  have e3 := tn_cast (x := i + 1) (by omega)
  have e4 : (i + 1).toNatClampNeg = i.toNatClampNeg + 1 := by omega
  rw [e4]
  exact if_neg (fun z => by have := z.2; omega)
theorem zSh_s (h0 : 0 ≤ i.toInt) (h1 : i.toInt < 2147483647) : ma_u (zSh a i.toInt) 74 i.toNatClampNeg (a 74 (i.toNatClampNeg + 1)) = zSh a (i + 1).toInt := by
  have e := i_p1 h1
  have e2 := tn_cast h0
  funext c₉ k₉
  show (if c₉ = 74 ∧ k₉ = i.toNatClampNeg then a 74 (i.toNatClampNeg + 1) else if c₉ = 74 ∧ (k₉ : Int) < i.toInt then a 74 (k₉ + 1) else a c₉ k₉) = if c₉ = 74 ∧ (k₉ : Int) < (i + 1).toInt then a 74 (k₉ + 1) else a c₉ k₉
  by_cases h2 : c₉ = 74 ∧ k₉ = i.toNatClampNeg
  · rw [if_pos h2, if_pos ⟨h2.1, by omega⟩, h2.2]
  · rw [if_neg h2]
    by_cases h3 : c₉ = 74 ∧ (k₉ : Int) < i.toInt
    · rw [if_pos h3, if_pos ⟨h3.1, by omega⟩]
    · rw [if_neg h3, if_neg (fun z => h3 ⟨z.1, by
        have z1 := z.2
        by_cases q : k₉ = i.toNatClampNeg
        · exact absurd ⟨z.1, q⟩ h2
        · omega⟩)]
end AB2
/-- the first of WISHES, and WISHES without it -/
def aTy (a : Nat → Nat → Int32) : Int32 := if 0 < (a 69 5).toInt then a 74 0 else -1
def aTw (a : Nat → Nat → Int32) : Nat → Nat → Int32 := if 0 < (a 69 5).toInt then zSh (ma_u a 69 5 (a 69 5 - 1)) ((a 69 5).toInt - 1) else a

/-! from 95.g00 -/
/-! the heap by numbers, the class (written by wip/tools/gen18.py) -/
theorem g_119_88_s_0 {X : Nat × (Nat → Int32)} {d w : Nat} {S : ma_S} {Q : Option ma_V ⊕ Nat → ma_S → Prop} (t : Option Nat) (hd : 0 ≤ d) (hw : 0 ≤ w) (hS : zT S) (h : (t = none → Q (.inl none) S) ∧ (∀ c1, t = some c1 → (126 ≤ c1 ∧ c1 < mN S) ∧ (if (mI S c1 4) < (mI S 88 5) then (Q (.inl none) S) else ((126 ≤ c1 ∧ c1 < mN S) ∧ (if (512 : Int32) ≤ (mI S c1 0) then (Q (.inl none) S) else (if (mI S 88 4) < (512 : Int32) then ((126 ≤ c1 ∧ c1 < mN S) ∧ ((0 ≤ (mI S c1 0) ∧ (mI S c1 0).toNatClampNeg < 512) ∧ (if (mI S 90 (mI S c1 0).toNatClampNeg) = 0 then ((126 ≤ c1 ∧ c1 < mN S) ∧ ((0 ≤ (mI S c1 0) ∧ (mI S c1 0).toNatClampNeg < 512) ∧ ((126 ≤ c1 ∧ c1 < mN (ma_put S 90 (mI S c1 0).toNatClampNeg (.inl (1 : Int32)))) ∧ ((0 ≤ (mI S 88 4) ∧ (mI S 88 4).toNatClampNeg < 512) ∧ (Q (.inl none) (ma_put (ma_put (ma_put S 90 (mI S c1 0).toNatClampNeg (.inl (1 : Int32))) 89 (mI S 88 4).toNatClampNeg (.inl (mI (ma_put S 90 (mI S c1 0).toNatClampNeg (.inl (1 : Int32))) c1 0))) 88 4 (.inl ((mI S 88 4) + (1 : Int32))))))))) else (Q (.inl none) S)))) else (Q (.inl none) S))))))) : ma_wp X d w 119 0 [(0, .inr (.inr (some 88))), (1, .inr (.inr t))] [] S Q := by
  refine zw_push hm_119 dX10_comes_0 (v := .inr (.inr t)) rfl ?_
  refine zw_ifnull hm_119 dX10_comes_1 (t := 35) rfl ?_ ?_
  · intro hc
    have h := h.1 hc
    (try rw [hc])
    show ma_wp X d w 119 35 [(0, .inr (.inr (some 88))), (1, .inr (.inr none))] [] S _
    exact zw_vret hm_119 dX10_comes_35 h
  · intro c1 hc
    have h := h.2 c1 hc
    (try rw [hc])
    show ma_wp X d w 119 4 [(0, .inr (.inr (some 88))), (1, .inr (.inr (some c1)))] [] S _
    refine zw_push hm_119 dX10_comes_4 (v := .inr (.inr (some c1))) rfl ?_
    obtain ⟨hg, h⟩ := h
    refine zw_gf hm_119 dX10_comes_5 (v := .inl (mI S c1 4)) (zT_tis hS hg) (zT_tt hS hg) rfl f_10_49_9 rfl ?_
    refine zw_push hm_119 dX10_comes_8 (v := .inr (.inr (some 88))) rfl ?_
    refine zw_gf hm_119 dX10_comes_9 (v := .inl (mI S 88 5)) (zT_is hS s_88) (zT_t hS s_88) rfl f_10_35_10 rfl ?_
    refine zw_if2 hm_119 dX10_comes_12 (t := 35) rfl zc2_lt ?_ ?_
    · intro hc
      rw [if_pos hc] at h
      exact zw_vret hm_119 dX10_comes_35 h
    · intro hc
      rw [if_neg hc] at h
      refine zw_push hm_119 dX10_comes_15 (v := .inr (.inr (some c1))) rfl ?_
      obtain ⟨hg, h⟩ := h
      refine zw_gf hm_119 dX10_comes_16 (v := .inl (mI S c1 0)) (zT_tis hS hg) (zT_tt hS hg) rfl f_10_58_9 rfl ?_
      refine zw_push hm_119 dX10_comes_19 (v := .inl (512 : Int32)) rfl ?_
      refine zw_if2 hm_119 dX10_comes_22 (t := 35) rfl zc2_ge ?_ ?_
      · intro hc
        rw [if_pos hc] at h
        exact zw_vret hm_119 dX10_comes_35 h
      · intro hc
        rw [if_neg hc] at h
        refine zw_push hm_119 dX10_comes_25 (v := .inr (.inr (some 88))) rfl ?_
        refine zw_gf hm_119 dX10_comes_26 (v := .inl (mI S 88 4)) (zT_is hS s_88) (zT_t hS s_88) rfl f_10_32_10 rfl ?_
        refine zw_push hm_119 dX10_comes_29 (v := .inl (512 : Int32)) rfl ?_
        refine zw_if2 hm_119 dX10_comes_32 (t := 36) rfl zc2_lt ?_ ?_
        · intro hc
          rw [if_pos hc] at h
          refine zw_push hm_119 dX10_comes_36 (v := .inr (.inr (some 88))) rfl ?_
          refine zw_gf hm_119 dX10_comes_37 (v := .inr (.inr (some 90))) (zT_is hS s_88) (zT_t hS s_88) rfl f_10_15_10 (zT_f hS r_88_2) ?_
          refine zw_push hm_119 dX10_comes_40 (v := .inr (.inr (some c1))) rfl ?_
          obtain ⟨hg, h⟩ := h
          refine zw_gf hm_119 dX10_comes_41 (v := .inl (mI S c1 0)) (zT_tis hS hg) (zT_tt hS hg) rfl f_10_58_9 rfl ?_
          obtain ⟨hg, h⟩ := h
          refine zw_ia hm_119 dX10_comes_44 (zT_is hS s_90) (zT_h hS s_90) rfl hg ?_
          show ma_wp X d w 119 45 [(0, .inr (.inr (some 88))), (1, .inr (.inr (some c1)))] [.inl (mI S 90 (mI S c1 0).toNatClampNeg)] S _
          refine zw_if0 hm_119 dX10_comes_45 (t := 81) rfl zc0_ne ?_ ?_
          · intro hc
            rw [if_neg hc] at h
            exact zw_vret hm_119 dX10_comes_81 h
          · intro hc
            rw [if_pos (Classical.not_not.mp hc)] at h
            refine zw_push hm_119 dX10_comes_48 (v := .inr (.inr (some 88))) rfl ?_
            refine zw_gf hm_119 dX10_comes_49 (v := .inr (.inr (some 90))) (zT_is hS s_88) (zT_t hS s_88) rfl f_10_15_10 (zT_f hS r_88_2) ?_
            refine zw_push hm_119 dX10_comes_52 (v := .inr (.inr (some c1))) rfl ?_
            obtain ⟨hg, h⟩ := h
            refine zw_gf hm_119 dX10_comes_53 (v := .inl (mI S c1 0)) (zT_tis hS hg) (zT_tt hS hg) rfl f_10_58_9 rfl ?_
            refine zw_push hm_119 dX10_comes_56 (v := .inl (1 : Int32)) rfl ?_
            obtain ⟨hg, h⟩ := h
            refine zw_ias hm_119 dX10_comes_57 (zT_is hS s_90) (zT_h hS s_90) rfl hg ?_
            refine zw_push hm_119 dX10_comes_58 (v := .inr (.inr (some 88))) rfl ?_
            refine zw_gf hm_119 dX10_comes_59 (v := .inr (.inr (some 89))) (zT_is (zT_pi hS) s_88) (zT_t (zT_pi hS) s_88) rfl f_10_9_10 (zT_f (zT_pi hS) r_88_1) ?_
            refine zw_push hm_119 dX10_comes_62 (v := .inr (.inr (some 88))) rfl ?_
            refine zw_gf hm_119 dX10_comes_63 (v := .inl (mI S 88 4)) (zT_is (zT_pi hS) s_88) (zT_t (zT_pi hS) s_88) rfl f_10_32_10 rfl ?_
            refine zw_push hm_119 dX10_comes_66 (v := .inr (.inr (some c1))) rfl ?_
            obtain ⟨hg, h⟩ := h
            refine zw_gf hm_119 dX10_comes_67 (v := .inl (mI (ma_put S 90 (mI S c1 0).toNatClampNeg (.inl (1 : Int32))) c1 0)) (zT_tis (zT_pi hS) hg) (zT_tt (zT_pi hS) hg) rfl f_10_58_9 rfl ?_
            obtain ⟨hg, h⟩ := h
            refine zw_ias hm_119 dX10_comes_70 (zT_is (zT_pi hS) s_89) (zT_h (zT_pi hS) s_89) rfl hg ?_
            refine zw_push hm_119 dX10_comes_71 (v := .inr (.inr (some 88))) rfl ?_
            refine zw_stk hm_119 dX10_comes_72 (st₉ := [.inr (.inr (some 88)), .inr (.inr (some 88))]) rfl rfl ?_
            refine zw_gf hm_119 dX10_comes_73 (v := .inl (mI S 88 4)) (zT_is (zT_pi (zT_pi hS)) s_88) (zT_t (zT_pi (zT_pi hS)) s_88) rfl f_10_32_10 rfl ?_
            refine zw_push hm_119 dX10_comes_76 (v := .inl (1 : Int32)) rfl ?_
            refine zw_stk hm_119 dX10_comes_77 (st₉ := [.inl ((mI S 88 4) + (1 : Int32)), .inr (.inr (some 88))]) rfl rfl ?_
            refine zw_pf hm_119 dX10_comes_78 (zT_is (zT_pi (zT_pi hS)) s_88) (zT_t (zT_pi (zT_pi hS)) s_88) p_10_32_10 zk_int ?_
            exact zw_vret hm_119 dX10_comes_81 h
        · intro hc
          rw [if_neg hc] at h
          exact zw_vret hm_119 dX10_comes_35 h
theorem sp_119_88_s {X : Nat × (Nat → Int32)} {d w : Nat} {f : Nat → Nat → Int32} {r : Nat → Nat → Option Nat} {C Z N : Nat} {Q : Option ma_V ⊕ Nat → ma_S → Prop} {ab : Nat→Nat→Int32} {R : zRT} {y : Int32} {S : ma_S} (t : Option Nat) (hd : 0 ≤ d) (hw : 0 ≤ w) (hI : zI f r C Z N S) (hq_t : ∀ c, t = some c → 126 ≤ c ∧ c < N) (hpre0 : xB S R) (hpre1 : aS 88 S = ab) (hpre2 : t = zTa R y) (K : ∀ S₉, zI f r C Z N S₉ → (xB S₉ R) → (aS 88 S₉ = aCm ab y) → Q (.inl none) S₉) : ma_wp X d w 119 0 [(0, .inr (.inr (some 88))), (1, .inr (.inr t))] [] S Q := by
  refine g_119_88_s_0 t (by omega) (by omega) (zG_T hI) ?_
  refine ⟨fun hc => ?_, fun c1 hc => ?_⟩
  · skip
    have rn_c1 : zTa R y = none := hpre2.symm.trans hc
    exact K _ hI (show xB S R from by first | (exact (xC_o (W := 75) hpre0).2)) (show aS 88 S = aCm ab y from by first | (exact hpre1.trans (aCm_n (fun z => xB_nt (W := 88) hpre0 rn_c1 (by rw [hpre1]; exact ⟨z.1, z.2.1, z.2.2.1⟩))).symm))
  · skip
    have th_c1 := hq_t c1 hc
    have rg_c1 : zTa R y = some c1 := hpre2.symm.trans hc
    subst hc
    refine ⟨zG_n hI th_c1, ?_⟩
    have f1 := zG_th hI th_c1
    have b2 := i_bd (mI S 88 5)
    refine zd (fun h3 => ?_) (fun h3 => ?_)
    · skip
      have g4 := i_lt h3
      exact K _ hI (show xB S R from by first | (exact (xC_o (W := 75) hpre0).2)) (show aS 88 S = aCm ab y from by first | (have ty := xB_th (W := 88) hpre0 rg_c1; have e4 := congrArg Int32.toInt ty.2.2.2.2.2.1; refine hpre1.trans (aCm_n (fun z => ?_)).symm; rw [← hpre1] at z; have z4 : (mI S 88 5).toInt ≤ (mI S c1 4).toInt := (by rw [e4]; exact z.2.2.2.1); have z5 : (mI S 88 4).toInt < 512 := z.2.2.2.2.1; have z6 : (mI S 90 (mI S c1 0).toNatClampNeg).toInt = 0 := (by rw [ty.2.2.1]; exact congrArg Int32.toInt z.2.2.2.2.2); omega))
    · skip
      have g5 := i_nlt h3
      refine ⟨zG_n hI th_c1, ?_⟩
      have li6 : (512 : Int32).toInt = 512 := rfl
      have f7 := zG_th hI th_c1
      refine zd (fun h8 => ?_) (fun h8 => ?_)
      · skip
        have g9 := i_le h8
        exact K _ hI (show xB S R from by first | (exact (xC_o (W := 75) hpre0).2)) (show aS 88 S = aCm ab y from by first | (have ty := xB_th (W := 88) hpre0 rg_c1; have e4 := congrArg Int32.toInt ty.2.2.2.2.2.1; refine hpre1.trans (aCm_n (fun z => ?_)).symm; rw [← hpre1] at z; have z4 : (mI S 88 5).toInt ≤ (mI S c1 4).toInt := (by rw [e4]; exact z.2.2.2.1); have z5 : (mI S 88 4).toInt < 512 := z.2.2.2.2.1; have z6 : (mI S 90 (mI S c1 0).toNatClampNeg).toInt = 0 := (by rw [ty.2.2.1]; exact congrArg Int32.toInt z.2.2.2.2.2); omega))
      · skip
        have g10 := i_nle h8
        have f11 := zG_s hI (0) (512) (c := 88) (k := 4) (by decide)
        refine zd (fun h12 => ?_) (fun h12 => ?_)
        · skip
          have g13 := i_lt h12
          refine ⟨zG_n hI th_c1, ?_⟩
          refine ⟨i_ix (by omega) (by omega), ?_⟩
          have b14 := i_bd (mI S 90 (mI S c1 0).toNatClampNeg)
          have li15 : (0 : Int32).toInt = 0 := rfl
          refine zd (fun h16 => ?_) (fun h16 => ?_)
          · skip
            have g17 := i_eq h16
            refine ⟨zG_n hI th_c1, ?_⟩
            refine ⟨i_ix (by omega) (by omega), ?_⟩
            have hI18 : zI f r C Z N (ma_put S 90 (mI S c1 0).toNatClampNeg (.inl (1 : Int32))) := zG_fa hI rfl (by decide) (by decide) (by decide) trivial
            refine ⟨zG_n hI18 th_c1, ?_⟩
            refine ⟨i_ix (by omega) (by omega), ?_⟩
            have hI19 : zI f r C Z N (ma_put (ma_put S 90 (mI S c1 0).toNatClampNeg (.inl (1 : Int32))) 89 (mI S 88 4).toNatClampNeg (.inl (mI (ma_put S 90 (mI S c1 0).toNatClampNeg (.inl (1 : Int32))) c1 0))) := zG_fa hI18 rfl (by decide) (by decide) (by decide) trivial
            first | have e21 : ((mI S 88 4) + (1 : Int32)).toInt = (mI S 88 4).toInt + (1) := i_addk rfl (by omega) (by omega) | have b22 := i_bd ((mI S 88 4) + (1 : Int32))
            have hI20 : zI f r C Z N (ma_put (ma_put (ma_put S 90 (mI S c1 0).toNatClampNeg (.inl (1 : Int32))) 89 (mI S 88 4).toNatClampNeg (.inl (mI (ma_put S 90 (mI S c1 0).toNatClampNeg (.inl (1 : Int32))) c1 0))) 88 4 (.inl ((mI S 88 4) + (1 : Int32)))) := zG_sp hI19 (0) (512) rfl (by decide) (by decide) (by decide) trivial (by omega) (by omega)
            exact K _ hI20 (show xB (ma_put (ma_put (ma_put S 90 (mI S c1 0).toNatClampNeg (.inl (1 : Int32))) 89 (mI S 88 4).toNatClampNeg (.inl (mI (ma_put S 90 (mI S c1 0).toNatClampNeg (.inl (1 : Int32))) c1 0))) 88 4 (.inl ((mI S 88 4) + (1 : Int32)))) R from by first | (exact (xC_n (c := 88) (k := 4) (x := ((mI S 88 4) + (1 : Int32))) (xC_n (c := 89) (k := (mI S 88 4).toNatClampNeg) (x := (mI (ma_put S 90 (mI S c1 0).toNatClampNeg (.inl (1 : Int32))) c1 0)) (xC_n (c := 90) (k := (mI S c1 0).toNatClampNeg) (x := (1 : Int32)) (xC_o (W := 75) hpre0) ⟨by decide, Or.inl ⟨rfl, rfl⟩⟩) ⟨by decide, Or.inl ⟨rfl, rfl⟩⟩) ⟨by decide, Or.inl ⟨rfl, rfl⟩⟩).2)) (show aS 88 (ma_put (ma_put (ma_put S 90 (mI S c1 0).toNatClampNeg (.inl (1 : Int32))) 89 (mI S 88 4).toNatClampNeg (.inl (mI (ma_put S 90 (mI S c1 0).toNatClampNeg (.inl (1 : Int32))) c1 0))) 88 4 (.inl ((mI S 88 4) + (1 : Int32)))) = aCm ab y from by first | (have ty := xB_th (W := 88) hpre0 rg_c1; have e4 := congrArg Int32.toInt ty.2.2.2.2.2.1; refine (xC_p (c := 88) (k := 4) (x := ((mI S 88 4) + (1 : Int32))) (xC_p (c := 89) (k := (mI S 88 4).toNatClampNeg) (x := (mI (ma_put S 90 (mI S c1 0).toNatClampNeg (.inl (1 : Int32))) c1 0)) (xC_p (c := 90) (k := (mI S c1 0).toNatClampNeg) (x := (1 : Int32)) (xC_o (W := 88) hpre0) 77 xW88 rfl rfl) 76 xW88 rfl rfl) 75 xW88 rfl rfl).1.trans ?_; (try simp only [zp_e (c₉ := 88) th_c1.1 (by decide), zp_e (c₉ := 89) th_c1.1 (by decide), zp_e (c₉ := 90) th_c1.1 (by decide)]); rw [ty.2.2.1, ← hpre1]; refine (aCm_y ⟨ty.1, ty.2.1, ?_, ?_, ?_, ?_⟩).symm; (rw [ty.2.2.2.2.2.2.2.2]; decide); (show (mI S 88 5).toInt ≤ _; rw [← e4]; omega); (show (mI S 88 4).toInt < 512; omega); (show mI S 90 y.toNatClampNeg = 0; rw [← ty.2.2.1]; assumption)))
          · skip
            have g23 := i_ne h16
            exact K _ hI (show xB S R from by first | (exact (xC_o (W := 75) hpre0).2)) (show aS 88 S = aCm ab y from by first | (have ty := xB_th (W := 88) hpre0 rg_c1; have e4 := congrArg Int32.toInt ty.2.2.2.2.2.1; refine hpre1.trans (aCm_n (fun z => ?_)).symm; rw [← hpre1] at z; have z4 : (mI S 88 5).toInt ≤ (mI S c1 4).toInt := (by rw [e4]; exact z.2.2.2.1); have z5 : (mI S 88 4).toInt < 512 := z.2.2.2.2.1; have z6 : (mI S 90 (mI S c1 0).toNatClampNeg).toInt = 0 := (by rw [ty.2.2.1]; exact congrArg Int32.toInt z.2.2.2.2.2); omega))
        · skip
          have g24 := i_nlt h12
          exact K _ hI (show xB S R from by first | (exact (xC_o (W := 75) hpre0).2)) (show aS 88 S = aCm ab y from by first | (have ty := xB_th (W := 88) hpre0 rg_c1; have e4 := congrArg Int32.toInt ty.2.2.2.2.2.1; refine hpre1.trans (aCm_n (fun z => ?_)).symm; rw [← hpre1] at z; have z4 : (mI S 88 5).toInt ≤ (mI S c1 4).toInt := (by rw [e4]; exact z.2.2.2.1); have z5 : (mI S 88 4).toInt < 512 := z.2.2.2.2.1; have z6 : (mI S 90 (mI S c1 0).toNatClampNeg).toInt = 0 := (by rw [ty.2.2.1]; exact congrArg Int32.toInt z.2.2.2.2.2); omega))
theorem g_276_90_s_0 {X : Nat × (Nat → Int32)} {d w : Nat} {S : ma_S} {Q : Option ma_V ⊕ Nat → ma_S → Prop} (x : Int32) (hd : 0 ≤ d) (hw : 0 ≤ w) (hS : zT S) (h : ma_wp X d w 276 5 [(0, .inr (.inr (some 90))), (1, .inl x), (2, .inl (0 : Int32)), (3, .inl (512 : Int32))] [] S Q) : ma_wp X d w 276 0 [(0, .inr (.inr (some 90))), (1, .inl x)] [] S Q := by
  refine zw_push hm_276 dJ7_fill_53178_0 (v := .inl (0 : Int32)) rfl ?_
  refine zw_sto hm_276 dJ7_fill_53178_1 [(2, .inl (0 : Int32)), (0, .inr (.inr (some 90))), (1, .inl x)] rfl rfl rfl ?_
  refine zw_push hm_276 dJ7_fill_53178_2 (v := .inr (.inr (some 90))) rfl ?_
  refine zw_len hm_276 dJ7_fill_53178_3 (zT_is hS s_90) (zT_h hS s_90) rfl rfl ?_
  refine zw_sto hm_276 dJ7_fill_53178_4 [(3, .inl (512 : Int32)), (2, .inl (0 : Int32)), (0, .inr (.inr (some 90))), (1, .inl x)] rfl rfl rfl ?_
  exact zw_sub (ma_nd_of (ks := [0, 1, 2, 3]) rfl (by decide)) (ma_nd_of (ks := [3, 2, 0, 1]) rfl (by decide)) (ma_le_cons rfl (ma_le_cons rfl (ma_le_cons rfl (ma_le_cons rfl (ma_le_nil _))))) h
theorem g_276_90_s_5 {X : Nat × (Nat → Int32)} {d w : Nat} {S : ma_S} {Q : Option ma_V ⊕ Nat → ma_S → Prop} (l1 : Int32) (l2 : Int32) (l3 : Int32) (hd : 0 ≤ d) (hw : 0 ≤ w) (hS : zT S) (h : if l3 ≤ l2 then (Q (.inl none) S) else ((0 ≤ l2 ∧ l2.toNatClampNeg < 512) ∧ (ma_wp X d w 276 5 [(0, .inr (.inr (some 90))), (1, .inl l1), (2, .inl (l2 + (1 : Int32))), (3, .inl l3)] [] (ma_put S 90 l2.toNatClampNeg (.inl l1)) Q))) : ma_wp X d w 276 5 [(0, .inr (.inr (some 90))), (1, .inl l1), (2, .inl l2), (3, .inl l3)] [] S Q := by
  refine zw_push hm_276 dJ7_fill_53178_5 (v := .inl l2) rfl ?_
  refine zw_push hm_276 dJ7_fill_53178_6 (v := .inl l3) rfl ?_
  refine zw_if2 hm_276 dJ7_fill_53178_7 (t := 20) rfl zc2_ge ?_ ?_
  · intro hc
    rw [if_pos hc] at h
    exact zw_vret hm_276 dJ7_fill_53178_20 h
  · intro hc
    rw [if_neg hc] at h
    refine zw_push hm_276 dJ7_fill_53178_10 (v := .inr (.inr (some 90))) rfl ?_
    refine zw_push hm_276 dJ7_fill_53178_11 (v := .inl l2) rfl ?_
    refine zw_push hm_276 dJ7_fill_53178_12 (v := .inl l1) rfl ?_
    obtain ⟨hg, h⟩ := h
    refine zw_ias hm_276 dJ7_fill_53178_13 (zT_is hS s_90) (zT_h hS s_90) rfl hg ?_
    refine zw_sto hm_276 dJ7_fill_53178_14 [(2, .inl (l2 + (1 : Int32))), (0, .inr (.inr (some 90))), (1, .inl l1), (3, .inl l3)] rfl rfl rfl ?_
    refine zw_goto hm_276 dJ7_fill_53178_17 (t := 5) rfl ?_
    exact zw_sub (ma_nd_of (ks := [0, 1, 2, 3]) rfl (by decide)) (ma_nd_of (ks := [2, 0, 1, 3]) rfl (by decide)) (ma_le_cons rfl (ma_le_cons rfl (ma_le_cons rfl (ma_le_cons rfl (ma_le_nil _))))) h
theorem lp_276_90_s_5 {X : Nat × (Nat → Int32)} {d w : Nat} {f : Nat → Nat → Int32} {r : Nat → Nat → Option Nat} {C Z N : Nat} {Q : Option ma_V ⊕ Nat → ma_S → Prop} {ab : Nat→Nat→Int32} {R : zRT} {x : Int32} (hd : 0 ≤ d) (hw : 0 ≤ w) (K : ∀ S₉, zI f r C Z N S₉ → (xB S₉ R) → (aS 88 S₉ = zFl ab 77 x 512) → Q (.inl none) S₉) : ∀ (n : Nat) (S : ma_S) (l1 : Int32) (l2 : Int32) (l3 : Int32), (l3.toInt - l2.toInt).toNat = n → zI f r C Z N S → (0 ≤ l2.toInt) → (l3.toInt = 512) → (l2.toInt ≤ 512) → (xB S R) → (aS 88 S = zFl ab 77 l1 l2.toInt) → (l1 = x) → ma_wp X d w 276 5 [(0, .inr (.inr (some 90))), (1, .inl l1), (2, .inl l2), (3, .inl l3)] [] S Q := by
  intro n
  induction n using Nat.strongRecOn with
  | _ n IH =>
    intro S l1 l2 l3 hmu hI  hi0 hi1 hi2 hi3 hi4 hi5
    refine g_276_90_s_5 l1 l2 l3 (by omega) (by omega) (zG_T hI) ?_
    have b1 := i_bd l3
    have b2 := i_bd l2
    refine zd (fun h3 => ?_) (fun h3 => ?_)
    · skip
      have g4 := i_le h3
      exact K _ hI (show xB S R from by first | (exact (xC_o (W := 75) hi3).2)) (show aS 88 S = zFl ab 77 x 512 from by first | (rw [hi4, show l2.toInt = 512 from by omega, hi5]))
    · skip
      have g5 := i_nle h3
      refine ⟨i_ix (by omega) (by omega), ?_⟩
      have hI6 : zI f r C Z N (ma_put S 90 l2.toNatClampNeg (.inl l1)) := zG_fa hI rfl (by decide) (by decide) (by decide) trivial
      have b7 := i_bd l1
      first | have e8 : (l2 + (1 : Int32)).toInt = l2.toInt + (1) := i_addk rfl (by omega) (by omega) | have b9 := i_bd (l2 + (1 : Int32))
      exact IH _ (by omega) _ (l1) ((l2 + (1 : Int32))) (l3) rfl hI6 (by omega) (by omega) (by omega) (show xB (ma_put S 90 l2.toNatClampNeg (.inl l1)) R from by first | (exact (xC_n (c := 90) (k := l2.toNatClampNeg) (x := l1) (xC_o (W := 75) hi3) ⟨by decide, Or.inl ⟨rfl, rfl⟩⟩).2)) (show aS 88 (ma_put S 90 l2.toNatClampNeg (.inl l1)) = zFl ab 77 (l1) ((l2 + (1 : Int32))).toInt from by first | (refine (xC_p (c := 90) (k := l2.toNatClampNeg) (x := l1) (xC_o (W := 88) hi3) 77 xW88 rfl rfl).1.trans ?_; skip; rw [hi4]; exact zFl_s (by omega) (by omega))) (show (l1) = x from by first | (exact rfl) | (exact hi5))
theorem sp_276_90_s {X : Nat × (Nat → Int32)} {d w : Nat} {f : Nat → Nat → Int32} {r : Nat → Nat → Option Nat} {C Z N : Nat} {Q : Option ma_V ⊕ Nat → ma_S → Prop} {ab : Nat→Nat→Int32} {R : zRT} {S : ma_S} (x : Int32) (hd : 0 ≤ d) (hw : 0 ≤ w) (hI : zI f r C Z N S) (hpre0 : xB S R) (hpre1 : aS 88 S = ab) (K : ∀ S₉, zI f r C Z N S₉ → (xB S₉ R) → (aS 88 S₉ = zFl ab 77 x 512) → Q (.inl none) S₉) : ma_wp X d w 276 0 [(0, .inr (.inr (some 90))), (1, .inl x)] [] S Q := by
  refine g_276_90_s_0 x (by omega) (by omega) (zG_T hI) ?_
  have b1 := i_bd x
  have li2 : (0 : Int32).toInt = 0 := rfl
  have li3 : (512 : Int32).toInt = 512 := rfl
  exact lp_276_90_s_5 (by omega) (by omega) K _ _ (x) ((0 : Int32)) ((512 : Int32)) rfl hI (by omega) (by omega) (by omega) (show xB S R from by first | (exact (xC_o (W := 75) hpre0).2)) (show aS 88 S = zFl ab 77 (x) ((0 : Int32)).toInt from by first | (rw [hpre1]; exact zFl_0.symm)) (show (x) = x from by first | (exact rfl))
theorem g_117_88_s_0 {X : Nat × (Nat → Int32)} {d w : Nat} {S : ma_S} {Q : Option ma_V ⊕ Nat → ma_S → Prop} (p : Int32) (hd : 1 ≤ d) (hw : 23 ≤ w) (hS : zT S) (h : ma_wp X (d - 1) (w - 23) 276 0 [(0, .inr (.inr (some 90))), (1, .inl (0 : Int32))] [] S (zv (fun S1 => zT S1 ∧ (Q (.inl none) (ma_put (ma_put (ma_put S1 88 3 (.inl (0 : Int32))) 88 4 (.inl (0 : Int32))) 88 5 (.inl p)))) (fun _ _ => False))) : ma_wp X d w 117 0 [(0, .inr (.inr (some 88))), (1, .inl p)] [] S Q := by
  refine zw_push hm_117 dX10_restart_0 (v := .inr (.inr (some 88))) rfl ?_
  refine zw_gf hm_117 dX10_restart_1 (v := .inr (.inr (some 90))) (zT_is hS s_88) (zT_t hS s_88) rfl f_10_15_10 (zT_f hS r_88_2) ?_
  refine zw_push hm_117 dX10_restart_4 (v := .inl (0 : Int32)) rfl ?_
  refine zw_cs hm_117 dX10_restart_5 pn_10_22 sl_10_22 hm_276 [.inl (0 : Int32), .inr (.inr (some 90))] [] rfl ⟨by omega, by omega⟩ rfl (zw_mono h (zv_go ?_ ?_))
  · intro S1 hv
    obtain ⟨hS1, h⟩ := hv
    refine zw_push hm_117 dX10_restart_8 (v := .inr (.inr (some 88))) rfl ?_
    refine zw_push hm_117 dX10_restart_9 (v := .inl (0 : Int32)) rfl ?_
    refine zw_pf hm_117 dX10_restart_10 (zT_is hS1 s_88) (zT_t hS1 s_88) p_10_28_10 zk_int ?_
    refine zw_push hm_117 dX10_restart_13 (v := .inr (.inr (some 88))) rfl ?_
    refine zw_push hm_117 dX10_restart_14 (v := .inl (0 : Int32)) rfl ?_
    refine zw_pf hm_117 dX10_restart_15 (zT_is (zT_pi hS1) s_88) (zT_t (zT_pi hS1) s_88) p_10_32_10 zk_int ?_
    refine zw_push hm_117 dX10_restart_18 (v := .inr (.inr (some 88))) rfl ?_
    refine zw_push hm_117 dX10_restart_19 (v := .inl p) rfl ?_
    refine zw_pf hm_117 dX10_restart_20 (zT_is (zT_pi (zT_pi hS1)) s_88) (zT_t (zT_pi (zT_pi hS1)) s_88) p_10_35_10 zk_int ?_
    exact zw_vret hm_117 dX10_restart_23 h
  · intro x S9 hx
    exact hx.elim
theorem sp_117_88_s {X : Nat × (Nat → Int32)} {d w : Nat} {f : Nat → Nat → Int32} {r : Nat → Nat → Option Nat} {C Z N : Nat} {Q : Option ma_V ⊕ Nat → ma_S → Prop} {ab : Nat→Nat→Int32} {R : zRT} {S : ma_S} (p : Int32) (hd : 1 ≤ d) (hw : 23 ≤ w) (hI : zI f r C Z N S) (hpre0 : xB S R) (hpre1 : aS 88 S = ab) (K : ∀ S₉, zI f r C Z N S₉ → (xB S₉ R) → (aS 88 S₉ = aWh ab p) → Q (.inl none) S₉) : ma_wp X d w 117 0 [(0, .inr (.inr (some 88))), (1, .inl p)] [] S Q := by
  refine g_117_88_s_0 p (by omega) (by omega) (zG_T hI) ?_
  have li1 : (0 : Int32).toInt = 0 := rfl
  refine sp_276_90_s (ab := (aS 88 S)) (R := R) ((0 : Int32)) (by omega) (by omega) hI (show xB S R from by first | (exact (xC_o (W := 75) hpre0).2)) (show aS 88 S = (aS 88 S) from by first | (exact rfl)) (fun S1 hI_S1 rp0_S1 rp1_S1 => zv_n ⟨zG_T hI_S1, ?_⟩)
  have rp0_S1 : xB S1 R := rp0_S1
  have rp1_S1 : aS 88 S1 = zFl (aS 88 S) 77 (0 : Int32) 512 := rp1_S1
  have hI2 : zI f r C Z N (ma_put S1 88 3 (.inl (0 : Int32))) := zG_sp hI_S1 (0) (512) rfl (by decide) (by decide) (by decide) trivial (by omega) (by omega)
  have hI3 : zI f r C Z N (ma_put (ma_put S1 88 3 (.inl (0 : Int32))) 88 4 (.inl (0 : Int32))) := zG_sp hI2 (0) (512) rfl (by decide) (by decide) (by decide) trivial (by omega) (by omega)
  have hI4 : zI f r C Z N (ma_put (ma_put (ma_put S1 88 3 (.inl (0 : Int32))) 88 4 (.inl (0 : Int32))) 88 5 (.inl p)) := zG_fr hI3 rfl (by decide) (by decide) (by decide) trivial
  exact K _ hI4 (show xB (ma_put (ma_put (ma_put S1 88 3 (.inl (0 : Int32))) 88 4 (.inl (0 : Int32))) 88 5 (.inl p)) R from by first | (exact (xC_n (c := 88) (k := 5) (x := p) (xC_n (c := 88) (k := 4) (x := (0 : Int32)) (xC_n (c := 88) (k := 3) (x := (0 : Int32)) (xC_o (W := 75) rp0_S1) ⟨by decide, Or.inl ⟨rfl, rfl⟩⟩) ⟨by decide, Or.inl ⟨rfl, rfl⟩⟩) ⟨by decide, Or.inl ⟨rfl, rfl⟩⟩).2)) (show aS 88 (ma_put (ma_put (ma_put S1 88 3 (.inl (0 : Int32))) 88 4 (.inl (0 : Int32))) 88 5 (.inl p)) = aWh ab p from by first | (refine (xC_p (c := 88) (k := 5) (x := p) (xC_p (c := 88) (k := 4) (x := (0 : Int32)) (xC_p (c := 88) (k := 3) (x := (0 : Int32)) (xC_o (W := 88) rp0_S1) 75 xW88 rfl rfl) 75 xW88 rfl rfl) 75 xW88 rfl rfl).1.trans ?_; skip; rw [rp1_S1, hpre1]; rfl))

/-! from 95.g01 -/
/-! the heap by numbers, the class (written by wip/tools/gen18.py) -/
theorem g_118_88_s_0 {X : Nat × (Nat → Int32)} {d w : Nat} {S : ma_S} {Q : Option ma_V ⊕ Nat → ma_S → Prop}  (hd : 1 ≤ d) (hw : 21 ≤ w) (hS : zT S) (h : ma_wp X d w 118 2 [(0, .inr (.inr (some 88))), (1, .inl (0 : Int32))] [] S Q) : ma_wp X d w 118 0 [(0, .inr (.inr (some 88)))] [] S Q := by
  refine zw_push hm_118 dX10_comeFromRoots_0 (v := .inl (0 : Int32)) rfl ?_
  refine zw_sto hm_118 dX10_comeFromRoots_1 [(1, .inl (0 : Int32)), (0, .inr (.inr (some 88)))] rfl rfl rfl ?_
  exact zw_sub (ma_nd_of (ks := [0, 1]) rfl (by decide)) (ma_nd_of (ks := [1, 0]) rfl (by decide)) (ma_le_cons rfl (ma_le_cons rfl (ma_le_nil _))) h
theorem g_118_88_s_2 {X : Nat × (Nat → Int32)} {d w : Nat} {S : ma_S} {Q : Option ma_V ⊕ Nat → ma_S → Prop} (l1 : Int32) (hd : 1 ≤ d) (hw : 21 ≤ w) (hS : zT S) (h : if (16 : Int32) ≤ l1 then (ma_wp X d w 118 36 [(0, .inr (.inr (some 88))), (1, .inl (0 : Int32))] [] S Q) else ((0 ≤ l1 ∧ l1.toNatClampNeg < 16) ∧ (if (mI S 72 l1.toNatClampNeg) < 0 then (ma_wp X (d - 1) (w - 21) 119 0 [(0, .inr (.inr (some 88))), (1, .inr (.inr none))] [] S (zv (fun S1 => zT S1 ∧ (ma_wp X d w 118 2 [(0, .inr (.inr (some 88))), (1, .inl (l1 + (1 : Int32)))] [] S1 Q)) (fun x S9 => Q (.inr x) S9))) else (if (512 : Int32) ≤ (mI S 72 l1.toNatClampNeg) then (ma_wp X (d - 1) (w - 21) 119 0 [(0, .inr (.inr (some 88))), (1, .inr (.inr none))] [] S (zv (fun S3 => zT S3 ∧ (ma_wp X d w 118 2 [(0, .inr (.inr (some 88))), (1, .inl (l1 + (1 : Int32)))] [] S3 Q)) (fun x S9 => Q (.inr x) S9))) else ((0 ≤ (mI S 72 l1.toNatClampNeg) ∧ (mI S 72 l1.toNatClampNeg).toNatClampNeg < 512) ∧ (ma_wp X (d - 1) (w - 21) 119 0 [(0, .inr (.inr (some 88))), (1, .inr (.inr (mR S 70 (mI S 72 l1.toNatClampNeg).toNatClampNeg)))] [] S (zv (fun S5 => zT S5 ∧ (ma_wp X d w 118 2 [(0, .inr (.inr (some 88))), (1, .inl (l1 + (1 : Int32)))] [] S5 Q)) (fun x S9 => Q (.inr x) S9)))))))) : ma_wp X d w 118 2 [(0, .inr (.inr (some 88))), (1, .inl l1)] [] S Q := by
  refine zw_push hm_118 dX10_comeFromRoots_2 (v := .inl l1) rfl ?_
  refine zw_push hm_118 dX10_comeFromRoots_3 (v := .inl (16 : Int32)) rfl ?_
  refine zw_if2 hm_118 dX10_comeFromRoots_5 (t := 34) rfl zc2_ge ?_ ?_
  · intro hc
    rw [if_pos hc] at h
    refine zw_push hm_118 dX10_comeFromRoots_34 (v := .inl (0 : Int32)) rfl ?_
    refine zw_sto hm_118 dX10_comeFromRoots_35 [(1, .inl (0 : Int32)), (0, .inr (.inr (some 88)))] rfl rfl rfl ?_
    exact zw_sub (ma_nd_of (ks := [0, 1]) rfl (by decide)) (ma_nd_of (ks := [1, 0]) rfl (by decide)) (ma_le_cons rfl (ma_le_cons rfl (ma_le_nil _))) h
  · intro hc
    rw [if_neg hc] at h
    refine zw_push hm_118 dX10_comeFromRoots_8 (v := .inr (.inr (some 88))) rfl ?_
    refine zw_push hm_118 dX10_comeFromRoots_9 (v := .inr (.inr (some 88))) rfl ?_
    refine zw_gf hm_118 dX10_comeFromRoots_10 (v := .inr (.inr (some 69))) (zT_is hS s_88) (zT_t hS s_88) rfl f_10_18_10 (zT_f hS r_88_0) ?_
    refine zw_push hm_118 dX10_comeFromRoots_13 (v := .inr (.inr (some 88))) rfl ?_
    refine zw_gf hm_118 dX10_comeFromRoots_14 (v := .inr (.inr (some 69))) (zT_is hS s_88) (zT_t hS s_88) rfl f_10_18_10 (zT_f hS r_88_0) ?_
    refine zw_gf hm_118 dX10_comeFromRoots_17 (v := .inr (.inr (some 72))) (zT_is hS s_69) (zT_t hS s_69) rfl f_10_61_7 (zT_f hS r_69_2) ?_
    refine zw_push hm_118 dX10_comeFromRoots_20 (v := .inl l1) rfl ?_
    obtain ⟨hg, h⟩ := h
    refine zw_ia hm_118 dX10_comeFromRoots_21 (zT_is hS s_72) (zT_h hS s_72) rfl hg ?_
    show ma_wp X d w 118 22 [(0, .inr (.inr (some 88))), (1, .inl l1)] [.inl (mI S 72 l1.toNatClampNeg), .inr (.inr (some 69)), .inr (.inr (some 88))] S _
    refine zw_cv hm_118 dX10_comeFromRoots_22 v_10_66_7 hm_81 [.inl (mI S 72 l1.toNatClampNeg)] [.inr (.inr (some 88))] rfl (zT_rt hS s_69 rfl) ⟨by omega, by omega⟩ rfl ?_
    show ma_wp X (d - 1) (w - 21) 81 0 [(0, .inr (.inr (some 69))), (1, .inl (mI S 72 l1.toNatClampNeg))] [] S _
    refine zw_push hm_81 dX7_thingAt_0 (v := .inl (mI S 72 l1.toNatClampNeg)) rfl ?_
    refine zw_if0 hm_81 dX7_thingAt_1 (t := 20) rfl zc0_lt ?_ ?_
    · intro hc
      rw [if_pos hc] at h
      refine zw_push hm_81 dX7_thingAt_20 (v := .inr (.inr none)) rfl ?_
      refine zw_aret hm_81 dX7_thingAt_21 ?_
      show ma_wp X d w 118 25 [(0, .inr (.inr (some 88))), (1, .inl l1)] [.inr (.inr none), .inr (.inr (some 88))] S _
      refine zw_cv hm_118 dX10_comeFromRoots_25 v_10_70_10 hm_119 [.inr (.inr none)] [] rfl (zT_rt hS s_88 rfl) ⟨by omega, by omega⟩ rfl (zw_mono h (zv_go ?_ ?_))
      · intro S1 hv
        obtain ⟨hS1, h⟩ := hv
        refine zw_sto hm_118 dX10_comeFromRoots_28 [(1, .inl (l1 + (1 : Int32))), (0, .inr (.inr (some 88)))] rfl rfl rfl ?_
        refine zw_goto hm_118 dX10_comeFromRoots_31 (t := 2) rfl ?_
        exact zw_sub (ma_nd_of (ks := [0, 1]) rfl (by decide)) (ma_nd_of (ks := [1, 0]) rfl (by decide)) (ma_le_cons rfl (ma_le_cons rfl (ma_le_nil _))) h
      · intro x S9 hx
        exact ⟨by decide, hx⟩
    · intro hc
      rw [if_neg hc] at h
      refine zw_push hm_81 dX7_thingAt_4 (v := .inl (mI S 72 l1.toNatClampNeg)) rfl ?_
      refine zw_push hm_81 dX7_thingAt_5 (v := .inl (512 : Int32)) rfl ?_
      refine zw_if2 hm_81 dX7_thingAt_8 (t := 20) rfl zc2_ge ?_ ?_
      · intro hc
        rw [if_pos hc] at h
        refine zw_push hm_81 dX7_thingAt_20 (v := .inr (.inr none)) rfl ?_
        refine zw_aret hm_81 dX7_thingAt_21 ?_
        show ma_wp X d w 118 25 [(0, .inr (.inr (some 88))), (1, .inl l1)] [.inr (.inr none), .inr (.inr (some 88))] S _
        refine zw_cv hm_118 dX10_comeFromRoots_25 v_10_70_10 hm_119 [.inr (.inr none)] [] rfl (zT_rt hS s_88 rfl) ⟨by omega, by omega⟩ rfl (zw_mono h (zv_go ?_ ?_))
        · intro S3 hv
          obtain ⟨hS3, h⟩ := hv
          refine zw_sto hm_118 dX10_comeFromRoots_28 [(1, .inl (l1 + (1 : Int32))), (0, .inr (.inr (some 88)))] rfl rfl rfl ?_
          refine zw_goto hm_118 dX10_comeFromRoots_31 (t := 2) rfl ?_
          exact zw_sub (ma_nd_of (ks := [0, 1]) rfl (by decide)) (ma_nd_of (ks := [1, 0]) rfl (by decide)) (ma_le_cons rfl (ma_le_cons rfl (ma_le_nil _))) h
        · intro x S9 hx
          exact ⟨by decide, hx⟩
      · intro hc
        rw [if_neg hc] at h
        refine zw_push hm_81 dX7_thingAt_11 (v := .inr (.inr (some 69))) rfl ?_
        refine zw_gf hm_81 dX7_thingAt_12 (v := .inr (.inr (some 70))) (zT_is hS s_69) (zT_t hS s_69) rfl f_7_11_7 (zT_f hS r_69_0) ?_
        refine zw_push hm_81 dX7_thingAt_15 (v := .inl (mI S 72 l1.toNatClampNeg)) rfl ?_
        obtain ⟨hg, h⟩ := h
        refine zw_aa hm_81 dX7_thingAt_16 (zT_is hS s_70) (zT_h hS s_70) rfl rfl hg rfl ?_
        show ma_wp X (d - 1) (w - 21) 81 17 [(0, .inr (.inr (some 69))), (1, .inl (mI S 72 l1.toNatClampNeg))] [.inr (.inr (mR S 70 (mI S 72 l1.toNatClampNeg).toNatClampNeg))] S _
        refine zw_goto hm_81 dX7_thingAt_17 (t := 21) rfl ?_
        refine zw_aret hm_81 dX7_thingAt_21 ?_
        show ma_wp X d w 118 25 [(0, .inr (.inr (some 88))), (1, .inl l1)] [.inr (.inr (mR S 70 (mI S 72 l1.toNatClampNeg).toNatClampNeg)), .inr (.inr (some 88))] S _
        refine zw_cv hm_118 dX10_comeFromRoots_25 v_10_70_10 hm_119 [.inr (.inr (mR S 70 (mI S 72 l1.toNatClampNeg).toNatClampNeg))] [] rfl (zT_rt hS s_88 rfl) ⟨by omega, by omega⟩ rfl (zw_mono h (zv_go ?_ ?_))
        · intro S5 hv
          obtain ⟨hS5, h⟩ := hv
          refine zw_sto hm_118 dX10_comeFromRoots_28 [(1, .inl (l1 + (1 : Int32))), (0, .inr (.inr (some 88)))] rfl rfl rfl ?_
          refine zw_goto hm_118 dX10_comeFromRoots_31 (t := 2) rfl ?_
          exact zw_sub (ma_nd_of (ks := [0, 1]) rfl (by decide)) (ma_nd_of (ks := [1, 0]) rfl (by decide)) (ma_le_cons rfl (ma_le_cons rfl (ma_le_nil _))) h
        · intro x S9 hx
          exact ⟨by decide, hx⟩
theorem g_118_88_s_36 {X : Nat × (Nat → Int32)} {d w : Nat} {S : ma_S} {Q : Option ma_V ⊕ Nat → ma_S → Prop} (l1 : Int32) (hd : 1 ≤ d) (hw : 21 ≤ w) (hS : zT S) (h : if (mI S 69 5) ≤ l1 then (ma_wp X d w 118 75 [(0, .inr (.inr (some 88))), (1, .inl (0 : Int32))] [] S Q) else ((0 ≤ l1 ∧ l1.toNatClampNeg < 512) ∧ (if (mI S 74 l1.toNatClampNeg) < 0 then (ma_wp X (d - 1) (w - 21) 119 0 [(0, .inr (.inr (some 88))), (1, .inr (.inr none))] [] S (zv (fun S1 => zT S1 ∧ (ma_wp X d w 118 36 [(0, .inr (.inr (some 88))), (1, .inl (l1 + (1 : Int32)))] [] S1 Q)) (fun x S9 => Q (.inr x) S9))) else (if (512 : Int32) ≤ (mI S 74 l1.toNatClampNeg) then (ma_wp X (d - 1) (w - 21) 119 0 [(0, .inr (.inr (some 88))), (1, .inr (.inr none))] [] S (zv (fun S3 => zT S3 ∧ (ma_wp X d w 118 36 [(0, .inr (.inr (some 88))), (1, .inl (l1 + (1 : Int32)))] [] S3 Q)) (fun x S9 => Q (.inr x) S9))) else ((0 ≤ (mI S 74 l1.toNatClampNeg) ∧ (mI S 74 l1.toNatClampNeg).toNatClampNeg < 512) ∧ (ma_wp X (d - 1) (w - 21) 119 0 [(0, .inr (.inr (some 88))), (1, .inr (.inr (mR S 70 (mI S 74 l1.toNatClampNeg).toNatClampNeg)))] [] S (zv (fun S5 => zT S5 ∧ (ma_wp X d w 118 36 [(0, .inr (.inr (some 88))), (1, .inl (l1 + (1 : Int32)))] [] S5 Q)) (fun x S9 => Q (.inr x) S9)))))))) : ma_wp X d w 118 36 [(0, .inr (.inr (some 88))), (1, .inl l1)] [] S Q := by
  refine zw_push hm_118 dX10_comeFromRoots_36 (v := .inl l1) rfl ?_
  refine zw_push hm_118 dX10_comeFromRoots_37 (v := .inr (.inr (some 88))) rfl ?_
  refine zw_gf hm_118 dX10_comeFromRoots_38 (v := .inr (.inr (some 69))) (zT_is hS s_88) (zT_t hS s_88) rfl f_10_18_10 (zT_f hS r_88_0) ?_
  refine zw_gf hm_118 dX10_comeFromRoots_41 (v := .inl (mI S 69 5)) (zT_is hS s_69) (zT_t hS s_69) rfl f_10_74_7 rfl ?_
  refine zw_if2 hm_118 dX10_comeFromRoots_44 (t := 73) rfl zc2_ge ?_ ?_
  · intro hc
    rw [if_pos hc] at h
    refine zw_push hm_118 dX10_comeFromRoots_73 (v := .inl (0 : Int32)) rfl ?_
    refine zw_sto hm_118 dX10_comeFromRoots_74 [(1, .inl (0 : Int32)), (0, .inr (.inr (some 88)))] rfl rfl rfl ?_
    exact zw_sub (ma_nd_of (ks := [0, 1]) rfl (by decide)) (ma_nd_of (ks := [1, 0]) rfl (by decide)) (ma_le_cons rfl (ma_le_cons rfl (ma_le_nil _))) h
  · intro hc
    rw [if_neg hc] at h
    refine zw_push hm_118 dX10_comeFromRoots_47 (v := .inr (.inr (some 88))) rfl ?_
    refine zw_push hm_118 dX10_comeFromRoots_48 (v := .inr (.inr (some 88))) rfl ?_
    refine zw_gf hm_118 dX10_comeFromRoots_49 (v := .inr (.inr (some 69))) (zT_is hS s_88) (zT_t hS s_88) rfl f_10_18_10 (zT_f hS r_88_0) ?_
    refine zw_push hm_118 dX10_comeFromRoots_52 (v := .inr (.inr (some 88))) rfl ?_
    refine zw_gf hm_118 dX10_comeFromRoots_53 (v := .inr (.inr (some 69))) (zT_is hS s_88) (zT_t hS s_88) rfl f_10_18_10 (zT_f hS r_88_0) ?_
    refine zw_gf hm_118 dX10_comeFromRoots_56 (v := .inr (.inr (some 74))) (zT_is hS s_69) (zT_t hS s_69) rfl f_10_77_7 (zT_f hS r_69_4) ?_
    refine zw_push hm_118 dX10_comeFromRoots_59 (v := .inl l1) rfl ?_
    obtain ⟨hg, h⟩ := h
    refine zw_ia hm_118 dX10_comeFromRoots_60 (zT_is hS s_74) (zT_h hS s_74) rfl hg ?_
    show ma_wp X d w 118 61 [(0, .inr (.inr (some 88))), (1, .inl l1)] [.inl (mI S 74 l1.toNatClampNeg), .inr (.inr (some 69)), .inr (.inr (some 88))] S _
    refine zw_cv hm_118 dX10_comeFromRoots_61 v_10_66_7 hm_81 [.inl (mI S 74 l1.toNatClampNeg)] [.inr (.inr (some 88))] rfl (zT_rt hS s_69 rfl) ⟨by omega, by omega⟩ rfl ?_
    show ma_wp X (d - 1) (w - 21) 81 0 [(0, .inr (.inr (some 69))), (1, .inl (mI S 74 l1.toNatClampNeg))] [] S _
    refine zw_push hm_81 dX7_thingAt_0 (v := .inl (mI S 74 l1.toNatClampNeg)) rfl ?_
    refine zw_if0 hm_81 dX7_thingAt_1 (t := 20) rfl zc0_lt ?_ ?_
    · intro hc
      rw [if_pos hc] at h
      refine zw_push hm_81 dX7_thingAt_20 (v := .inr (.inr none)) rfl ?_
      refine zw_aret hm_81 dX7_thingAt_21 ?_
      show ma_wp X d w 118 64 [(0, .inr (.inr (some 88))), (1, .inl l1)] [.inr (.inr none), .inr (.inr (some 88))] S _
      refine zw_cv hm_118 dX10_comeFromRoots_64 v_10_70_10 hm_119 [.inr (.inr none)] [] rfl (zT_rt hS s_88 rfl) ⟨by omega, by omega⟩ rfl (zw_mono h (zv_go ?_ ?_))
      · intro S1 hv
        obtain ⟨hS1, h⟩ := hv
        refine zw_sto hm_118 dX10_comeFromRoots_67 [(1, .inl (l1 + (1 : Int32))), (0, .inr (.inr (some 88)))] rfl rfl rfl ?_
        refine zw_goto hm_118 dX10_comeFromRoots_70 (t := 36) rfl ?_
        exact zw_sub (ma_nd_of (ks := [0, 1]) rfl (by decide)) (ma_nd_of (ks := [1, 0]) rfl (by decide)) (ma_le_cons rfl (ma_le_cons rfl (ma_le_nil _))) h
      · intro x S9 hx
        exact ⟨by decide, hx⟩
    · intro hc
      rw [if_neg hc] at h
      refine zw_push hm_81 dX7_thingAt_4 (v := .inl (mI S 74 l1.toNatClampNeg)) rfl ?_
      refine zw_push hm_81 dX7_thingAt_5 (v := .inl (512 : Int32)) rfl ?_
      refine zw_if2 hm_81 dX7_thingAt_8 (t := 20) rfl zc2_ge ?_ ?_
      · intro hc
        rw [if_pos hc] at h
        refine zw_push hm_81 dX7_thingAt_20 (v := .inr (.inr none)) rfl ?_
        refine zw_aret hm_81 dX7_thingAt_21 ?_
        show ma_wp X d w 118 64 [(0, .inr (.inr (some 88))), (1, .inl l1)] [.inr (.inr none), .inr (.inr (some 88))] S _
        refine zw_cv hm_118 dX10_comeFromRoots_64 v_10_70_10 hm_119 [.inr (.inr none)] [] rfl (zT_rt hS s_88 rfl) ⟨by omega, by omega⟩ rfl (zw_mono h (zv_go ?_ ?_))
        · intro S3 hv
          obtain ⟨hS3, h⟩ := hv
          refine zw_sto hm_118 dX10_comeFromRoots_67 [(1, .inl (l1 + (1 : Int32))), (0, .inr (.inr (some 88)))] rfl rfl rfl ?_
          refine zw_goto hm_118 dX10_comeFromRoots_70 (t := 36) rfl ?_
          exact zw_sub (ma_nd_of (ks := [0, 1]) rfl (by decide)) (ma_nd_of (ks := [1, 0]) rfl (by decide)) (ma_le_cons rfl (ma_le_cons rfl (ma_le_nil _))) h
        · intro x S9 hx
          exact ⟨by decide, hx⟩
      · intro hc
        rw [if_neg hc] at h
        refine zw_push hm_81 dX7_thingAt_11 (v := .inr (.inr (some 69))) rfl ?_
        refine zw_gf hm_81 dX7_thingAt_12 (v := .inr (.inr (some 70))) (zT_is hS s_69) (zT_t hS s_69) rfl f_7_11_7 (zT_f hS r_69_0) ?_
        refine zw_push hm_81 dX7_thingAt_15 (v := .inl (mI S 74 l1.toNatClampNeg)) rfl ?_
        obtain ⟨hg, h⟩ := h
        refine zw_aa hm_81 dX7_thingAt_16 (zT_is hS s_70) (zT_h hS s_70) rfl rfl hg rfl ?_
        show ma_wp X (d - 1) (w - 21) 81 17 [(0, .inr (.inr (some 69))), (1, .inl (mI S 74 l1.toNatClampNeg))] [.inr (.inr (mR S 70 (mI S 74 l1.toNatClampNeg).toNatClampNeg))] S _
        refine zw_goto hm_81 dX7_thingAt_17 (t := 21) rfl ?_
        refine zw_aret hm_81 dX7_thingAt_21 ?_
        show ma_wp X d w 118 64 [(0, .inr (.inr (some 88))), (1, .inl l1)] [.inr (.inr (mR S 70 (mI S 74 l1.toNatClampNeg).toNatClampNeg)), .inr (.inr (some 88))] S _
        refine zw_cv hm_118 dX10_comeFromRoots_64 v_10_70_10 hm_119 [.inr (.inr (mR S 70 (mI S 74 l1.toNatClampNeg).toNatClampNeg))] [] rfl (zT_rt hS s_88 rfl) ⟨by omega, by omega⟩ rfl (zw_mono h (zv_go ?_ ?_))
        · intro S5 hv
          obtain ⟨hS5, h⟩ := hv
          refine zw_sto hm_118 dX10_comeFromRoots_67 [(1, .inl (l1 + (1 : Int32))), (0, .inr (.inr (some 88)))] rfl rfl rfl ?_
          refine zw_goto hm_118 dX10_comeFromRoots_70 (t := 36) rfl ?_
          exact zw_sub (ma_nd_of (ks := [0, 1]) rfl (by decide)) (ma_nd_of (ks := [1, 0]) rfl (by decide)) (ma_le_cons rfl (ma_le_cons rfl (ma_le_nil _))) h
        · intro x S9 hx
          exact ⟨by decide, hx⟩
theorem g_118_88_s_75 {X : Nat × (Nat → Int32)} {d w : Nat} {S : ma_S} {Q : Option ma_V ⊕ Nat → ma_S → Prop} (l1 : Int32) (hd : 1 ≤ d) (hw : 21 ≤ w) (hS : zT S) (h : if (mI S 69 6) ≤ l1 then (Q (.inl none) S) else (if l1 < 0 then (ma_wp X d w 118 75 [(0, .inr (.inr (some 88))), (1, .inl (l1 + (1 : Int32)))] [] S Q) else (if (512 : Int32) ≤ l1 then (ma_wp X d w 118 75 [(0, .inr (.inr (some 88))), (1, .inl (l1 + (1 : Int32)))] [] S Q) else ((0 ≤ l1 ∧ l1.toNatClampNeg < 512) ∧ (((mR S 70 l1.toNatClampNeg) = none → ma_wp X d w 118 75 [(0, .inr (.inr (some 88))), (1, .inl (l1 + (1 : Int32)))] [] S Q) ∧ (∀ c1, (mR S 70 l1.toNatClampNeg) = some c1 → (126 ≤ c1 ∧ c1 < mN S) ∧ (if (mI S c1 7) ≤ 0 then (ma_wp X d w 118 75 [(0, .inr (.inr (some 88))), (1, .inl (l1 + (1 : Int32)))] [] S Q) else (ma_wp X (d - 1) (w - 21) 119 0 [(0, .inr (.inr (some 88))), (1, .inr (.inr (some c1)))] [] S (zv (fun S2 => zT S2 ∧ (ma_wp X d w 118 75 [(0, .inr (.inr (some 88))), (1, .inl (l1 + (1 : Int32)))] [] S2 Q)) (fun x S9 => Q (.inr x) S9)))))))))) : ma_wp X d w 118 75 [(0, .inr (.inr (some 88))), (1, .inl l1)] [] S Q := by
  refine zw_push hm_118 dX10_comeFromRoots_75 (v := .inl l1) rfl ?_
  refine zw_push hm_118 dX10_comeFromRoots_76 (v := .inr (.inr (some 88))) rfl ?_
  refine zw_gf hm_118 dX10_comeFromRoots_77 (v := .inr (.inr (some 69))) (zT_is hS s_88) (zT_t hS s_88) rfl f_10_18_10 (zT_f hS r_88_0) ?_
  refine zw_gf hm_118 dX10_comeFromRoots_80 (v := .inl (mI S 69 6)) (zT_is hS s_69) (zT_t hS s_69) rfl f_10_80_7 rfl ?_
  refine zw_if2 hm_118 dX10_comeFromRoots_83 (t := 117) rfl zc2_ge ?_ ?_
  · intro hc
    rw [if_pos hc] at h
    exact zw_vret hm_118 dX10_comeFromRoots_117 h
  · intro hc
    rw [if_neg hc] at h
    refine zw_push hm_118 dX10_comeFromRoots_86 (v := .inr (.inr (some 88))) rfl ?_
    refine zw_gf hm_118 dX10_comeFromRoots_87 (v := .inr (.inr (some 69))) (zT_is hS s_88) (zT_t hS s_88) rfl f_10_18_10 (zT_f hS r_88_0) ?_
    refine zw_push hm_118 dX10_comeFromRoots_90 (v := .inl l1) rfl ?_
    refine zw_cv hm_118 dX10_comeFromRoots_91 v_10_66_7 hm_81 [.inl l1] [] rfl (zT_rt hS s_69 rfl) ⟨by omega, by omega⟩ rfl ?_
    show ma_wp X (d - 1) (w - 21) 81 0 [(0, .inr (.inr (some 69))), (1, .inl l1)] [] S _
    refine zw_push hm_81 dX7_thingAt_0 (v := .inl l1) rfl ?_
    refine zw_if0 hm_81 dX7_thingAt_1 (t := 20) rfl zc0_lt ?_ ?_
    · intro hc
      rw [if_pos hc] at h
      refine zw_push hm_81 dX7_thingAt_20 (v := .inr (.inr none)) rfl ?_
      refine zw_aret hm_81 dX7_thingAt_21 ?_
      show ma_wp X d w 118 94 [(0, .inr (.inr (some 88))), (1, .inl l1)] [.inr (.inr none)] S _
      refine zw_sto hm_118 dX10_comeFromRoots_94 [(2, .inr (.inr none)), (0, .inr (.inr (some 88))), (1, .inl l1)] rfl rfl rfl ?_
      refine zw_push hm_118 dX10_comeFromRoots_95 (v := .inr (.inr none)) rfl ?_
      refine zw_ifnull hm_118 dX10_comeFromRoots_96 (t := 111) rfl (fun _ => ?_) (fun _ z => by cases z)
      refine zw_sto hm_118 dX10_comeFromRoots_111 [(1, .inl (l1 + (1 : Int32))), (2, .inr (.inr none)), (0, .inr (.inr (some 88)))] rfl rfl rfl ?_
      refine zw_goto hm_118 dX10_comeFromRoots_114 (t := 75) rfl ?_
      exact zw_sub (ma_nd_of (ks := [0, 1]) rfl (by decide)) (ma_nd_of (ks := [1, 2, 0]) rfl (by decide)) (ma_le_cons rfl (ma_le_cons rfl (ma_le_nil _))) h
    · intro hc
      rw [if_neg hc] at h
      refine zw_push hm_81 dX7_thingAt_4 (v := .inl l1) rfl ?_
      refine zw_push hm_81 dX7_thingAt_5 (v := .inl (512 : Int32)) rfl ?_
      refine zw_if2 hm_81 dX7_thingAt_8 (t := 20) rfl zc2_ge ?_ ?_
      · intro hc
        rw [if_pos hc] at h
        refine zw_push hm_81 dX7_thingAt_20 (v := .inr (.inr none)) rfl ?_
        refine zw_aret hm_81 dX7_thingAt_21 ?_
        show ma_wp X d w 118 94 [(0, .inr (.inr (some 88))), (1, .inl l1)] [.inr (.inr none)] S _
        refine zw_sto hm_118 dX10_comeFromRoots_94 [(2, .inr (.inr none)), (0, .inr (.inr (some 88))), (1, .inl l1)] rfl rfl rfl ?_
        refine zw_push hm_118 dX10_comeFromRoots_95 (v := .inr (.inr none)) rfl ?_
        refine zw_ifnull hm_118 dX10_comeFromRoots_96 (t := 111) rfl (fun _ => ?_) (fun _ z => by cases z)
        refine zw_sto hm_118 dX10_comeFromRoots_111 [(1, .inl (l1 + (1 : Int32))), (2, .inr (.inr none)), (0, .inr (.inr (some 88)))] rfl rfl rfl ?_
        refine zw_goto hm_118 dX10_comeFromRoots_114 (t := 75) rfl ?_
        exact zw_sub (ma_nd_of (ks := [0, 1]) rfl (by decide)) (ma_nd_of (ks := [1, 2, 0]) rfl (by decide)) (ma_le_cons rfl (ma_le_cons rfl (ma_le_nil _))) h
      · intro hc
        rw [if_neg hc] at h
        refine zw_push hm_81 dX7_thingAt_11 (v := .inr (.inr (some 69))) rfl ?_
        refine zw_gf hm_81 dX7_thingAt_12 (v := .inr (.inr (some 70))) (zT_is hS s_69) (zT_t hS s_69) rfl f_7_11_7 (zT_f hS r_69_0) ?_
        refine zw_push hm_81 dX7_thingAt_15 (v := .inl l1) rfl ?_
        obtain ⟨hg, h⟩ := h
        refine zw_aa hm_81 dX7_thingAt_16 (zT_is hS s_70) (zT_h hS s_70) rfl rfl hg rfl ?_
        show ma_wp X (d - 1) (w - 21) 81 17 [(0, .inr (.inr (some 69))), (1, .inl l1)] [.inr (.inr (mR S 70 l1.toNatClampNeg))] S _
        refine zw_goto hm_81 dX7_thingAt_17 (t := 21) rfl ?_
        refine zw_aret hm_81 dX7_thingAt_21 ?_
        show ma_wp X d w 118 94 [(0, .inr (.inr (some 88))), (1, .inl l1)] [.inr (.inr (mR S 70 l1.toNatClampNeg))] S _
        refine zw_sto hm_118 dX10_comeFromRoots_94 [(2, .inr (.inr (mR S 70 l1.toNatClampNeg))), (0, .inr (.inr (some 88))), (1, .inl l1)] rfl rfl rfl ?_
        refine zw_push hm_118 dX10_comeFromRoots_95 (v := .inr (.inr (mR S 70 l1.toNatClampNeg))) rfl ?_
        refine zw_ifnull hm_118 dX10_comeFromRoots_96 (t := 111) rfl ?_ ?_
        · intro hc
          have h := h.1 hc
          (try rw [hc])
          show ma_wp X d w 118 111 [(2, .inr (.inr none)), (0, .inr (.inr (some 88))), (1, .inl l1)] [] S _
          refine zw_sto hm_118 dX10_comeFromRoots_111 [(1, .inl (l1 + (1 : Int32))), (2, .inr (.inr none)), (0, .inr (.inr (some 88)))] rfl rfl rfl ?_
          refine zw_goto hm_118 dX10_comeFromRoots_114 (t := 75) rfl ?_
          exact zw_sub (ma_nd_of (ks := [0, 1]) rfl (by decide)) (ma_nd_of (ks := [1, 2, 0]) rfl (by decide)) (ma_le_cons rfl (ma_le_cons rfl (ma_le_nil _))) h
        · intro c1 hc
          have h := h.2 c1 hc
          (try rw [hc])
          show ma_wp X d w 118 99 [(2, .inr (.inr (some c1))), (0, .inr (.inr (some 88))), (1, .inl l1)] [] S _
          refine zw_push hm_118 dX10_comeFromRoots_99 (v := .inr (.inr (some c1))) rfl ?_
          obtain ⟨hg, h⟩ := h
          refine zw_gf hm_118 dX10_comeFromRoots_100 (v := .inl (mI S c1 7)) (zT_tis hS hg) (zT_tt hS hg) rfl f_10_83_9 rfl ?_
          refine zw_if0 hm_118 dX10_comeFromRoots_103 (t := 111) rfl zc0_le ?_ ?_
          · intro hc
            rw [if_pos hc] at h
            refine zw_sto hm_118 dX10_comeFromRoots_111 [(1, .inl (l1 + (1 : Int32))), (2, .inr (.inr (some c1))), (0, .inr (.inr (some 88)))] rfl rfl rfl ?_
            refine zw_goto hm_118 dX10_comeFromRoots_114 (t := 75) rfl ?_
            exact zw_sub (ma_nd_of (ks := [0, 1]) rfl (by decide)) (ma_nd_of (ks := [1, 2, 0]) rfl (by decide)) (ma_le_cons rfl (ma_le_cons rfl (ma_le_nil _))) h
          · intro hc
            rw [if_neg hc] at h
            refine zw_push hm_118 dX10_comeFromRoots_106 (v := .inr (.inr (some 88))) rfl ?_
            refine zw_push hm_118 dX10_comeFromRoots_107 (v := .inr (.inr (some c1))) rfl ?_
            refine zw_cv hm_118 dX10_comeFromRoots_108 v_10_70_10 hm_119 [.inr (.inr (some c1))] [] rfl (zT_rt hS s_88 rfl) ⟨by omega, by omega⟩ rfl (zw_mono h (zv_go ?_ ?_))
            · intro S2 hv
              obtain ⟨hS2, h⟩ := hv
              refine zw_sto hm_118 dX10_comeFromRoots_111 [(1, .inl (l1 + (1 : Int32))), (2, .inr (.inr (some c1))), (0, .inr (.inr (some 88)))] rfl rfl rfl ?_
              refine zw_goto hm_118 dX10_comeFromRoots_114 (t := 75) rfl ?_
              exact zw_sub (ma_nd_of (ks := [0, 1]) rfl (by decide)) (ma_nd_of (ks := [1, 2, 0]) rfl (by decide)) (ma_le_cons rfl (ma_le_cons rfl (ma_le_nil _))) h
            · intro x S9 hx
              exact ⟨by decide, hx⟩
theorem lp_118_88_s_75 {X : Nat × (Nat → Int32)} {d w : Nat} {f : Nat → Nat → Int32} {r : Nat → Nat → Option Nat} {C Z N : Nat} {Q : Option ma_V ⊕ Nat → ma_S → Prop} {ab : Nat→Nat→Int32} {R : zRT} (hd : 1 ≤ d) (hw : 21 ≤ w) (K : ∀ S₉, zI f r C Z N S₉ → (xB S₉ R) → (aS 88 S₉ = aRo ab 0) → Q (.inl none) S₉) : ∀ (n : Nat) (S : ma_S) (l1 : Int32), (512 - l1.toInt).toNat = n → zI f r C Z N S → (0 ≤ l1.toInt) → (xB S R) → (aHo (aS 88 S) l1 = aRo ab 0) → ma_wp X d w 118 75 [(0, .inr (.inr (some 88))), (1, .inl l1)] [] S Q := by
  intro n
  induction n using Nat.strongRecOn with
  | _ n IH =>
    intro S l1 hmu hI  hi0 hi1 hi2
    refine g_118_88_s_75 l1 (by omega) (by omega) (zG_T hI) ?_
    have r6 := congrArg Int32.toInt (aS_I (W := 88) (S := S) (c := 69) (c₉ := 69) (k := 6) rfl rfl)
    have f1 := zG_s hI (0) (512) (c := 69) (k := 6) (by decide)
    have b2 := i_bd l1
    refine zd (fun h3 => ?_) (fun h3 => ?_)
    · skip
      have g4 := i_le h3
      exact K _ hI (show xB S R from by first | (exact (xC_o (W := 75) hi1).2)) (show aS 88 S = aRo ab 0 from by first | (exact (aHo_st (by omega)).symm.trans hi2))
    · skip
      have g5 := i_nle h3
      have li6 : (0 : Int32).toInt = 0 := rfl
      refine zd (fun h7 => ?_) (fun h7 => ?_)
      · skip
        have g8 := i_lt h7
        first | have e9 : (l1 + (1 : Int32)).toInt = l1.toInt + (1) := i_addk rfl (by omega) (by omega) | have b10 := i_bd (l1 + (1 : Int32))
        exact IH _ (by omega) _ ((l1 + (1 : Int32))) rfl hI (by omega) (show xB S R from by first | (exact (xC_o (W := 75) hi1).2)) (show aHo (aS 88 S) ((l1 + (1 : Int32))) = aRo ab 0 from by first | (exact (aHo_n (by omega) (fun z => by omega)).symm.trans hi2))
      · skip
        have g11 := i_nlt h7
        have li12 : (512 : Int32).toInt = 512 := rfl
        refine zd (fun h13 => ?_) (fun h13 => ?_)
        · skip
          have g14 := i_le h13
          first | have e15 : (l1 + (1 : Int32)).toInt = l1.toInt + (1) := i_addk rfl (by omega) (by omega) | have b16 := i_bd (l1 + (1 : Int32))
          exact IH _ (by omega) _ ((l1 + (1 : Int32))) rfl hI (by omega) (show xB S R from by first | (exact (xC_o (W := 75) hi1).2)) (show aHo (aS 88 S) ((l1 + (1 : Int32))) = aRo ab 0 from by first | (exact (aHo_n (by omega) (fun z => by omega)).symm.trans hi2))
        · skip
          have g17 := i_nle h13
          refine ⟨i_ix (by omega) (by omega), ?_⟩
          refine ⟨fun hc => ?_, fun c1 hc => ?_⟩
          · skip
            have rn_c1 : zTa R l1 = none := (ta_rd (y := l1) hi1 (by omega) (by omega)).symm.trans hc
            first | have e18 : (l1 + (1 : Int32)).toInt = l1.toInt + (1) := i_addk rfl (by omega) (by omega) | have b19 := i_bd (l1 + (1 : Int32))
            exact IH _ (by omega) _ ((l1 + (1 : Int32))) rfl hI (by omega) (show xB S R from by first | (exact (xC_o (W := 75) hi1).2)) (show aHo (aS 88 S) ((l1 + (1 : Int32))) = aRo ab 0 from by first | (exact (aHo_n (by omega) (fun z => xB_nt (W := 88) hi1 rn_c1 ⟨z.1, z.2.1, z.2.2.1⟩)).symm.trans hi2))
          · skip
            have th_c1 := (fun _ z => zG_70 hI (c := 70) (by decide) z) c1 hc
            have rg_c1 : zTa R l1 = some c1 := (ta_rd (y := l1) hi1 (by omega) (by omega)).symm.trans hc
            refine ⟨zG_n hI th_c1, ?_⟩
            have b20 := i_bd (mI S c1 7)
            refine zd (fun h21 => ?_) (fun h21 => ?_)
            · skip
              have g22 := i_le h21
              first | have e23 : (l1 + (1 : Int32)).toInt = l1.toInt + (1) := i_addk rfl (by omega) (by omega) | have b24 := i_bd (l1 + (1 : Int32))
              exact IH _ (by omega) _ ((l1 + (1 : Int32))) rfl hI (by omega) (show xB S R from by first | (exact (xC_o (W := 75) hi1).2)) (show aHo (aS 88 S) ((l1 + (1 : Int32))) = aRo ab 0 from by first | (have ty := xB_th (W := 88) hi1 rg_c1; have e7 := congrArg Int32.toInt ty.2.2.2.2.2.2.1; exact (aHo_n (by omega) (fun z => by have q := z.2.2.2; omega)).symm.trans hi2))
            · skip
              have g25 := i_nle h21
              refine sp_119_88_s (ab := (aS 88 S)) (R := R) (y := (l1)) ((some c1)) (by omega) (by omega) hI (fun _ z => by cases z; exact th_c1) (show xB S R from by first | (exact (xC_o (W := 75) hi1).2)) (show aS 88 S = (aS 88 S) from by first | (exact rfl)) (show (some c1) = zTa R (l1) from by first | (exact rg_c1.symm)) (fun S2 hI_S2 rp0_S2 rp1_S2 => zv_n ⟨zG_T hI_S2, ?_⟩)
              have rp0_S2 : xB S2 R := rp0_S2
              have rp1_S2 : aS 88 S2 = aCm (aS 88 S) (l1) := rp1_S2
              first | have e26 : (l1 + (1 : Int32)).toInt = l1.toInt + (1) := i_addk rfl (by omega) (by omega) | have b27 := i_bd (l1 + (1 : Int32))
              exact IH _ (by omega) _ ((l1 + (1 : Int32))) rfl hI_S2 (by omega) (show xB S2 R from by first | (exact (xC_o (W := 75) rp0_S2).2)) (show aHo (aS 88 S2) ((l1 + (1 : Int32))) = aRo ab 0 from by first | (have ty := xB_th (W := 88) hi1 rg_c1; have e7 := congrArg Int32.toInt ty.2.2.2.2.2.2.1; rw [rp1_S2]; exact (aHo_y (by omega) ⟨ty.1, ty.2.1, (by rw [ty.2.2.2.2.2.2.2.2]; decide), (by omega)⟩).symm.trans hi2))
theorem lp_118_88_s_36 {X : Nat × (Nat → Int32)} {d w : Nat} {f : Nat → Nat → Int32} {r : Nat → Nat → Option Nat} {C Z N : Nat} {Q : Option ma_V ⊕ Nat → ma_S → Prop} {ab : Nat→Nat→Int32} {R : zRT} (hd : 1 ≤ d) (hw : 21 ≤ w) (K : ∀ S₉, zI f r C Z N S₉ → (xB S₉ R) → (aS 88 S₉ = aRo ab 0) → Q (.inl none) S₉) : ∀ (n : Nat) (S : ma_S) (l1 : Int32), (512 - l1.toInt).toNat = n → zI f r C Z N S → (0 ≤ l1.toInt) → (xB S R) → (aWi (aS 88 S) l1 = aRo ab 0) → ma_wp X d w 118 36 [(0, .inr (.inr (some 88))), (1, .inl l1)] [] S Q := by
  intro n
  induction n using Nat.strongRecOn with
  | _ n IH =>
    intro S l1 hmu hI  hi0 hi1 hi2
    refine g_118_88_s_36 l1 (by omega) (by omega) (zG_T hI) ?_
    have r5 := congrArg Int32.toInt (aS_I (W := 88) (S := S) (c := 69) (c₉ := 69) (k := 5) rfl rfl)
    have f1 := zG_s hI (0) (512) (c := 69) (k := 5) (by decide)
    have b2 := i_bd l1
    refine zd (fun h3 => ?_) (fun h3 => ?_)
    · skip
      have g4 := i_le h3
      have li5 : (0 : Int32).toInt = 0 := rfl
      exact lp_118_88_s_75 (by omega) (by omega) K _ _ ((0 : Int32)) rfl hI (by omega) (show xB S R from by first | (exact (xC_o (W := 75) hi1).2)) (show aHo (aS 88 S) ((0 : Int32)) = aRo ab 0 from by first | (exact (aWi_st (by omega)).symm.trans hi2))
    · skip
      have g6 := i_nle h3
      refine ⟨i_ix (by omega) (by omega), ?_⟩
      have b7 := i_bd (mI S 74 l1.toNatClampNeg)
      have li8 : (0 : Int32).toInt = 0 := rfl
      refine zd (fun h9 => ?_) (fun h9 => ?_)
      · skip
        have g10 := i_lt h9
        refine sp_119_88_s (ab := (aS 88 S)) (R := R) (y := ((mI S 74 l1.toNatClampNeg))) (none) (by omega) (by omega) hI (fun _ z => by cases z) (show xB S R from by first | (exact (xC_o (W := 75) hi1).2)) (show aS 88 S = (aS 88 S) from by first | (exact rfl)) (show none = zTa R ((mI S 74 l1.toNatClampNeg)) from by first | (exact ta_no (by omega))) (fun S1 hI_S1 rp0_S1 rp1_S1 => zv_n ⟨zG_T hI_S1, ?_⟩)
        have rp0_S1 : xB S1 R := rp0_S1
        have rp1_S1 : aS 88 S1 = aCm (aS 88 S) ((mI S 74 l1.toNatClampNeg)) := rp1_S1
        first | have e11 : (l1 + (1 : Int32)).toInt = l1.toInt + (1) := i_addk rfl (by omega) (by omega) | have b12 := i_bd (l1 + (1 : Int32))
        exact IH _ (by omega) _ ((l1 + (1 : Int32))) rfl hI_S1 (by omega) (show xB S1 R from by first | (exact (xC_o (W := 75) rp0_S1).2)) (show aWi (aS 88 S1) ((l1 + (1 : Int32))) = aRo ab 0 from by first | (rw [rp1_S1, ← (aS_I (W := 88) (S := S) (c := 74) (c₉ := 74) (k := l1.toNatClampNeg) rfl rfl)]; exact (aWi_go (by omega)).symm.trans hi2))
      · skip
        have g13 := i_nlt h9
        have li14 : (512 : Int32).toInt = 512 := rfl
        refine zd (fun h15 => ?_) (fun h15 => ?_)
        · skip
          have g16 := i_le h15
          refine sp_119_88_s (ab := (aS 88 S)) (R := R) (y := ((mI S 74 l1.toNatClampNeg))) (none) (by omega) (by omega) hI (fun _ z => by cases z) (show xB S R from by first | (exact (xC_o (W := 75) hi1).2)) (show aS 88 S = (aS 88 S) from by first | (exact rfl)) (show none = zTa R ((mI S 74 l1.toNatClampNeg)) from by first | (exact ta_no (by omega))) (fun S3 hI_S3 rp0_S3 rp1_S3 => zv_n ⟨zG_T hI_S3, ?_⟩)
          have rp0_S3 : xB S3 R := rp0_S3
          have rp1_S3 : aS 88 S3 = aCm (aS 88 S) ((mI S 74 l1.toNatClampNeg)) := rp1_S3
          first | have e17 : (l1 + (1 : Int32)).toInt = l1.toInt + (1) := i_addk rfl (by omega) (by omega) | have b18 := i_bd (l1 + (1 : Int32))
          exact IH _ (by omega) _ ((l1 + (1 : Int32))) rfl hI_S3 (by omega) (show xB S3 R from by first | (exact (xC_o (W := 75) rp0_S3).2)) (show aWi (aS 88 S3) ((l1 + (1 : Int32))) = aRo ab 0 from by first | (rw [rp1_S3, ← (aS_I (W := 88) (S := S) (c := 74) (c₉ := 74) (k := l1.toNatClampNeg) rfl rfl)]; exact (aWi_go (by omega)).symm.trans hi2))
        · skip
          have g19 := i_nle h15
          refine ⟨i_ix (by omega) (by omega), ?_⟩
          refine sp_119_88_s (ab := (aS 88 S)) (R := R) (y := ((mI S 74 l1.toNatClampNeg))) ((mR S 70 (mI S 74 l1.toNatClampNeg).toNatClampNeg)) (by omega) (by omega) hI (fun _ z => zG_70 hI (c := 70) (by decide) z) (show xB S R from by first | (exact (xC_o (W := 75) hi1).2)) (show aS 88 S = (aS 88 S) from by first | (exact rfl)) (show (mR S 70 (mI S 74 l1.toNatClampNeg).toNatClampNeg) = zTa R ((mI S 74 l1.toNatClampNeg)) from by first | (exact ta_rd hi1 (by omega) (by omega))) (fun S5 hI_S5 rp0_S5 rp1_S5 => zv_n ⟨zG_T hI_S5, ?_⟩)
          have rp0_S5 : xB S5 R := rp0_S5
          have rp1_S5 : aS 88 S5 = aCm (aS 88 S) ((mI S 74 l1.toNatClampNeg)) := rp1_S5
          first | have e20 : (l1 + (1 : Int32)).toInt = l1.toInt + (1) := i_addk rfl (by omega) (by omega) | have b21 := i_bd (l1 + (1 : Int32))
          exact IH _ (by omega) _ ((l1 + (1 : Int32))) rfl hI_S5 (by omega) (show xB S5 R from by first | (exact (xC_o (W := 75) rp0_S5).2)) (show aWi (aS 88 S5) ((l1 + (1 : Int32))) = aRo ab 0 from by first | (rw [rp1_S5, ← (aS_I (W := 88) (S := S) (c := 74) (c₉ := 74) (k := l1.toNatClampNeg) rfl rfl)]; exact (aWi_go (by omega)).symm.trans hi2))
theorem lp_118_88_s_2 {X : Nat × (Nat → Int32)} {d w : Nat} {f : Nat → Nat → Int32} {r : Nat → Nat → Option Nat} {C Z N : Nat} {Q : Option ma_V ⊕ Nat → ma_S → Prop} {ab : Nat→Nat→Int32} {R : zRT} (hd : 1 ≤ d) (hw : 21 ≤ w) (K : ∀ S₉, zI f r C Z N S₉ → (xB S₉ R) → (aS 88 S₉ = aRo ab 0) → Q (.inl none) S₉) : ∀ (n : Nat) (S : ma_S) (l1 : Int32), (16 - l1.toInt).toNat = n → zI f r C Z N S → (0 ≤ l1.toInt) → (xB S R) → (aRo (aS 88 S) l1 = aRo ab 0) → ma_wp X d w 118 2 [(0, .inr (.inr (some 88))), (1, .inl l1)] [] S Q := by
  intro n
  induction n using Nat.strongRecOn with
  | _ n IH =>
    intro S l1 hmu hI  hi0 hi1 hi2
    refine g_118_88_s_2 l1 (by omega) (by omega) (zG_T hI) ?_
    have li1 : (16 : Int32).toInt = 16 := rfl
    have b2 := i_bd l1
    refine zd (fun h3 => ?_) (fun h3 => ?_)
    · skip
      have g4 := i_le h3
      have li5 : (0 : Int32).toInt = 0 := rfl
      exact lp_118_88_s_36 (by omega) (by omega) K _ _ ((0 : Int32)) rfl hI (by omega) (show xB S R from by first | (exact (xC_o (W := 75) hi1).2)) (show aWi (aS 88 S) ((0 : Int32)) = aRo ab 0 from by first | (exact (aRo_st (by omega)).symm.trans hi2))
    · skip
      have g6 := i_nle h3
      refine ⟨i_ix (by omega) (by omega), ?_⟩
      have b7 := i_bd (mI S 72 l1.toNatClampNeg)
      have li8 : (0 : Int32).toInt = 0 := rfl
      refine zd (fun h9 => ?_) (fun h9 => ?_)
      · skip
        have g10 := i_lt h9
        refine sp_119_88_s (ab := (aS 88 S)) (R := R) (y := ((mI S 72 l1.toNatClampNeg))) (none) (by omega) (by omega) hI (fun _ z => by cases z) (show xB S R from by first | (exact (xC_o (W := 75) hi1).2)) (show aS 88 S = (aS 88 S) from by first | (exact rfl)) (show none = zTa R ((mI S 72 l1.toNatClampNeg)) from by first | (exact ta_no (by omega))) (fun S1 hI_S1 rp0_S1 rp1_S1 => zv_n ⟨zG_T hI_S1, ?_⟩)
        have rp0_S1 : xB S1 R := rp0_S1
        have rp1_S1 : aS 88 S1 = aCm (aS 88 S) ((mI S 72 l1.toNatClampNeg)) := rp1_S1
        first | have e11 : (l1 + (1 : Int32)).toInt = l1.toInt + (1) := i_addk rfl (by omega) (by omega) | have b12 := i_bd (l1 + (1 : Int32))
        exact IH _ (by omega) _ ((l1 + (1 : Int32))) rfl hI_S1 (by omega) (show xB S1 R from by first | (exact (xC_o (W := 75) rp0_S1).2)) (show aRo (aS 88 S1) ((l1 + (1 : Int32))) = aRo ab 0 from by first | (rw [rp1_S1, ← (aS_I (W := 88) (S := S) (c := 72) (c₉ := 72) (k := l1.toNatClampNeg) rfl rfl)]; exact (aRo_go (by omega)).symm.trans hi2))
      · skip
        have g13 := i_nlt h9
        have li14 : (512 : Int32).toInt = 512 := rfl
        refine zd (fun h15 => ?_) (fun h15 => ?_)
        · skip
          have g16 := i_le h15
          refine sp_119_88_s (ab := (aS 88 S)) (R := R) (y := ((mI S 72 l1.toNatClampNeg))) (none) (by omega) (by omega) hI (fun _ z => by cases z) (show xB S R from by first | (exact (xC_o (W := 75) hi1).2)) (show aS 88 S = (aS 88 S) from by first | (exact rfl)) (show none = zTa R ((mI S 72 l1.toNatClampNeg)) from by first | (exact ta_no (by omega))) (fun S3 hI_S3 rp0_S3 rp1_S3 => zv_n ⟨zG_T hI_S3, ?_⟩)
          have rp0_S3 : xB S3 R := rp0_S3
          have rp1_S3 : aS 88 S3 = aCm (aS 88 S) ((mI S 72 l1.toNatClampNeg)) := rp1_S3
          first | have e17 : (l1 + (1 : Int32)).toInt = l1.toInt + (1) := i_addk rfl (by omega) (by omega) | have b18 := i_bd (l1 + (1 : Int32))
          exact IH _ (by omega) _ ((l1 + (1 : Int32))) rfl hI_S3 (by omega) (show xB S3 R from by first | (exact (xC_o (W := 75) rp0_S3).2)) (show aRo (aS 88 S3) ((l1 + (1 : Int32))) = aRo ab 0 from by first | (rw [rp1_S3, ← (aS_I (W := 88) (S := S) (c := 72) (c₉ := 72) (k := l1.toNatClampNeg) rfl rfl)]; exact (aRo_go (by omega)).symm.trans hi2))
        · skip
          have g19 := i_nle h15
          refine ⟨i_ix (by omega) (by omega), ?_⟩
          refine sp_119_88_s (ab := (aS 88 S)) (R := R) (y := ((mI S 72 l1.toNatClampNeg))) ((mR S 70 (mI S 72 l1.toNatClampNeg).toNatClampNeg)) (by omega) (by omega) hI (fun _ z => zG_70 hI (c := 70) (by decide) z) (show xB S R from by first | (exact (xC_o (W := 75) hi1).2)) (show aS 88 S = (aS 88 S) from by first | (exact rfl)) (show (mR S 70 (mI S 72 l1.toNatClampNeg).toNatClampNeg) = zTa R ((mI S 72 l1.toNatClampNeg)) from by first | (exact ta_rd hi1 (by omega) (by omega))) (fun S5 hI_S5 rp0_S5 rp1_S5 => zv_n ⟨zG_T hI_S5, ?_⟩)
          have rp0_S5 : xB S5 R := rp0_S5
          have rp1_S5 : aS 88 S5 = aCm (aS 88 S) ((mI S 72 l1.toNatClampNeg)) := rp1_S5
          first | have e20 : (l1 + (1 : Int32)).toInt = l1.toInt + (1) := i_addk rfl (by omega) (by omega) | have b21 := i_bd (l1 + (1 : Int32))
          exact IH _ (by omega) _ ((l1 + (1 : Int32))) rfl hI_S5 (by omega) (show xB S5 R from by first | (exact (xC_o (W := 75) rp0_S5).2)) (show aRo (aS 88 S5) ((l1 + (1 : Int32))) = aRo ab 0 from by first | (rw [rp1_S5, ← (aS_I (W := 88) (S := S) (c := 72) (c₉ := 72) (k := l1.toNatClampNeg) rfl rfl)]; exact (aRo_go (by omega)).symm.trans hi2))
theorem sp_118_88_s {X : Nat × (Nat → Int32)} {d w : Nat} {f : Nat → Nat → Int32} {r : Nat → Nat → Option Nat} {C Z N : Nat} {Q : Option ma_V ⊕ Nat → ma_S → Prop} {ab : Nat→Nat→Int32} {R : zRT} {S : ma_S}  (hd : 1 ≤ d) (hw : 21 ≤ w) (hI : zI f r C Z N S) (hpre0 : xB S R) (hpre1 : aS 88 S = ab) (K : ∀ S₉, zI f r C Z N S₉ → (xB S₉ R) → (aS 88 S₉ = aRo ab 0) → Q (.inl none) S₉) : ma_wp X d w 118 0 [(0, .inr (.inr (some 88)))] [] S Q := by
  refine g_118_88_s_0  (by omega) (by omega) (zG_T hI) ?_
  have li1 : (0 : Int32).toInt = 0 := rfl
  exact lp_118_88_s_2 (by omega) (by omega) K _ _ ((0 : Int32)) rfl hI (by omega) (show xB S R from by first | (exact (xC_o (W := 75) hpre0).2)) (show aRo (aS 88 S) ((0 : Int32)) = aRo ab 0 from by first | (rw [hpre1]))

/-! from 95.g02 -/
/-! the heap by numbers, the class (written by wip/tools/gen18.py) -/
theorem g_82_69_s_0 {X : Nat × (Nat → Int32)} {d w : Nat} {S : ma_S} {Q : Option ma_V ⊕ Nat → ma_S → Prop} (t : Nat) (i : Int32) (hd : 0 ≤ d) (hw : 0 ≤ w) (hS : zT S) (h : (126 ≤ t ∧ t < mN S) ∧ ((126 ≤ t ∧ t < mN S) ∧ (if (lg_cmp ((((mL S t 3).toUInt64 >>> (i.toInt64.toUInt64 &&& Int64.toUInt64 63)).toInt64) &&& (1 : Int64)) (0 : Int64)) = 0 then (Q (.inl (some (.inr (.inr none)))) S) else (if (((mI S t 4) + (1 : Int32)) + i) < 0 then (Q (.inl (some (.inr (.inr none)))) S) else (if (4500 : Int32) ≤ (((mI S t 4) + (1 : Int32)) + i) then (Q (.inl (some (.inr (.inr none)))) S) else ((0 ≤ (((mI S t 4) + (1 : Int32)) + i) ∧ (((mI S t 4) + (1 : Int32)) + i).toNatClampNeg < 4500) ∧ (if (mI S 71 (((mI S t 4) + (1 : Int32)) + i).toNatClampNeg) < 0 then (Q (.inl (some (.inr (.inr none)))) S) else (if (512 : Int32) ≤ (mI S 71 (((mI S t 4) + (1 : Int32)) + i).toNatClampNeg) then (Q (.inl (some (.inr (.inr none)))) S) else ((0 ≤ (mI S 71 (((mI S t 4) + (1 : Int32)) + i).toNatClampNeg) ∧ (mI S 71 (((mI S t 4) + (1 : Int32)) + i).toNatClampNeg).toNatClampNeg < 512) ∧ (Q (.inl (some (.inr (.inr (mR S 70 (mI S 71 (((mI S t 4) + (1 : Int32)) + i).toNatClampNeg).toNatClampNeg))))) S)))))))))) : ma_wp X d w 82 0 [(0, .inr (.inr (some 69))), (1, .inr (.inr (some t))), (2, .inl i)] [] S Q := by
  refine zw_push hm_82 dX7_referenceOf_0 (v := .inr (.inr (some t))) rfl ?_
  obtain ⟨hg, h⟩ := h
  refine zw_gf hm_82 dX7_referenceOf_1 (v := .inl (mI S t 4)) (zT_tis hS hg) (zT_tt hS hg) rfl f_7_61_9 rfl ?_
  refine zw_push hm_82 dX7_referenceOf_4 (v := .inl (1 : Int32)) rfl ?_
  refine zw_stk hm_82 dX7_referenceOf_5 (st₉ := [.inl ((mI S t 4) + (1 : Int32))]) rfl rfl ?_
  refine zw_push hm_82 dX7_referenceOf_6 (v := .inl i) rfl ?_
  refine zw_stk hm_82 dX7_referenceOf_7 (st₉ := [.inl (((mI S t 4) + (1 : Int32)) + i)]) rfl rfl ?_
  refine zw_sto hm_82 dX7_referenceOf_8 [(3, .inl (((mI S t 4) + (1 : Int32)) + i)), (0, .inr (.inr (some 69))), (1, .inr (.inr (some t))), (2, .inl i)] rfl rfl rfl ?_
  refine zw_push hm_82 dX7_referenceOf_9 (v := .inr (.inr (some t))) rfl ?_
  obtain ⟨hg, h⟩ := h
  refine zw_gf hm_82 dX7_referenceOf_10 (v := .inr (.inl (mL S t 3))) (zT_tis hS hg) (zT_tt hS hg) rfl f_7_74_9 rfl ?_
  refine zw_push hm_82 dX7_referenceOf_13 (v := .inl i) rfl ?_
  refine zw_stk hm_82 dX7_referenceOf_14 (st₉ := [.inr (.inl (((mL S t 3).toUInt64 >>> (i.toInt64.toUInt64 &&& Int64.toUInt64 63)).toInt64))]) rfl rfl ?_
  refine zw_push hm_82 dX7_referenceOf_15 (v := .inr (.inl (1 : Int64))) rfl ?_
  refine zw_stk hm_82 dX7_referenceOf_16 (st₉ := [.inr (.inl ((((mL S t 3).toUInt64 >>> (i.toInt64.toUInt64 &&& Int64.toUInt64 63)).toInt64) &&& (1 : Int64)))]) rfl rfl ?_
  refine zw_push hm_82 dX7_referenceOf_17 (v := .inr (.inl (0 : Int64))) rfl ?_
  refine zw_stk hm_82 dX7_referenceOf_18 (st₉ := [.inl (lg_cmp ((((mL S t 3).toUInt64 >>> (i.toInt64.toUInt64 &&& Int64.toUInt64 63)).toInt64) &&& (1 : Int64)) (0 : Int64))]) rfl rfl ?_
  refine zw_if0 hm_82 dX7_referenceOf_19 (t := 26) rfl zc0_eq ?_ ?_
  · intro hc
    rw [if_pos hc] at h
    refine zw_push hm_82 dX7_referenceOf_26 (v := .inl (0 : Int32)) rfl ?_
    refine zw_sto hm_82 dX7_referenceOf_27 [(4, .inl (0 : Int32)), (3, .inl (((mI S t 4) + (1 : Int32)) + i)), (0, .inr (.inr (some 69))), (1, .inr (.inr (some t))), (2, .inl i)] rfl rfl rfl ?_
    refine zw_push hm_82 dX7_referenceOf_29 (v := .inl (0 : Int32)) rfl ?_
    refine zw_if0 hm_82 dX7_referenceOf_31 (t := 54) rfl zc0_eq (fun _ => ?_) (fun hc => absurd (by decide) hc)
    refine zw_push hm_82 dX7_referenceOf_54 (v := .inl (-1 : Int32)) rfl ?_
    refine zw_sto hm_82 dX7_referenceOf_55 [(5, .inl (-1 : Int32)), (4, .inl (0 : Int32)), (3, .inl (((mI S t 4) + (1 : Int32)) + i)), (0, .inr (.inr (some 69))), (1, .inr (.inr (some t))), (2, .inl i)] rfl rfl rfl ?_
    refine zw_push hm_82 dX7_referenceOf_57 (v := .inl (-1 : Int32)) rfl ?_
    refine zw_if0 hm_82 dX7_referenceOf_59 (t := 80) rfl zc0_lt (fun _ => ?_) (fun hc => absurd (by decide) hc)
    refine zw_push hm_82 dX7_referenceOf_80 (v := .inr (.inr none)) rfl ?_
    exact zw_aret hm_82 dX7_referenceOf_81 h
  · intro hc
    rw [if_neg hc] at h
    refine zw_push hm_82 dX7_referenceOf_22 (v := .inl (1 : Int32)) rfl ?_
    refine zw_goto hm_82 dX7_referenceOf_23 (t := 27) rfl ?_
    refine zw_sto hm_82 dX7_referenceOf_27 [(4, .inl (1 : Int32)), (3, .inl (((mI S t 4) + (1 : Int32)) + i)), (0, .inr (.inr (some 69))), (1, .inr (.inr (some t))), (2, .inl i)] rfl rfl rfl ?_
    refine zw_push hm_82 dX7_referenceOf_29 (v := .inl (1 : Int32)) rfl ?_
    refine zw_if0 hm_82 dX7_referenceOf_31 (t := 54) rfl zc0_eq (fun hc => absurd hc (by decide)) (fun _ => ?_)
    refine zw_push hm_82 dX7_referenceOf_34 (v := .inl (((mI S t 4) + (1 : Int32)) + i)) rfl ?_
    refine zw_if0 hm_82 dX7_referenceOf_35 (t := 54) rfl zc0_lt ?_ ?_
    · intro hc
      rw [if_pos hc] at h
      refine zw_push hm_82 dX7_referenceOf_54 (v := .inl (-1 : Int32)) rfl ?_
      refine zw_sto hm_82 dX7_referenceOf_55 [(5, .inl (-1 : Int32)), (4, .inl (1 : Int32)), (3, .inl (((mI S t 4) + (1 : Int32)) + i)), (0, .inr (.inr (some 69))), (1, .inr (.inr (some t))), (2, .inl i)] rfl rfl rfl ?_
      refine zw_push hm_82 dX7_referenceOf_57 (v := .inl (-1 : Int32)) rfl ?_
      refine zw_if0 hm_82 dX7_referenceOf_59 (t := 80) rfl zc0_lt (fun _ => ?_) (fun hc => absurd (by decide) hc)
      refine zw_push hm_82 dX7_referenceOf_80 (v := .inr (.inr none)) rfl ?_
      exact zw_aret hm_82 dX7_referenceOf_81 h
    · intro hc
      rw [if_neg hc] at h
      refine zw_push hm_82 dX7_referenceOf_38 (v := .inl (((mI S t 4) + (1 : Int32)) + i)) rfl ?_
      refine zw_push hm_82 dX7_referenceOf_39 (v := .inl (4500 : Int32)) rfl ?_
      refine zw_if2 hm_82 dX7_referenceOf_42 (t := 54) rfl zc2_ge ?_ ?_
      · intro hc
        rw [if_pos hc] at h
        refine zw_push hm_82 dX7_referenceOf_54 (v := .inl (-1 : Int32)) rfl ?_
        refine zw_sto hm_82 dX7_referenceOf_55 [(5, .inl (-1 : Int32)), (4, .inl (1 : Int32)), (3, .inl (((mI S t 4) + (1 : Int32)) + i)), (0, .inr (.inr (some 69))), (1, .inr (.inr (some t))), (2, .inl i)] rfl rfl rfl ?_
        refine zw_push hm_82 dX7_referenceOf_57 (v := .inl (-1 : Int32)) rfl ?_
        refine zw_if0 hm_82 dX7_referenceOf_59 (t := 80) rfl zc0_lt (fun _ => ?_) (fun hc => absurd (by decide) hc)
        refine zw_push hm_82 dX7_referenceOf_80 (v := .inr (.inr none)) rfl ?_
        exact zw_aret hm_82 dX7_referenceOf_81 h
      · intro hc
        rw [if_neg hc] at h
        refine zw_push hm_82 dX7_referenceOf_45 (v := .inr (.inr (some 69))) rfl ?_
        refine zw_gf hm_82 dX7_referenceOf_46 (v := .inr (.inr (some 71))) (zT_is hS s_69) (zT_t hS s_69) rfl f_7_17_7 (zT_f hS r_69_1) ?_
        refine zw_push hm_82 dX7_referenceOf_49 (v := .inl (((mI S t 4) + (1 : Int32)) + i)) rfl ?_
        obtain ⟨hg, h⟩ := h
        refine zw_ia hm_82 dX7_referenceOf_50 (zT_is hS s_71) (zT_h hS s_71) rfl hg ?_
        show ma_wp X d w 82 51 [(4, .inl (1 : Int32)), (3, .inl (((mI S t 4) + (1 : Int32)) + i)), (0, .inr (.inr (some 69))), (1, .inr (.inr (some t))), (2, .inl i)] [.inl (mI S 71 (((mI S t 4) + (1 : Int32)) + i).toNatClampNeg)] S _
        refine zw_goto hm_82 dX7_referenceOf_51 (t := 55) rfl ?_
        refine zw_sto hm_82 dX7_referenceOf_55 [(5, .inl (mI S 71 (((mI S t 4) + (1 : Int32)) + i).toNatClampNeg)), (4, .inl (1 : Int32)), (3, .inl (((mI S t 4) + (1 : Int32)) + i)), (0, .inr (.inr (some 69))), (1, .inr (.inr (some t))), (2, .inl i)] rfl rfl rfl ?_
        refine zw_push hm_82 dX7_referenceOf_57 (v := .inl (mI S 71 (((mI S t 4) + (1 : Int32)) + i).toNatClampNeg)) rfl ?_
        refine zw_if0 hm_82 dX7_referenceOf_59 (t := 80) rfl zc0_lt ?_ ?_
        · intro hc
          rw [if_pos hc] at h
          refine zw_push hm_82 dX7_referenceOf_80 (v := .inr (.inr none)) rfl ?_
          exact zw_aret hm_82 dX7_referenceOf_81 h
        · intro hc
          rw [if_neg hc] at h
          refine zw_push hm_82 dX7_referenceOf_62 (v := .inl (mI S 71 (((mI S t 4) + (1 : Int32)) + i).toNatClampNeg)) rfl ?_
          refine zw_push hm_82 dX7_referenceOf_64 (v := .inl (512 : Int32)) rfl ?_
          refine zw_if2 hm_82 dX7_referenceOf_67 (t := 80) rfl zc2_ge ?_ ?_
          · intro hc
            rw [if_pos hc] at h
            refine zw_push hm_82 dX7_referenceOf_80 (v := .inr (.inr none)) rfl ?_
            exact zw_aret hm_82 dX7_referenceOf_81 h
          · intro hc
            rw [if_neg hc] at h
            refine zw_push hm_82 dX7_referenceOf_70 (v := .inr (.inr (some 69))) rfl ?_
            refine zw_gf hm_82 dX7_referenceOf_71 (v := .inr (.inr (some 70))) (zT_is hS s_69) (zT_t hS s_69) rfl f_7_11_7 (zT_f hS r_69_0) ?_
            refine zw_push hm_82 dX7_referenceOf_74 (v := .inl (mI S 71 (((mI S t 4) + (1 : Int32)) + i).toNatClampNeg)) rfl ?_
            obtain ⟨hg, h⟩ := h
            refine zw_aa hm_82 dX7_referenceOf_76 (zT_is hS s_70) (zT_h hS s_70) rfl rfl hg rfl ?_
            show ma_wp X d w 82 77 [(5, .inl (mI S 71 (((mI S t 4) + (1 : Int32)) + i).toNatClampNeg)), (4, .inl (1 : Int32)), (3, .inl (((mI S t 4) + (1 : Int32)) + i)), (0, .inr (.inr (some 69))), (1, .inr (.inr (some t))), (2, .inl i)] [.inr (.inr (mR S 70 (mI S 71 (((mI S t 4) + (1 : Int32)) + i).toNatClampNeg).toNatClampNeg))] S _
            refine zw_goto hm_82 dX7_referenceOf_77 (t := 81) rfl ?_
            exact zw_aret hm_82 dX7_referenceOf_81 h
theorem sp_82_69_s {X : Nat × (Nat → Int32)} {d w : Nat} {f : Nat → Nat → Int32} {r : Nat → Nat → Option Nat} {C Z N : Nat} {Q : Option ma_V ⊕ Nat → ma_S → Prop} {R : zRT} {W : Nat} {y : Int32} {S : ma_S} (t : Nat) (i : Int32) (hd : 0 ≤ d) (hw : 0 ≤ w) (hI : zI f r C Z N S) (th_t : 126 ≤ t ∧ t < N) (hpre0 : xB S R) (hpre1 : zTa R y = some t) (hpre2 : 0 ≤ i.toInt) (K : ∀ v S₉, S₉ = S → (∀ c, v = some c → 126 ≤ c ∧ c < N) → (v = zTa R (aRef (aS W S) y.toNatClampNeg i)) → Q (.inl (some (.inr (.inr v)))) S₉) : ma_wp X d w 82 0 [(0, .inr (.inr (some 69))), (1, .inr (.inr (some t))), (2, .inl i)] [] S Q := by
  refine g_82_69_s_0 t i (by omega) (by omega) (zG_T hI) ?_
  refine ⟨zG_n hI th_t, ?_⟩
  refine ⟨zG_n hI th_t, ?_⟩
  have b1 := i_bd (lg_cmp ((((mL S t 3).toUInt64 >>> (i.toInt64.toUInt64 &&& Int64.toUInt64 63)).toInt64) &&& (1 : Int64)) (0 : Int64))
  have li2 : (0 : Int32).toInt = 0 := rfl
  refine zd (fun h3 => ?_) (fun h3 => ?_)
  · skip
    have g4 := i_eq h3
    exact K (none) _ rfl (fun _ z => by cases z) (show none = zTa R (aRef (aS W S) y.toNatClampNeg i) from by first | (rw [rf_b0 hpre0 hpre1 (by omega) (by assumption)]; exact ta_m1) | (rw [rf_no hpre0 hpre1 (by omega)]; exact ta_m1) | (rw [rf_in hpre0 hpre1 (by omega) (by assumption) (by omega) (by omega)]; exact ta_no (by omega)))
  · skip
    have g5 := i_ne h3
    have f6 := zG_th hI th_t
    first | have e7 : ((mI S t 4) + (1 : Int32)).toInt = (mI S t 4).toInt + (1) := i_addk rfl (by omega) (by omega) | have b8 := i_bd ((mI S t 4) + (1 : Int32))
    have b9 := i_bd i
    first | have e10 : (((mI S t 4) + (1 : Int32)) + i).toInt = ((mI S t 4) + (1 : Int32)).toInt + i.toInt := i_add (by omega) (by omega) | have b11 := i_bd (((mI S t 4) + (1 : Int32)) + i)
    refine zd (fun h12 => ?_) (fun h12 => ?_)
    · skip
      have g13 := i_lt h12
      exact K (none) _ rfl (fun _ z => by cases z) (show none = zTa R (aRef (aS W S) y.toNatClampNeg i) from by first | (rw [rf_b0 hpre0 hpre1 (by omega) (by assumption)]; exact ta_m1) | (rw [rf_no hpre0 hpre1 (by omega)]; exact ta_m1) | (rw [rf_in hpre0 hpre1 (by omega) (by assumption) (by omega) (by omega)]; exact ta_no (by omega)))
    · skip
      have g14 := i_nlt h12
      have li15 : (4500 : Int32).toInt = 4500 := rfl
      refine zd (fun h16 => ?_) (fun h16 => ?_)
      · skip
        have g17 := i_le h16
        exact K (none) _ rfl (fun _ z => by cases z) (show none = zTa R (aRef (aS W S) y.toNatClampNeg i) from by first | (rw [rf_b0 hpre0 hpre1 (by omega) (by assumption)]; exact ta_m1) | (rw [rf_no hpre0 hpre1 (by omega)]; exact ta_m1) | (rw [rf_in hpre0 hpre1 (by omega) (by assumption) (by omega) (by omega)]; exact ta_no (by omega)))
      · skip
        have g18 := i_nle h16
        refine ⟨i_ix (by omega) (by omega), ?_⟩
        have b19 := i_bd (mI S 71 (((mI S t 4) + (1 : Int32)) + i).toNatClampNeg)
        refine zd (fun h20 => ?_) (fun h20 => ?_)
        · skip
          have g21 := i_lt h20
          exact K (none) _ rfl (fun _ z => by cases z) (show none = zTa R (aRef (aS W S) y.toNatClampNeg i) from by first | (rw [rf_b0 hpre0 hpre1 (by omega) (by assumption)]; exact ta_m1) | (rw [rf_no hpre0 hpre1 (by omega)]; exact ta_m1) | (rw [rf_in hpre0 hpre1 (by omega) (by assumption) (by omega) (by omega)]; exact ta_no (by omega)))
        · skip
          have g22 := i_nlt h20
          have li23 : (512 : Int32).toInt = 512 := rfl
          refine zd (fun h24 => ?_) (fun h24 => ?_)
          · skip
            have g25 := i_le h24
            exact K (none) _ rfl (fun _ z => by cases z) (show none = zTa R (aRef (aS W S) y.toNatClampNeg i) from by first | (rw [rf_b0 hpre0 hpre1 (by omega) (by assumption)]; exact ta_m1) | (rw [rf_no hpre0 hpre1 (by omega)]; exact ta_m1) | (rw [rf_in hpre0 hpre1 (by omega) (by assumption) (by omega) (by omega)]; exact ta_no (by omega)))
          · skip
            have g26 := i_nle h24
            refine ⟨i_ix (by omega) (by omega), ?_⟩
            exact K ((mR S 70 (mI S 71 (((mI S t 4) + (1 : Int32)) + i).toNatClampNeg).toNatClampNeg)) _ rfl (fun _ z => zG_70 hI (c := 70) (by decide) z) (show (mR S 70 (mI S 71 (((mI S t 4) + (1 : Int32)) + i).toNatClampNeg).toNatClampNeg) = zTa R (aRef (aS W S) y.toNatClampNeg i) from by first | (rw [rf_in hpre0 hpre1 (by omega) (by assumption) (by omega) (by omega)]; exact ta_rd hpre0 (by omega) (by omega)))

/-! from 95.g03 -/
/-! the heap by numbers, the class (written by wip/tools/gen18.py) -/
theorem g_120_88_s_0 {X : Nat × (Nat → Int32)} {d w : Nat} {S : ma_S} {Q : Option ma_V ⊕ Nat → ma_S → Prop} (m : Int32) (hd : 1 ≤ d) (hw : 25 ≤ w) (hS : zT S) (h : ma_wp X d w 120 2 [(0, .inr (.inr (some 88))), (1, .inl m), (2, .inl (0 : Int32))] [] S Q) : ma_wp X d w 120 0 [(0, .inr (.inr (some 88))), (1, .inl m)] [] S Q := by
  refine zw_push hm_120 dX10_spread_0 (v := .inl (0 : Int32)) rfl ?_
  refine zw_sto hm_120 dX10_spread_1 [(2, .inl (0 : Int32)), (0, .inr (.inr (some 88))), (1, .inl m)] rfl rfl rfl ?_
  exact zw_sub (ma_nd_of (ks := [0, 1, 2]) rfl (by decide)) (ma_nd_of (ks := [2, 0, 1]) rfl (by decide)) (ma_le_cons rfl (ma_le_cons rfl (ma_le_cons rfl (ma_le_nil _)))) h
theorem g_120_88_s_2 {X : Nat × (Nat → Int32)} {d w : Nat} {S : ma_S} {Q : Option ma_V ⊕ Nat → ma_S → Prop} (l1 : Int32) (l2 : Int32) (hd : 1 ≤ d) (hw : 25 ≤ w) (hS : zT S) (h : if l1 ≤ l2 then (Q (.inl (some (.inl l2))) S) else (if (mI S 88 4) ≤ (mI S 88 3) then (Q (.inl (some (.inl l2))) S) else ((0 ≤ (mI S 88 3) ∧ (mI S 88 3).toNatClampNeg < 512) ∧ (if (mI S 89 (mI S 88 3).toNatClampNeg) < 0 then (ma_wp X d w 120 2 [(0, .inr (.inr (some 88))), (1, .inl l1), (2, .inl (l2 + (1 : Int32)))] [] (ma_put S 88 3 (.inl ((mI S 88 3) + (1 : Int32)))) Q) else (if (512 : Int32) ≤ (mI S 89 (mI S 88 3).toNatClampNeg) then (ma_wp X d w 120 2 [(0, .inr (.inr (some 88))), (1, .inl l1), (2, .inl (l2 + (1 : Int32)))] [] (ma_put S 88 3 (.inl ((mI S 88 3) + (1 : Int32)))) Q) else ((0 ≤ (mI S 89 (mI S 88 3).toNatClampNeg) ∧ (mI S 89 (mI S 88 3).toNatClampNeg).toNatClampNeg < 512) ∧ (((mR S 70 (mI S 89 (mI S 88 3).toNatClampNeg).toNatClampNeg) = none → ma_wp X d w 120 2 [(0, .inr (.inr (some 88))), (1, .inl l1), (2, .inl (l2 + (1 : Int32)))] [] (ma_put S 88 3 (.inl ((mI S 88 3) + (1 : Int32)))) Q) ∧ (∀ c1, (mR S 70 (mI S 89 (mI S 88 3).toNatClampNeg).toNatClampNeg) = some c1 → (126 ≤ c1 ∧ c1 < mN (ma_put S 88 3 (.inl ((mI S 88 3) + (1 : Int32))))) ∧ (if (512 : Int32) ≤ (mI (ma_put S 88 3 (.inl ((mI S 88 3) + (1 : Int32)))) c1 0) then (ma_wp X d w 120 57 [(0, .inr (.inr (some 88))), (1, .inl l1), (2, .inl l2), (3, .inr (.inr (some c1))), (4, .inl (0 : Int32))] [] (ma_put S 88 3 (.inl ((mI S 88 3) + (1 : Int32)))) Q) else ((126 ≤ c1 ∧ c1 < mN (ma_put S 88 3 (.inl ((mI S 88 3) + (1 : Int32))))) ∧ ((0 ≤ (mI (ma_put S 88 3 (.inl ((mI S 88 3) + (1 : Int32)))) c1 0) ∧ (mI (ma_put S 88 3 (.inl ((mI S 88 3) + (1 : Int32)))) c1 0).toNatClampNeg < 512) ∧ (ma_wp X d w 120 57 [(0, .inr (.inr (some 88))), (1, .inl l1), (2, .inl l2), (3, .inr (.inr (some c1))), (4, .inl (0 : Int32))] [] (ma_put (ma_put S 88 3 (.inl ((mI S 88 3) + (1 : Int32)))) 90 (mI (ma_put S 88 3 (.inl ((mI S 88 3) + (1 : Int32)))) c1 0).toNatClampNeg (.inl (2 : Int32))) Q)))))))))))) : ma_wp X d w 120 2 [(0, .inr (.inr (some 88))), (1, .inl l1), (2, .inl l2)] [] S Q := by
  refine zw_push hm_120 dX10_spread_2 (v := .inl l2) rfl ?_
  refine zw_push hm_120 dX10_spread_3 (v := .inl l1) rfl ?_
  refine zw_if2 hm_120 dX10_spread_4 (t := 94) rfl zc2_ge ?_ ?_
  · intro hc
    rw [if_pos hc] at h
    refine zw_push hm_120 dX10_spread_94 (v := .inl l2) rfl ?_
    exact zw_iret hm_120 dX10_spread_95 h
  · intro hc
    rw [if_neg hc] at h
    refine zw_push hm_120 dX10_spread_7 (v := .inr (.inr (some 88))) rfl ?_
    refine zw_gf hm_120 dX10_spread_8 (v := .inl (mI S 88 3)) (zT_is hS s_88) (zT_t hS s_88) rfl f_10_28_10 rfl ?_
    refine zw_push hm_120 dX10_spread_11 (v := .inr (.inr (some 88))) rfl ?_
    refine zw_gf hm_120 dX10_spread_12 (v := .inl (mI S 88 4)) (zT_is hS s_88) (zT_t hS s_88) rfl f_10_32_10 rfl ?_
    refine zw_if2 hm_120 dX10_spread_15 (t := 94) rfl zc2_ge ?_ ?_
    · intro hc
      rw [if_pos hc] at h
      refine zw_push hm_120 dX10_spread_94 (v := .inl l2) rfl ?_
      exact zw_iret hm_120 dX10_spread_95 h
    · intro hc
      rw [if_neg hc] at h
      refine zw_push hm_120 dX10_spread_18 (v := .inr (.inr (some 88))) rfl ?_
      refine zw_gf hm_120 dX10_spread_19 (v := .inr (.inr (some 69))) (zT_is hS s_88) (zT_t hS s_88) rfl f_10_18_10 (zT_f hS r_88_0) ?_
      refine zw_push hm_120 dX10_spread_22 (v := .inr (.inr (some 88))) rfl ?_
      refine zw_gf hm_120 dX10_spread_23 (v := .inr (.inr (some 89))) (zT_is hS s_88) (zT_t hS s_88) rfl f_10_9_10 (zT_f hS r_88_1) ?_
      refine zw_push hm_120 dX10_spread_26 (v := .inr (.inr (some 88))) rfl ?_
      refine zw_gf hm_120 dX10_spread_27 (v := .inl (mI S 88 3)) (zT_is hS s_88) (zT_t hS s_88) rfl f_10_28_10 rfl ?_
      obtain ⟨hg, h⟩ := h
      refine zw_ia hm_120 dX10_spread_30 (zT_is hS s_89) (zT_h hS s_89) rfl hg ?_
      show ma_wp X d w 120 31 [(0, .inr (.inr (some 88))), (1, .inl l1), (2, .inl l2)] [.inl (mI S 89 (mI S 88 3).toNatClampNeg), .inr (.inr (some 69))] S _
      refine zw_cv hm_120 dX10_spread_31 v_10_66_7 hm_81 [.inl (mI S 89 (mI S 88 3).toNatClampNeg)] [] rfl (zT_rt hS s_69 rfl) ⟨by omega, by omega⟩ rfl ?_
      show ma_wp X (d - 1) (w - 21) 81 0 [(0, .inr (.inr (some 69))), (1, .inl (mI S 89 (mI S 88 3).toNatClampNeg))] [] S _
      refine zw_push hm_81 dX7_thingAt_0 (v := .inl (mI S 89 (mI S 88 3).toNatClampNeg)) rfl ?_
      refine zw_if0 hm_81 dX7_thingAt_1 (t := 20) rfl zc0_lt ?_ ?_
      · intro hc
        rw [if_pos hc] at h
        refine zw_push hm_81 dX7_thingAt_20 (v := .inr (.inr none)) rfl ?_
        refine zw_aret hm_81 dX7_thingAt_21 ?_
        show ma_wp X d w 120 34 [(0, .inr (.inr (some 88))), (1, .inl l1), (2, .inl l2)] [.inr (.inr none)] S _
        refine zw_sto hm_120 dX10_spread_34 [(3, .inr (.inr none)), (0, .inr (.inr (some 88))), (1, .inl l1), (2, .inl l2)] rfl rfl rfl ?_
        refine zw_push hm_120 dX10_spread_35 (v := .inr (.inr (some 88))) rfl ?_
        refine zw_stk hm_120 dX10_spread_36 (st₉ := [.inr (.inr (some 88)), .inr (.inr (some 88))]) rfl rfl ?_
        refine zw_gf hm_120 dX10_spread_37 (v := .inl (mI S 88 3)) (zT_is hS s_88) (zT_t hS s_88) rfl f_10_28_10 rfl ?_
        refine zw_push hm_120 dX10_spread_40 (v := .inl (1 : Int32)) rfl ?_
        refine zw_stk hm_120 dX10_spread_41 (st₉ := [.inl ((mI S 88 3) + (1 : Int32)), .inr (.inr (some 88))]) rfl rfl ?_
        refine zw_pf hm_120 dX10_spread_42 (zT_is hS s_88) (zT_t hS s_88) p_10_28_10 zk_int ?_
        refine zw_push hm_120 dX10_spread_45 (v := .inr (.inr none)) rfl ?_
        refine zw_ifnull hm_120 dX10_spread_46 (t := 88) rfl (fun _ => ?_) (fun _ z => by cases z)
        refine zw_sto hm_120 dX10_spread_88 [(2, .inl (l2 + (1 : Int32))), (3, .inr (.inr none)), (0, .inr (.inr (some 88))), (1, .inl l1)] rfl rfl rfl ?_
        refine zw_goto hm_120 dX10_spread_91 (t := 2) rfl ?_
        exact zw_sub (ma_nd_of (ks := [0, 1, 2]) rfl (by decide)) (ma_nd_of (ks := [2, 3, 0, 1]) rfl (by decide)) (ma_le_cons rfl (ma_le_cons rfl (ma_le_cons rfl (ma_le_nil _)))) h
      · intro hc
        rw [if_neg hc] at h
        refine zw_push hm_81 dX7_thingAt_4 (v := .inl (mI S 89 (mI S 88 3).toNatClampNeg)) rfl ?_
        refine zw_push hm_81 dX7_thingAt_5 (v := .inl (512 : Int32)) rfl ?_
        refine zw_if2 hm_81 dX7_thingAt_8 (t := 20) rfl zc2_ge ?_ ?_
        · intro hc
          rw [if_pos hc] at h
          refine zw_push hm_81 dX7_thingAt_20 (v := .inr (.inr none)) rfl ?_
          refine zw_aret hm_81 dX7_thingAt_21 ?_
          show ma_wp X d w 120 34 [(0, .inr (.inr (some 88))), (1, .inl l1), (2, .inl l2)] [.inr (.inr none)] S _
          refine zw_sto hm_120 dX10_spread_34 [(3, .inr (.inr none)), (0, .inr (.inr (some 88))), (1, .inl l1), (2, .inl l2)] rfl rfl rfl ?_
          refine zw_push hm_120 dX10_spread_35 (v := .inr (.inr (some 88))) rfl ?_
          refine zw_stk hm_120 dX10_spread_36 (st₉ := [.inr (.inr (some 88)), .inr (.inr (some 88))]) rfl rfl ?_
          refine zw_gf hm_120 dX10_spread_37 (v := .inl (mI S 88 3)) (zT_is hS s_88) (zT_t hS s_88) rfl f_10_28_10 rfl ?_
          refine zw_push hm_120 dX10_spread_40 (v := .inl (1 : Int32)) rfl ?_
          refine zw_stk hm_120 dX10_spread_41 (st₉ := [.inl ((mI S 88 3) + (1 : Int32)), .inr (.inr (some 88))]) rfl rfl ?_
          refine zw_pf hm_120 dX10_spread_42 (zT_is hS s_88) (zT_t hS s_88) p_10_28_10 zk_int ?_
          refine zw_push hm_120 dX10_spread_45 (v := .inr (.inr none)) rfl ?_
          refine zw_ifnull hm_120 dX10_spread_46 (t := 88) rfl (fun _ => ?_) (fun _ z => by cases z)
          refine zw_sto hm_120 dX10_spread_88 [(2, .inl (l2 + (1 : Int32))), (3, .inr (.inr none)), (0, .inr (.inr (some 88))), (1, .inl l1)] rfl rfl rfl ?_
          refine zw_goto hm_120 dX10_spread_91 (t := 2) rfl ?_
          exact zw_sub (ma_nd_of (ks := [0, 1, 2]) rfl (by decide)) (ma_nd_of (ks := [2, 3, 0, 1]) rfl (by decide)) (ma_le_cons rfl (ma_le_cons rfl (ma_le_cons rfl (ma_le_nil _)))) h
        · intro hc
          rw [if_neg hc] at h
          refine zw_push hm_81 dX7_thingAt_11 (v := .inr (.inr (some 69))) rfl ?_
          refine zw_gf hm_81 dX7_thingAt_12 (v := .inr (.inr (some 70))) (zT_is hS s_69) (zT_t hS s_69) rfl f_7_11_7 (zT_f hS r_69_0) ?_
          refine zw_push hm_81 dX7_thingAt_15 (v := .inl (mI S 89 (mI S 88 3).toNatClampNeg)) rfl ?_
          obtain ⟨hg, h⟩ := h
          refine zw_aa hm_81 dX7_thingAt_16 (zT_is hS s_70) (zT_h hS s_70) rfl rfl hg rfl ?_
          show ma_wp X (d - 1) (w - 21) 81 17 [(0, .inr (.inr (some 69))), (1, .inl (mI S 89 (mI S 88 3).toNatClampNeg))] [.inr (.inr (mR S 70 (mI S 89 (mI S 88 3).toNatClampNeg).toNatClampNeg))] S _
          refine zw_goto hm_81 dX7_thingAt_17 (t := 21) rfl ?_
          refine zw_aret hm_81 dX7_thingAt_21 ?_
          show ma_wp X d w 120 34 [(0, .inr (.inr (some 88))), (1, .inl l1), (2, .inl l2)] [.inr (.inr (mR S 70 (mI S 89 (mI S 88 3).toNatClampNeg).toNatClampNeg))] S _
          refine zw_sto hm_120 dX10_spread_34 [(3, .inr (.inr (mR S 70 (mI S 89 (mI S 88 3).toNatClampNeg).toNatClampNeg))), (0, .inr (.inr (some 88))), (1, .inl l1), (2, .inl l2)] rfl rfl rfl ?_
          refine zw_push hm_120 dX10_spread_35 (v := .inr (.inr (some 88))) rfl ?_
          refine zw_stk hm_120 dX10_spread_36 (st₉ := [.inr (.inr (some 88)), .inr (.inr (some 88))]) rfl rfl ?_
          refine zw_gf hm_120 dX10_spread_37 (v := .inl (mI S 88 3)) (zT_is hS s_88) (zT_t hS s_88) rfl f_10_28_10 rfl ?_
          refine zw_push hm_120 dX10_spread_40 (v := .inl (1 : Int32)) rfl ?_
          refine zw_stk hm_120 dX10_spread_41 (st₉ := [.inl ((mI S 88 3) + (1 : Int32)), .inr (.inr (some 88))]) rfl rfl ?_
          refine zw_pf hm_120 dX10_spread_42 (zT_is hS s_88) (zT_t hS s_88) p_10_28_10 zk_int ?_
          refine zw_push hm_120 dX10_spread_45 (v := .inr (.inr (mR S 70 (mI S 89 (mI S 88 3).toNatClampNeg).toNatClampNeg))) rfl ?_
          refine zw_ifnull hm_120 dX10_spread_46 (t := 88) rfl ?_ ?_
          · intro hc
            have h := h.1 hc
            (try rw [hc])
            show ma_wp X d w 120 88 [(3, .inr (.inr none)), (0, .inr (.inr (some 88))), (1, .inl l1), (2, .inl l2)] [] (ma_put S 88 3 (.inl ((mI S 88 3) + (1 : Int32)))) _
            refine zw_sto hm_120 dX10_spread_88 [(2, .inl (l2 + (1 : Int32))), (3, .inr (.inr none)), (0, .inr (.inr (some 88))), (1, .inl l1)] rfl rfl rfl ?_
            refine zw_goto hm_120 dX10_spread_91 (t := 2) rfl ?_
            exact zw_sub (ma_nd_of (ks := [0, 1, 2]) rfl (by decide)) (ma_nd_of (ks := [2, 3, 0, 1]) rfl (by decide)) (ma_le_cons rfl (ma_le_cons rfl (ma_le_cons rfl (ma_le_nil _)))) h
          · intro c1 hc
            have h := h.2 c1 hc
            (try rw [hc])
            show ma_wp X d w 120 49 [(3, .inr (.inr (some c1))), (0, .inr (.inr (some 88))), (1, .inl l1), (2, .inl l2)] [] (ma_put S 88 3 (.inl ((mI S 88 3) + (1 : Int32)))) _
            refine zw_push hm_120 dX10_spread_49 (v := .inr (.inr (some 88))) rfl ?_
            refine zw_push hm_120 dX10_spread_50 (v := .inr (.inr (some c1))) rfl ?_
            refine zw_cv hm_120 dX10_spread_51 v_10_86_10 hm_121 [.inr (.inr (some c1))] [] rfl (zT_rt (zT_pi hS) s_88 rfl) ⟨by omega, by omega⟩ rfl ?_
            show ma_wp X (d - 1) (w - 21) 121 0 [(0, .inr (.inr (some 88))), (1, .inr (.inr (some c1)))] [] (ma_put S 88 3 (.inl ((mI S 88 3) + (1 : Int32)))) _
            refine zw_push hm_121 dX10_blacken_0 (v := .inr (.inr (some c1))) rfl ?_
            obtain ⟨hg, h⟩ := h
            refine zw_gf hm_121 dX10_blacken_1 (v := .inl (mI (ma_put S 88 3 (.inl ((mI S 88 3) + (1 : Int32)))) c1 0)) (zT_tis (zT_pi hS) hg) (zT_tt (zT_pi hS) hg) rfl f_10_58_9 rfl ?_
            refine zw_push hm_121 dX10_blacken_4 (v := .inl (512 : Int32)) rfl ?_
            refine zw_if2 hm_121 dX10_blacken_7 (t := 20) rfl zc2_ge ?_ ?_
            · intro hc
              rw [if_pos hc] at h
              refine zw_vret hm_121 dX10_blacken_20 ?_
              show ma_wp X d w 120 54 [(3, .inr (.inr (some c1))), (0, .inr (.inr (some 88))), (1, .inl l1), (2, .inl l2)] [] (ma_put S 88 3 (.inl ((mI S 88 3) + (1 : Int32)))) _
              refine zw_push hm_120 dX10_spread_54 (v := .inl (0 : Int32)) rfl ?_
              refine zw_sto hm_120 dX10_spread_55 [(4, .inl (0 : Int32)), (3, .inr (.inr (some c1))), (0, .inr (.inr (some 88))), (1, .inl l1), (2, .inl l2)] rfl rfl rfl ?_
              exact zw_sub (ma_nd_of (ks := [0, 1, 2, 3, 4]) rfl (by decide)) (ma_nd_of (ks := [4, 3, 0, 1, 2]) rfl (by decide)) (ma_le_cons rfl (ma_le_cons rfl (ma_le_cons rfl (ma_le_cons rfl (ma_le_cons rfl (ma_le_nil _)))))) h
            · intro hc
              rw [if_neg hc] at h
              refine zw_push hm_121 dX10_blacken_10 (v := .inr (.inr (some 88))) rfl ?_
              refine zw_gf hm_121 dX10_blacken_11 (v := .inr (.inr (some 90))) (zT_is (zT_pi hS) s_88) (zT_t (zT_pi hS) s_88) rfl f_10_15_10 (zT_f (zT_pi hS) r_88_2) ?_
              refine zw_push hm_121 dX10_blacken_14 (v := .inr (.inr (some c1))) rfl ?_
              obtain ⟨hg, h⟩ := h
              refine zw_gf hm_121 dX10_blacken_15 (v := .inl (mI (ma_put S 88 3 (.inl ((mI S 88 3) + (1 : Int32)))) c1 0)) (zT_tis (zT_pi hS) hg) (zT_tt (zT_pi hS) hg) rfl f_10_58_9 rfl ?_
              refine zw_push hm_121 dX10_blacken_18 (v := .inl (2 : Int32)) rfl ?_
              obtain ⟨hg, h⟩ := h
              refine zw_ias hm_121 dX10_blacken_19 (zT_is (zT_pi hS) s_90) (zT_h (zT_pi hS) s_90) rfl hg ?_
              refine zw_vret hm_121 dX10_blacken_20 ?_
              show ma_wp X d w 120 54 [(3, .inr (.inr (some c1))), (0, .inr (.inr (some 88))), (1, .inl l1), (2, .inl l2)] [] (ma_put (ma_put S 88 3 (.inl ((mI S 88 3) + (1 : Int32)))) 90 (mI (ma_put S 88 3 (.inl ((mI S 88 3) + (1 : Int32)))) c1 0).toNatClampNeg (.inl (2 : Int32))) _
              refine zw_push hm_120 dX10_spread_54 (v := .inl (0 : Int32)) rfl ?_
              refine zw_sto hm_120 dX10_spread_55 [(4, .inl (0 : Int32)), (3, .inr (.inr (some c1))), (0, .inr (.inr (some 88))), (1, .inl l1), (2, .inl l2)] rfl rfl rfl ?_
              exact zw_sub (ma_nd_of (ks := [0, 1, 2, 3, 4]) rfl (by decide)) (ma_nd_of (ks := [4, 3, 0, 1, 2]) rfl (by decide)) (ma_le_cons rfl (ma_le_cons rfl (ma_le_cons rfl (ma_le_cons rfl (ma_le_cons rfl (ma_le_nil _)))))) h
theorem g_120_88_s_57 {X : Nat × (Nat → Int32)} {d w : Nat} {S : ma_S} {Q : Option ma_V ⊕ Nat → ma_S → Prop} (l1 : Int32) (l2 : Int32) (l3 : Nat) (l4 : Int32) (hd : 1 ≤ d) (hw : 25 ≤ w) (hS : zT S) (h : (126 ≤ l3 ∧ l3 < mN S) ∧ (if ((mI S l3 2) - (1 : Int32)) ≤ l4 then (ma_wp X d w 120 2 [(0, .inr (.inr (some 88))), (1, .inl l1), (2, .inl (l2 + (1 : Int32)))] [] S Q) else (ma_wp X (d - 1) (w - 25) 82 0 [(0, .inr (.inr (some 69))), (1, .inr (.inr (some l3))), (2, .inl l4)] [] S (zo (fun v2 S1 => zT S1 ∧ (ma_wp X (d - 1) (w - 21) 119 0 [(0, .inr (.inr (some 88))), (1, .inr (.inr v2))] [] S1 (zv (fun S3 => zT S3 ∧ (ma_wp X d w 120 57 [(0, .inr (.inr (some 88))), (1, .inl l1), (2, .inl l2), (3, .inr (.inr (some l3))), (4, .inl (l4 + (1 : Int32)))] [] S3 Q)) (fun x S9 => Q (.inr x) S9)))) (fun x S9 => Q (.inr x) S9))))) : ma_wp X d w 120 57 [(0, .inr (.inr (some 88))), (1, .inl l1), (2, .inl l2), (3, .inr (.inr (some l3))), (4, .inl l4)] [] S Q := by
  refine zw_push hm_120 dX10_spread_57 (v := .inl l4) rfl ?_
  refine zw_push hm_120 dX10_spread_59 (v := .inr (.inr (some l3))) rfl ?_
  obtain ⟨hg, h⟩ := h
  refine zw_gf hm_120 dX10_spread_60 (v := .inl (mI S l3 2)) (zT_tis hS hg) (zT_tt hS hg) rfl f_10_89_9 rfl ?_
  refine zw_push hm_120 dX10_spread_63 (v := .inl (1 : Int32)) rfl ?_
  refine zw_stk hm_120 dX10_spread_64 (st₉ := [.inl ((mI S l3 2) - (1 : Int32)), .inl l4]) rfl rfl ?_
  refine zw_if2 hm_120 dX10_spread_65 (t := 88) rfl zc2_ge ?_ ?_
  · intro hc
    rw [if_pos hc] at h
    refine zw_sto hm_120 dX10_spread_88 [(2, .inl (l2 + (1 : Int32))), (0, .inr (.inr (some 88))), (1, .inl l1), (3, .inr (.inr (some l3))), (4, .inl l4)] rfl rfl rfl ?_
    refine zw_goto hm_120 dX10_spread_91 (t := 2) rfl ?_
    exact zw_sub (ma_nd_of (ks := [0, 1, 2]) rfl (by decide)) (ma_nd_of (ks := [2, 0, 1, 3, 4]) rfl (by decide)) (ma_le_cons rfl (ma_le_cons rfl (ma_le_cons rfl (ma_le_nil _)))) h
  · intro hc
    rw [if_neg hc] at h
    refine zw_push hm_120 dX10_spread_68 (v := .inr (.inr (some 88))) rfl ?_
    refine zw_push hm_120 dX10_spread_69 (v := .inr (.inr (some 88))) rfl ?_
    refine zw_gf hm_120 dX10_spread_70 (v := .inr (.inr (some 69))) (zT_is hS s_88) (zT_t hS s_88) rfl f_10_18_10 (zT_f hS r_88_0) ?_
    refine zw_push hm_120 dX10_spread_73 (v := .inr (.inr (some l3))) rfl ?_
    refine zw_push hm_120 dX10_spread_74 (v := .inl l4) rfl ?_
    refine zw_cv hm_120 dX10_spread_76 v_10_92_7 hm_82 [.inl l4, .inr (.inr (some l3))] [.inr (.inr (some 88))] rfl (zT_rt hS s_69 rfl) ⟨by omega, by omega⟩ rfl (zw_mono h (zo_go ?_ ?_))
    · intro v2 S1 hv
      obtain ⟨hS1, h⟩ := hv
      refine zw_cv hm_120 dX10_spread_79 v_10_70_10 hm_119 [.inr (.inr v2)] [] rfl (zT_rt hS1 s_88 rfl) ⟨by omega, by omega⟩ rfl (zw_mono h (zv_go ?_ ?_))
      · intro S3 hv
        obtain ⟨hS3, h⟩ := hv
        refine zw_sto hm_120 dX10_spread_82 [(4, .inl (l4 + (1 : Int32))), (0, .inr (.inr (some 88))), (1, .inl l1), (2, .inl l2), (3, .inr (.inr (some l3)))] rfl rfl rfl ?_
        refine zw_goto hm_120 dX10_spread_85 (t := 57) rfl ?_
        exact zw_sub (ma_nd_of (ks := [0, 1, 2, 3, 4]) rfl (by decide)) (ma_nd_of (ks := [4, 0, 1, 2, 3]) rfl (by decide)) (ma_le_cons rfl (ma_le_cons rfl (ma_le_cons rfl (ma_le_cons rfl (ma_le_cons rfl (ma_le_nil _)))))) h
      · intro x S9 hx
        exact ⟨by decide, hx⟩
    · intro x S9 hx
      exact ⟨by decide, hx⟩
theorem lp_120_88_s_57 {X : Nat × (Nat → Int32)} {d w : Nat} {f : Nat → Nat → Int32} {r : Nat → Nat → Option Nat} {C Z N : Nat} {Q : Option ma_V ⊕ Nat → ma_S → Prop} {ab : Nat→Nat→Int32} {R : zRT} {m : Int32} (hd : 1 ≤ d) (hw : 25 ≤ w) (K : ∀ v S₉, zI f r C Z N S₉ → (True) → (xB S₉ R) → (aS 88 S₉ = aSp m.toInt.toNat ab ∧ v.toInt = (aSn m.toInt.toNat ab : Int)) → Q (.inl (some (.inl v))) S₉) {nB : Nat} (OUT : ∀ (S₉ : ma_S) (l1 : Int32) (l2 : Int32), (l1.toInt - l2.toInt).toNat < nB → zI f r C Z N S₉ → (0 ≤ l2.toInt) → (l2.toInt ≤ l1.toInt) → (xB S₉ R) → (zSr (l1.toInt - l2.toInt).toNat (aS 88 S₉) l2.toInt m.toInt.toNat ab) → ma_wp X d w 120 2 [(0, .inr (.inr (some 88))), (1, .inl l1), (2, .inl l2)] [] S₉ Q) : ∀ (n : Nat) (S : ma_S) (l1 : Int32) (l2 : Int32) (l3 : Nat) (l4 : Int32), (61 - l4.toInt).toNat = n → zI f r C Z N S → (126 ≤ l3 ∧ l3 < N) → (l2.toInt < l1.toInt) → ((l1.toInt - l2.toInt).toNat = nB) → (0 ≤ l2.toInt) → (0 ≤ l4.toInt) → (xB S R) → (zTa R (mI S l3 0) = some l3) → (zSr (l1.toInt - l2.toInt - 1).toNat (aCw (aS 88 S) (mI S l3 0).toNatClampNeg l4) (l2.toInt + 1) m.toInt.toNat ab) → ma_wp X d w 120 57 [(0, .inr (.inr (some 88))), (1, .inl l1), (2, .inl l2), (3, .inr (.inr (some l3))), (4, .inl l4)] [] S Q := by
  intro n
  induction n using Nat.strongRecOn with
  | _ n IH =>
    intro S l1 l2 l3 l4 hmu hI th_l3 hi0 hi1 hi2 hi3 hi4 hi5 hi6
    refine g_120_88_s_57 l1 l2 l3 l4 (by omega) (by omega) (zG_T hI) ?_
    refine ⟨zG_n hI th_l3, ?_⟩
    have f1 := zG_th hI th_l3
    first | have e2 : ((mI S l3 2) - (1 : Int32)).toInt = (mI S l3 2).toInt - (1) := i_subk rfl (by omega) (by omega) | have b3 := i_bd ((mI S l3 2) - (1 : Int32))
    have b4 := i_bd l4
    refine zd (fun h5 => ?_) (fun h5 => ?_)
    · skip
      have g6 := i_le h5
      have b7 := i_bd l1
      have b8 := i_bd l2
      first | have e9 : (l2 + (1 : Int32)).toInt = l2.toInt + (1) := i_addk rfl (by omega) (by omega) | have b10 := i_bd (l2 + (1 : Int32))
      exact OUT _ (l1) ((l2 + (1 : Int32))) (by omega) hI (by omega) (by omega) (show xB S R from by first | (exact (xC_o (W := 75) hi4).2)) (show zSr ((l1).toInt - ((l2 + (1 : Int32))).toInt).toNat (aS 88 S) ((l2 + (1 : Int32))).toInt m.toInt.toNat ab from by first | (have q := hi6; rw [aCw_st (by rw [← (xB_th (W := 88) hi4 hi5).2.2.2.2.1]; omega)] at q; exact zSr_k q (by omega) (by omega)))
    · skip
      have g11 := i_nle h5
      refine sp_82_69_s (R := R) (W := 88) (y := (mI S l3 0)) l3 (l4) (by omega) (by omega) hI th_l3 (show xB S R from by first | (exact (xC_o (W := 75) hi4).2)) (show zTa R (mI S l3 0) = some l3 from by first | (exact hi5)) (by omega) (fun v2 S1 eS_S1 hq_v2 rp0_S1 => zo_n ⟨(by rw [eS_S1]; exact zG_T hI), ?_⟩)
      replace eS_S1 := eS_S1.symm; subst eS_S1
      have rp0_S1 : v2 = zTa R (aRef (aS 88 S) (mI S l3 0).toNatClampNeg l4) := rp0_S1
      refine sp_119_88_s (ab := (aS 88 S)) (R := R) (y := ((aRef (aS 88 S) (mI S l3 0).toNatClampNeg l4))) (v2) (by omega) (by omega) hI hq_v2 (show xB S R from by first | (exact (xC_o (W := 75) hi4).2)) (show aS 88 S = (aS 88 S) from by first | (exact rfl)) (show v2 = zTa R ((aRef (aS 88 S) (mI S l3 0).toNatClampNeg l4)) from by first | (exact rp0_S1)) (fun S3 hI_S3 rp0_S3 rp1_S3 => zv_n ⟨zG_T hI_S3, ?_⟩)
      have rp0_S3 : xB S3 R := rp0_S3
      have rp1_S3 : aS 88 S3 = aCm (aS 88 S) ((aRef (aS 88 S) (mI S l3 0).toNatClampNeg l4)) := rp1_S3
      have b12 := i_bd l1
      have b13 := i_bd l2
      first | have e14 : (l4 + (1 : Int32)).toInt = l4.toInt + (1) := i_addk rfl (by omega) (by omega) | have b15 := i_bd (l4 + (1 : Int32))
      exact IH _ (by omega) _ (l1) (l2) l3 ((l4 + (1 : Int32))) rfl hI_S3 th_l3 (by omega) (by omega) (by omega) (by omega) (show xB S3 R from by first | (exact (xC_o (W := 75) rp0_S3).2)) (show zTa R (mI S3 l3 0) = some l3 from by first | (exact rg_up rp0_S3 hi5) | (exact hi5)) (show zSr ((l1).toInt - (l2).toInt - 1).toNat (aCw (aS 88 S3) (mI S3 l3 0).toNatClampNeg ((l4 + (1 : Int32)))) ((l2).toInt + 1) m.toInt.toNat ab from by first | (rw [rp1_S3, (xB_th (W := 88) rp0_S3 hi5).2.2.1, ← aCw_go (by rw [← (xB_th (W := 88) hi4 hi5).2.2.2.2.1]; omega)]; exact hi6))
theorem lp_120_88_s_2 {X : Nat × (Nat → Int32)} {d w : Nat} {f : Nat → Nat → Int32} {r : Nat → Nat → Option Nat} {C Z N : Nat} {Q : Option ma_V ⊕ Nat → ma_S → Prop} {ab : Nat→Nat→Int32} {R : zRT} {m : Int32} (hd : 1 ≤ d) (hw : 25 ≤ w) (K : ∀ v S₉, zI f r C Z N S₉ → (True) → (xB S₉ R) → (aS 88 S₉ = aSp m.toInt.toNat ab ∧ v.toInt = (aSn m.toInt.toNat ab : Int)) → Q (.inl (some (.inl v))) S₉) : ∀ (n : Nat) (S : ma_S) (l1 : Int32) (l2 : Int32), (l1.toInt - l2.toInt).toNat = n → zI f r C Z N S → (0 ≤ l2.toInt) → (l2.toInt ≤ l1.toInt) → (xB S R) → (zSr (l1.toInt - l2.toInt).toNat (aS 88 S) l2.toInt m.toInt.toNat ab) → ma_wp X d w 120 2 [(0, .inr (.inr (some 88))), (1, .inl l1), (2, .inl l2)] [] S Q := by
  intro n
  induction n using Nat.strongRecOn with
  | _ n IH =>
    intro S l1 l2 hmu hI  hi0 hi1 hi2 hi3
    refine g_120_88_s_2 l1 l2 (by omega) (by omega) (zG_T hI) ?_
    have r3 := congrArg Int32.toInt (aS_I (W := 88) (S := S) (c := 75) (c₉ := 88) (k := 3) rfl rfl)
    have r4 := congrArg Int32.toInt (aS_I (W := 88) (S := S) (c := 75) (c₉ := 88) (k := 4) rfl rfl)
    have b1 := i_bd l1
    have b2 := i_bd l2
    refine zd (fun h3 => ?_) (fun h3 => ?_)
    · skip
      have g4 := i_le h3
      exact K (l2) _ hI trivial (show xB S R from by first | (exact (xC_o (W := 75) hi2).2)) (show aS 88 S = aSp m.toInt.toNat ab ∧ l2.toInt = (aSn m.toInt.toNat ab : Int) from by first | (exact zSr_st hi3 (Or.inl (by omega))) | (exact zSr_st hi3 (Or.inr (by omega))))
    · skip
      have g5 := i_nle h3
      have f6 := zG_s hI (0) (512) (c := 88) (k := 4) (by decide)
      have f7 := zG_s hI (0) (512) (c := 88) (k := 3) (by decide)
      refine zd (fun h8 => ?_) (fun h8 => ?_)
      · skip
        have g9 := i_le h8
        exact K (l2) _ hI trivial (show xB S R from by first | (exact (xC_o (W := 75) hi2).2)) (show aS 88 S = aSp m.toInt.toNat ab ∧ l2.toInt = (aSn m.toInt.toNat ab : Int) from by first | (exact zSr_st hi3 (Or.inl (by omega))) | (exact zSr_st hi3 (Or.inr (by omega))))
      · skip
        have g10 := i_nle h8
        refine ⟨i_ix (by omega) (by omega), ?_⟩
        have b11 := i_bd (mI S 89 (mI S 88 3).toNatClampNeg)
        have li12 : (0 : Int32).toInt = 0 := rfl
        refine zd (fun h13 => ?_) (fun h13 => ?_)
        · skip
          have g14 := i_lt h13
          first | have e16 : ((mI S 88 3) + (1 : Int32)).toInt = (mI S 88 3).toInt + (1) := i_addk rfl (by omega) (by omega) | have b17 := i_bd ((mI S 88 3) + (1 : Int32))
          have hI15 : zI f r C Z N (ma_put S 88 3 (.inl ((mI S 88 3) + (1 : Int32)))) := zG_sp hI (0) (512) rfl (by decide) (by decide) (by decide) trivial (by omega) (by omega)
          first | have e18 : (l2 + (1 : Int32)).toInt = l2.toInt + (1) := i_addk rfl (by omega) (by omega) | have b19 := i_bd (l2 + (1 : Int32))
          exact IH _ (by omega) _ (l1) ((l2 + (1 : Int32))) rfl hI15 (by omega) (by omega) (show xB (ma_put S 88 3 (.inl ((mI S 88 3) + (1 : Int32)))) R from by first | (exact (xC_n (c := 88) (k := 3) (x := ((mI S 88 3) + (1 : Int32))) (xC_o (W := 75) hi2) ⟨by decide, Or.inl ⟨rfl, rfl⟩⟩).2)) (show zSr ((l1).toInt - ((l2 + (1 : Int32))).toInt).toNat (aS 88 (ma_put S 88 3 (.inl ((mI S 88 3) + (1 : Int32))))) ((l2 + (1 : Int32))).toInt m.toInt.toNat ab from by first | (have q := zSr_go hi3 (show _ = (l1.toInt - (l2 + (1 : Int32)).toInt).toNat + 1 by omega) (by omega); rw [aPop_n (a := aS 88 S) (y := mI S 89 (mI S 88 3).toNatClampNeg) rfl (fun z => by omega)] at q; rw [(aS_I (W := 88) (S := S) (c := 75) (c₉ := 88) (k := 3) rfl rfl)] at q; rw [(xC_p (c := 88) (k := 3) (x := ((mI S 88 3) + (1 : Int32))) (xC_o (W := 88) hi2) 75 xW88 rfl rfl).1]; exact zSr_k q (by omega) (by omega)))
        · skip
          have g20 := i_nlt h13
          have li21 : (512 : Int32).toInt = 512 := rfl
          refine zd (fun h22 => ?_) (fun h22 => ?_)
          · skip
            have g23 := i_le h22
            first | have e25 : ((mI S 88 3) + (1 : Int32)).toInt = (mI S 88 3).toInt + (1) := i_addk rfl (by omega) (by omega) | have b26 := i_bd ((mI S 88 3) + (1 : Int32))
            have hI24 : zI f r C Z N (ma_put S 88 3 (.inl ((mI S 88 3) + (1 : Int32)))) := zG_sp hI (0) (512) rfl (by decide) (by decide) (by decide) trivial (by omega) (by omega)
            first | have e27 : (l2 + (1 : Int32)).toInt = l2.toInt + (1) := i_addk rfl (by omega) (by omega) | have b28 := i_bd (l2 + (1 : Int32))
            exact IH _ (by omega) _ (l1) ((l2 + (1 : Int32))) rfl hI24 (by omega) (by omega) (show xB (ma_put S 88 3 (.inl ((mI S 88 3) + (1 : Int32)))) R from by first | (exact (xC_n (c := 88) (k := 3) (x := ((mI S 88 3) + (1 : Int32))) (xC_o (W := 75) hi2) ⟨by decide, Or.inl ⟨rfl, rfl⟩⟩).2)) (show zSr ((l1).toInt - ((l2 + (1 : Int32))).toInt).toNat (aS 88 (ma_put S 88 3 (.inl ((mI S 88 3) + (1 : Int32))))) ((l2 + (1 : Int32))).toInt m.toInt.toNat ab from by first | (have q := zSr_go hi3 (show _ = (l1.toInt - (l2 + (1 : Int32)).toInt).toNat + 1 by omega) (by omega); rw [aPop_n (a := aS 88 S) (y := mI S 89 (mI S 88 3).toNatClampNeg) rfl (fun z => by omega)] at q; rw [(aS_I (W := 88) (S := S) (c := 75) (c₉ := 88) (k := 3) rfl rfl)] at q; rw [(xC_p (c := 88) (k := 3) (x := ((mI S 88 3) + (1 : Int32))) (xC_o (W := 88) hi2) 75 xW88 rfl rfl).1]; exact zSr_k q (by omega) (by omega)))
          · skip
            have g29 := i_nle h22
            refine ⟨i_ix (by omega) (by omega), ?_⟩
            refine ⟨fun hc => ?_, fun c1 hc => ?_⟩
            · skip
              have rn_c1 : zTa R ((mI S 89 (mI S 88 3).toNatClampNeg)) = none := (ta_rd (y := ((mI S 89 (mI S 88 3).toNatClampNeg))) hi2 (by omega) (by omega)).symm.trans hc
              first | have e31 : ((mI S 88 3) + (1 : Int32)).toInt = (mI S 88 3).toInt + (1) := i_addk rfl (by omega) (by omega) | have b32 := i_bd ((mI S 88 3) + (1 : Int32))
              have hI30 : zI f r C Z N (ma_put S 88 3 (.inl ((mI S 88 3) + (1 : Int32)))) := zG_sp hI (0) (512) rfl (by decide) (by decide) (by decide) trivial (by omega) (by omega)
              first | have e33 : (l2 + (1 : Int32)).toInt = l2.toInt + (1) := i_addk rfl (by omega) (by omega) | have b34 := i_bd (l2 + (1 : Int32))
              exact IH _ (by omega) _ (l1) ((l2 + (1 : Int32))) rfl hI30 (by omega) (by omega) (show xB (ma_put S 88 3 (.inl ((mI S 88 3) + (1 : Int32)))) R from by first | (exact (xC_n (c := 88) (k := 3) (x := ((mI S 88 3) + (1 : Int32))) (xC_o (W := 75) hi2) ⟨by decide, Or.inl ⟨rfl, rfl⟩⟩).2)) (show zSr ((l1).toInt - ((l2 + (1 : Int32))).toInt).toNat (aS 88 (ma_put S 88 3 (.inl ((mI S 88 3) + (1 : Int32))))) ((l2 + (1 : Int32))).toInt m.toInt.toNat ab from by first | (have q := zSr_go hi3 (show _ = (l1.toInt - (l2 + (1 : Int32)).toInt).toNat + 1 by omega) (by omega); rw [aPop_n (a := aS 88 S) (y := mI S 89 (mI S 88 3).toNatClampNeg) rfl (fun z => xB_nt (W := 88) hi2 rn_c1 z)] at q; rw [(aS_I (W := 88) (S := S) (c := 75) (c₉ := 88) (k := 3) rfl rfl)] at q; rw [(xC_p (c := 88) (k := 3) (x := ((mI S 88 3) + (1 : Int32))) (xC_o (W := 88) hi2) 75 xW88 rfl rfl).1]; exact zSr_k q (by omega) (by omega)))
            · skip
              have th_c1 := (fun _ z => zG_70 hI (c := 70) (by decide) z) c1 hc
              have rg_c1 : zTa R ((mI S 89 (mI S 88 3).toNatClampNeg)) = some c1 := (ta_rd (y := ((mI S 89 (mI S 88 3).toNatClampNeg))) hi2 (by omega) (by omega)).symm.trans hc
              first | have e36 : ((mI S 88 3) + (1 : Int32)).toInt = (mI S 88 3).toInt + (1) := i_addk rfl (by omega) (by omega) | have b37 := i_bd ((mI S 88 3) + (1 : Int32))
              have hI35 : zI f r C Z N (ma_put S 88 3 (.inl ((mI S 88 3) + (1 : Int32)))) := zG_sp hI (0) (512) rfl (by decide) (by decide) (by decide) trivial (by omega) (by omega)
              refine ⟨zG_n hI35 th_c1, ?_⟩
              have f38 := zG_th hI th_c1
              have q39 : (mI (ma_put S 88 3 (.inl ((mI S 88 3) + (1 : Int32)))) c1 0).toInt = (mI S c1 0).toInt := zp_fx th_c1.1 (by decide)
              have f40 := zG_th hI35 th_c1
              refine zd (fun h41 => ?_) (fun h41 => ?_)
              · skip
                have g42 := i_le h41
                exact lp_120_88_s_57 (by omega) (by omega) K (fun _ _ _ z1 z2 z3 z4 z5 z6 => IH _ z1 _ _ _ rfl z2 z3 z4 z5 z6) _ _ (l1) (l2) c1 ((0 : Int32)) rfl hI35 th_c1 (by omega) (by omega) (by omega) (by omega) (show xB (ma_put S 88 3 (.inl ((mI S 88 3) + (1 : Int32)))) R from by first | (exact (xC_n (c := 88) (k := 3) (x := ((mI S 88 3) + (1 : Int32))) (xC_o (W := 75) hi2) ⟨by decide, Or.inl ⟨rfl, rfl⟩⟩).2)) (show zTa R (mI (ma_put S 88 3 (.inl ((mI S 88 3) + (1 : Int32)))) c1 0) = some c1 from by first | (exact rg_up (xC_p (c := 88) (k := 3) (x := ((mI S 88 3) + (1 : Int32))) (xC_o (W := 88) hi2) 75 xW88 rfl rfl).2 rg_c1)) (show zSr ((l1).toInt - (l2).toInt - 1).toNat (aCw (aS 88 (ma_put S 88 3 (.inl ((mI S 88 3) + (1 : Int32))))) (mI (ma_put S 88 3 (.inl ((mI S 88 3) + (1 : Int32)))) c1 0).toNatClampNeg ((0 : Int32))) ((l2).toInt + 1) m.toInt.toNat ab from by first | (exfalso; omega) | (have ty := xB_th (W := 88) hi2 rg_c1; have q := zSr_go hi3 (show _ = (l1.toInt - l2.toInt - 1).toNat + 1 by omega) (by omega); rw [aPop_y (a := aS 88 S) (y := ((mI S 89 (mI S 88 3).toNatClampNeg))) rfl ty.1 ty.2.1 (by rw [ty.2.2.2.2.2.2.2.2]; decide), (aS_I (W := 88) (S := S) (c := 75) (c₉ := 88) (k := 3) rfl rfl)] at q; rw [(xC_p (c := 88) (k := 3) (x := ((mI S 88 3) + (1 : Int32))) (xC_o (W := 88) hi2) 75 xW88 rfl rfl).1]; (try simp only [zp_e (c₉ := 88) th_c1.1 (by decide)]); rw [ty.2.2.1]; exact q))
              · skip
                have g43 := i_nle h41
                refine ⟨zG_n hI35 th_c1, ?_⟩
                refine ⟨i_ix (by omega) (by omega), ?_⟩
                have hI44 : zI f r C Z N (ma_put (ma_put S 88 3 (.inl ((mI S 88 3) + (1 : Int32)))) 90 (mI (ma_put S 88 3 (.inl ((mI S 88 3) + (1 : Int32)))) c1 0).toNatClampNeg (.inl (2 : Int32))) := zG_fa hI35 rfl (by decide) (by decide) (by decide) trivial
                exact lp_120_88_s_57 (by omega) (by omega) K (fun _ _ _ z1 z2 z3 z4 z5 z6 => IH _ z1 _ _ _ rfl z2 z3 z4 z5 z6) _ _ (l1) (l2) c1 ((0 : Int32)) rfl hI44 th_c1 (by omega) (by omega) (by omega) (by omega) (show xB (ma_put (ma_put S 88 3 (.inl ((mI S 88 3) + (1 : Int32)))) 90 (mI (ma_put S 88 3 (.inl ((mI S 88 3) + (1 : Int32)))) c1 0).toNatClampNeg (.inl (2 : Int32))) R from by first | (exact (xC_n (c := 90) (k := (mI (ma_put S 88 3 (.inl ((mI S 88 3) + (1 : Int32)))) c1 0).toNatClampNeg) (x := (2 : Int32)) (xC_n (c := 88) (k := 3) (x := ((mI S 88 3) + (1 : Int32))) (xC_o (W := 75) hi2) ⟨by decide, Or.inl ⟨rfl, rfl⟩⟩) ⟨by decide, Or.inl ⟨rfl, rfl⟩⟩).2)) (show zTa R (mI (ma_put (ma_put S 88 3 (.inl ((mI S 88 3) + (1 : Int32)))) 90 (mI (ma_put S 88 3 (.inl ((mI S 88 3) + (1 : Int32)))) c1 0).toNatClampNeg (.inl (2 : Int32))) c1 0) = some c1 from by first | (exact rg_up (xC_p (c := 90) (k := (mI (ma_put S 88 3 (.inl ((mI S 88 3) + (1 : Int32)))) c1 0).toNatClampNeg) (x := (2 : Int32)) (xC_p (c := 88) (k := 3) (x := ((mI S 88 3) + (1 : Int32))) (xC_o (W := 88) hi2) 75 xW88 rfl rfl) 77 xW88 rfl rfl).2 rg_c1)) (show zSr ((l1).toInt - (l2).toInt - 1).toNat (aCw (aS 88 (ma_put (ma_put S 88 3 (.inl ((mI S 88 3) + (1 : Int32)))) 90 (mI (ma_put S 88 3 (.inl ((mI S 88 3) + (1 : Int32)))) c1 0).toNatClampNeg (.inl (2 : Int32)))) (mI (ma_put (ma_put S 88 3 (.inl ((mI S 88 3) + (1 : Int32)))) 90 (mI (ma_put S 88 3 (.inl ((mI S 88 3) + (1 : Int32)))) c1 0).toNatClampNeg (.inl (2 : Int32))) c1 0).toNatClampNeg ((0 : Int32))) ((l2).toInt + 1) m.toInt.toNat ab from by first | (exfalso; omega) | (have ty := xB_th (W := 88) hi2 rg_c1; have q := zSr_go hi3 (show _ = (l1.toInt - l2.toInt - 1).toNat + 1 by omega) (by omega); rw [aPop_y (a := aS 88 S) (y := ((mI S 89 (mI S 88 3).toNatClampNeg))) rfl ty.1 ty.2.1 (by rw [ty.2.2.2.2.2.2.2.2]; decide), (aS_I (W := 88) (S := S) (c := 75) (c₉ := 88) (k := 3) rfl rfl)] at q; rw [(xC_p (c := 90) (k := (mI (ma_put S 88 3 (.inl ((mI S 88 3) + (1 : Int32)))) c1 0).toNatClampNeg) (x := (2 : Int32)) (xC_p (c := 88) (k := 3) (x := ((mI S 88 3) + (1 : Int32))) (xC_o (W := 88) hi2) 75 xW88 rfl rfl) 77 xW88 rfl rfl).1]; (try simp only [zp_e (c₉ := 88) th_c1.1 (by decide), zp_e (c₉ := 90) th_c1.1 (by decide)]); rw [ty.2.2.1]; exact q))
theorem sp_120_88_s {X : Nat × (Nat → Int32)} {d w : Nat} {f : Nat → Nat → Int32} {r : Nat → Nat → Option Nat} {C Z N : Nat} {Q : Option ma_V ⊕ Nat → ma_S → Prop} {ab : Nat→Nat→Int32} {R : zRT} {S : ma_S} (m : Int32) (hd : 1 ≤ d) (hw : 25 ≤ w) (hI : zI f r C Z N S) (hpre0 : xB S R) (hpre1 : aS 88 S = ab) (hpre2 : 0 ≤ m.toInt) (K : ∀ v S₉, zI f r C Z N S₉ → (True) → (xB S₉ R) → (aS 88 S₉ = aSp m.toInt.toNat ab ∧ v.toInt = (aSn m.toInt.toNat ab : Int)) → Q (.inl (some (.inl v))) S₉) : ma_wp X d w 120 0 [(0, .inr (.inr (some 88))), (1, .inl m)] [] S Q := by
  refine g_120_88_s_0 m (by omega) (by omega) (zG_T hI) ?_
  have b1 := i_bd m
  have li2 : (0 : Int32).toInt = 0 := rfl
  exact lp_120_88_s_2 (by omega) (by omega) K _ _ (m) ((0 : Int32)) rfl hI (by omega) (by omega) (show xB S R from by first | (exact (xC_o (W := 75) hpre0).2)) (show zSr ((m).toInt - ((0 : Int32)).toInt).toNat (aS 88 S) ((0 : Int32)).toInt m.toInt.toNat ab from by first | (rw [hpre1, show (_ - (0 : Int32).toInt).toNat = m.toInt.toNat from by omega]; exact ⟨rfl, by omega⟩))

/-! from 95.g04 -/
/-! the heap by numbers, the class (written by wip/tools/gen18.py) -/
theorem g_119_75_s_0 {X : Nat × (Nat → Int32)} {d w : Nat} {S : ma_S} {Q : Option ma_V ⊕ Nat → ma_S → Prop} (t : Option Nat) (hd : 0 ≤ d) (hw : 0 ≤ w) (hS : zT S) (h : (t = none → Q (.inl none) S) ∧ (∀ c1, t = some c1 → (126 ≤ c1 ∧ c1 < mN S) ∧ (if (mI S c1 4) < (mI S 75 5) then (Q (.inl none) S) else ((126 ≤ c1 ∧ c1 < mN S) ∧ (if (512 : Int32) ≤ (mI S c1 0) then (Q (.inl none) S) else (if (mI S 75 4) < (512 : Int32) then ((126 ≤ c1 ∧ c1 < mN S) ∧ ((0 ≤ (mI S c1 0) ∧ (mI S c1 0).toNatClampNeg < 512) ∧ (if (mI S 77 (mI S c1 0).toNatClampNeg) = 0 then ((126 ≤ c1 ∧ c1 < mN S) ∧ ((0 ≤ (mI S c1 0) ∧ (mI S c1 0).toNatClampNeg < 512) ∧ ((126 ≤ c1 ∧ c1 < mN (ma_put S 77 (mI S c1 0).toNatClampNeg (.inl (1 : Int32)))) ∧ ((0 ≤ (mI S 75 4) ∧ (mI S 75 4).toNatClampNeg < 512) ∧ (Q (.inl none) (ma_put (ma_put (ma_put S 77 (mI S c1 0).toNatClampNeg (.inl (1 : Int32))) 76 (mI S 75 4).toNatClampNeg (.inl (mI (ma_put S 77 (mI S c1 0).toNatClampNeg (.inl (1 : Int32))) c1 0))) 75 4 (.inl ((mI S 75 4) + (1 : Int32))))))))) else (Q (.inl none) S)))) else (Q (.inl none) S))))))) : ma_wp X d w 119 0 [(0, .inr (.inr (some 75))), (1, .inr (.inr t))] [] S Q := by
  refine zw_push hm_119 dX10_comes_0 (v := .inr (.inr t)) rfl ?_
  refine zw_ifnull hm_119 dX10_comes_1 (t := 35) rfl ?_ ?_
  · intro hc
    have h := h.1 hc
    (try rw [hc])
    show ma_wp X d w 119 35 [(0, .inr (.inr (some 75))), (1, .inr (.inr none))] [] S _
    exact zw_vret hm_119 dX10_comes_35 h
  · intro c1 hc
    have h := h.2 c1 hc
    (try rw [hc])
    show ma_wp X d w 119 4 [(0, .inr (.inr (some 75))), (1, .inr (.inr (some c1)))] [] S _
    refine zw_push hm_119 dX10_comes_4 (v := .inr (.inr (some c1))) rfl ?_
    obtain ⟨hg, h⟩ := h
    refine zw_gf hm_119 dX10_comes_5 (v := .inl (mI S c1 4)) (zT_tis hS hg) (zT_tt hS hg) rfl f_10_49_9 rfl ?_
    refine zw_push hm_119 dX10_comes_8 (v := .inr (.inr (some 75))) rfl ?_
    refine zw_gf hm_119 dX10_comes_9 (v := .inl (mI S 75 5)) (zT_is hS s_75) (zT_t hS s_75) rfl f_10_35_10 rfl ?_
    refine zw_if2 hm_119 dX10_comes_12 (t := 35) rfl zc2_lt ?_ ?_
    · intro hc
      rw [if_pos hc] at h
      exact zw_vret hm_119 dX10_comes_35 h
    · intro hc
      rw [if_neg hc] at h
      refine zw_push hm_119 dX10_comes_15 (v := .inr (.inr (some c1))) rfl ?_
      obtain ⟨hg, h⟩ := h
      refine zw_gf hm_119 dX10_comes_16 (v := .inl (mI S c1 0)) (zT_tis hS hg) (zT_tt hS hg) rfl f_10_58_9 rfl ?_
      refine zw_push hm_119 dX10_comes_19 (v := .inl (512 : Int32)) rfl ?_
      refine zw_if2 hm_119 dX10_comes_22 (t := 35) rfl zc2_ge ?_ ?_
      · intro hc
        rw [if_pos hc] at h
        exact zw_vret hm_119 dX10_comes_35 h
      · intro hc
        rw [if_neg hc] at h
        refine zw_push hm_119 dX10_comes_25 (v := .inr (.inr (some 75))) rfl ?_
        refine zw_gf hm_119 dX10_comes_26 (v := .inl (mI S 75 4)) (zT_is hS s_75) (zT_t hS s_75) rfl f_10_32_10 rfl ?_
        refine zw_push hm_119 dX10_comes_29 (v := .inl (512 : Int32)) rfl ?_
        refine zw_if2 hm_119 dX10_comes_32 (t := 36) rfl zc2_lt ?_ ?_
        · intro hc
          rw [if_pos hc] at h
          refine zw_push hm_119 dX10_comes_36 (v := .inr (.inr (some 75))) rfl ?_
          refine zw_gf hm_119 dX10_comes_37 (v := .inr (.inr (some 77))) (zT_is hS s_75) (zT_t hS s_75) rfl f_10_15_10 (zT_f hS r_75_2) ?_
          refine zw_push hm_119 dX10_comes_40 (v := .inr (.inr (some c1))) rfl ?_
          obtain ⟨hg, h⟩ := h
          refine zw_gf hm_119 dX10_comes_41 (v := .inl (mI S c1 0)) (zT_tis hS hg) (zT_tt hS hg) rfl f_10_58_9 rfl ?_
          obtain ⟨hg, h⟩ := h
          refine zw_ia hm_119 dX10_comes_44 (zT_is hS s_77) (zT_h hS s_77) rfl hg ?_
          show ma_wp X d w 119 45 [(0, .inr (.inr (some 75))), (1, .inr (.inr (some c1)))] [.inl (mI S 77 (mI S c1 0).toNatClampNeg)] S _
          refine zw_if0 hm_119 dX10_comes_45 (t := 81) rfl zc0_ne ?_ ?_
          · intro hc
            rw [if_neg hc] at h
            exact zw_vret hm_119 dX10_comes_81 h
          · intro hc
            rw [if_pos (Classical.not_not.mp hc)] at h
            refine zw_push hm_119 dX10_comes_48 (v := .inr (.inr (some 75))) rfl ?_
            refine zw_gf hm_119 dX10_comes_49 (v := .inr (.inr (some 77))) (zT_is hS s_75) (zT_t hS s_75) rfl f_10_15_10 (zT_f hS r_75_2) ?_
            refine zw_push hm_119 dX10_comes_52 (v := .inr (.inr (some c1))) rfl ?_
            obtain ⟨hg, h⟩ := h
            refine zw_gf hm_119 dX10_comes_53 (v := .inl (mI S c1 0)) (zT_tis hS hg) (zT_tt hS hg) rfl f_10_58_9 rfl ?_
            refine zw_push hm_119 dX10_comes_56 (v := .inl (1 : Int32)) rfl ?_
            obtain ⟨hg, h⟩ := h
            refine zw_ias hm_119 dX10_comes_57 (zT_is hS s_77) (zT_h hS s_77) rfl hg ?_
            refine zw_push hm_119 dX10_comes_58 (v := .inr (.inr (some 75))) rfl ?_
            refine zw_gf hm_119 dX10_comes_59 (v := .inr (.inr (some 76))) (zT_is (zT_pi hS) s_75) (zT_t (zT_pi hS) s_75) rfl f_10_9_10 (zT_f (zT_pi hS) r_75_1) ?_
            refine zw_push hm_119 dX10_comes_62 (v := .inr (.inr (some 75))) rfl ?_
            refine zw_gf hm_119 dX10_comes_63 (v := .inl (mI S 75 4)) (zT_is (zT_pi hS) s_75) (zT_t (zT_pi hS) s_75) rfl f_10_32_10 rfl ?_
            refine zw_push hm_119 dX10_comes_66 (v := .inr (.inr (some c1))) rfl ?_
            obtain ⟨hg, h⟩ := h
            refine zw_gf hm_119 dX10_comes_67 (v := .inl (mI (ma_put S 77 (mI S c1 0).toNatClampNeg (.inl (1 : Int32))) c1 0)) (zT_tis (zT_pi hS) hg) (zT_tt (zT_pi hS) hg) rfl f_10_58_9 rfl ?_
            obtain ⟨hg, h⟩ := h
            refine zw_ias hm_119 dX10_comes_70 (zT_is (zT_pi hS) s_76) (zT_h (zT_pi hS) s_76) rfl hg ?_
            refine zw_push hm_119 dX10_comes_71 (v := .inr (.inr (some 75))) rfl ?_
            refine zw_stk hm_119 dX10_comes_72 (st₉ := [.inr (.inr (some 75)), .inr (.inr (some 75))]) rfl rfl ?_
            refine zw_gf hm_119 dX10_comes_73 (v := .inl (mI S 75 4)) (zT_is (zT_pi (zT_pi hS)) s_75) (zT_t (zT_pi (zT_pi hS)) s_75) rfl f_10_32_10 rfl ?_
            refine zw_push hm_119 dX10_comes_76 (v := .inl (1 : Int32)) rfl ?_
            refine zw_stk hm_119 dX10_comes_77 (st₉ := [.inl ((mI S 75 4) + (1 : Int32)), .inr (.inr (some 75))]) rfl rfl ?_
            refine zw_pf hm_119 dX10_comes_78 (zT_is (zT_pi (zT_pi hS)) s_75) (zT_t (zT_pi (zT_pi hS)) s_75) p_10_32_10 zk_int ?_
            exact zw_vret hm_119 dX10_comes_81 h
        · intro hc
          rw [if_neg hc] at h
          exact zw_vret hm_119 dX10_comes_35 h
theorem sp_119_75_s {X : Nat × (Nat → Int32)} {d w : Nat} {f : Nat → Nat → Int32} {r : Nat → Nat → Option Nat} {C Z N : Nat} {Q : Option ma_V ⊕ Nat → ma_S → Prop} {ab : Nat→Nat→Int32} {R : zRT} {y : Int32} {a8 : Nat→Nat→Int32} {S : ma_S} (t : Option Nat) (hd : 0 ≤ d) (hw : 0 ≤ w) (hI : zI f r C Z N S) (hq_t : ∀ c, t = some c → 126 ≤ c ∧ c < N) (hpre0 : xB S R) (hpre1 : aS 75 S = ab) (hpre2 : t = zTa R y) (hpre3 : aS 88 S = a8) (K : ∀ S₉, zI f r C Z N S₉ → (xB S₉ R) → (aS 75 S₉ = aCm ab y) → (aS 88 S₉ = a8) → Q (.inl none) S₉) : ma_wp X d w 119 0 [(0, .inr (.inr (some 75))), (1, .inr (.inr t))] [] S Q := by
  refine g_119_75_s_0 t (by omega) (by omega) (zG_T hI) ?_
  refine ⟨fun hc => ?_, fun c1 hc => ?_⟩
  · skip
    have rn_c1 : zTa R y = none := hpre2.symm.trans hc
    exact K _ hI (show xB S R from by first | (exact (xC_o (W := 75) hpre0).2)) (show aS 75 S = aCm ab y from by first | (exact hpre1.trans (aCm_n (fun z => xB_nt (W := 75) hpre0 rn_c1 (by rw [hpre1]; exact ⟨z.1, z.2.1, z.2.2.1⟩))).symm)) (show aS 88 S = a8 from by first | (exact (xC_o (W := 88) hpre0).1.trans hpre3))
  · skip
    have th_c1 := hq_t c1 hc
    have rg_c1 : zTa R y = some c1 := hpre2.symm.trans hc
    subst hc
    refine ⟨zG_n hI th_c1, ?_⟩
    have f1 := zG_th hI th_c1
    have b2 := i_bd (mI S 75 5)
    refine zd (fun h3 => ?_) (fun h3 => ?_)
    · skip
      have g4 := i_lt h3
      exact K _ hI (show xB S R from by first | (exact (xC_o (W := 75) hpre0).2)) (show aS 75 S = aCm ab y from by first | (have ty := xB_th (W := 75) hpre0 rg_c1; have e4 := congrArg Int32.toInt ty.2.2.2.2.2.1; refine hpre1.trans (aCm_n (fun z => ?_)).symm; rw [← hpre1] at z; have z4 : (mI S 75 5).toInt ≤ (mI S c1 4).toInt := (by rw [e4]; exact z.2.2.2.1); have z5 : (mI S 75 4).toInt < 512 := z.2.2.2.2.1; have z6 : (mI S 77 (mI S c1 0).toNatClampNeg).toInt = 0 := (by rw [ty.2.2.1]; exact congrArg Int32.toInt z.2.2.2.2.2); omega)) (show aS 88 S = a8 from by first | (exact (xC_o (W := 88) hpre0).1.trans hpre3))
    · skip
      have g5 := i_nlt h3
      refine ⟨zG_n hI th_c1, ?_⟩
      have li6 : (512 : Int32).toInt = 512 := rfl
      have f7 := zG_th hI th_c1
      refine zd (fun h8 => ?_) (fun h8 => ?_)
      · skip
        have g9 := i_le h8
        exact K _ hI (show xB S R from by first | (exact (xC_o (W := 75) hpre0).2)) (show aS 75 S = aCm ab y from by first | (have ty := xB_th (W := 75) hpre0 rg_c1; have e4 := congrArg Int32.toInt ty.2.2.2.2.2.1; refine hpre1.trans (aCm_n (fun z => ?_)).symm; rw [← hpre1] at z; have z4 : (mI S 75 5).toInt ≤ (mI S c1 4).toInt := (by rw [e4]; exact z.2.2.2.1); have z5 : (mI S 75 4).toInt < 512 := z.2.2.2.2.1; have z6 : (mI S 77 (mI S c1 0).toNatClampNeg).toInt = 0 := (by rw [ty.2.2.1]; exact congrArg Int32.toInt z.2.2.2.2.2); omega)) (show aS 88 S = a8 from by first | (exact (xC_o (W := 88) hpre0).1.trans hpre3))
      · skip
        have g10 := i_nle h8
        have f11 := zG_s hI (0) (512) (c := 75) (k := 4) (by decide)
        refine zd (fun h12 => ?_) (fun h12 => ?_)
        · skip
          have g13 := i_lt h12
          refine ⟨zG_n hI th_c1, ?_⟩
          refine ⟨i_ix (by omega) (by omega), ?_⟩
          have b14 := i_bd (mI S 77 (mI S c1 0).toNatClampNeg)
          have li15 : (0 : Int32).toInt = 0 := rfl
          refine zd (fun h16 => ?_) (fun h16 => ?_)
          · skip
            have g17 := i_eq h16
            refine ⟨zG_n hI th_c1, ?_⟩
            refine ⟨i_ix (by omega) (by omega), ?_⟩
            have hI18 : zI f r C Z N (ma_put S 77 (mI S c1 0).toNatClampNeg (.inl (1 : Int32))) := zG_fa hI rfl (by decide) (by decide) (by decide) trivial
            refine ⟨zG_n hI18 th_c1, ?_⟩
            refine ⟨i_ix (by omega) (by omega), ?_⟩
            have hI19 : zI f r C Z N (ma_put (ma_put S 77 (mI S c1 0).toNatClampNeg (.inl (1 : Int32))) 76 (mI S 75 4).toNatClampNeg (.inl (mI (ma_put S 77 (mI S c1 0).toNatClampNeg (.inl (1 : Int32))) c1 0))) := zG_fa hI18 rfl (by decide) (by decide) (by decide) trivial
            first | have e21 : ((mI S 75 4) + (1 : Int32)).toInt = (mI S 75 4).toInt + (1) := i_addk rfl (by omega) (by omega) | have b22 := i_bd ((mI S 75 4) + (1 : Int32))
            have hI20 : zI f r C Z N (ma_put (ma_put (ma_put S 77 (mI S c1 0).toNatClampNeg (.inl (1 : Int32))) 76 (mI S 75 4).toNatClampNeg (.inl (mI (ma_put S 77 (mI S c1 0).toNatClampNeg (.inl (1 : Int32))) c1 0))) 75 4 (.inl ((mI S 75 4) + (1 : Int32)))) := zG_sp hI19 (0) (512) rfl (by decide) (by decide) (by decide) trivial (by omega) (by omega)
            exact K _ hI20 (show xB (ma_put (ma_put (ma_put S 77 (mI S c1 0).toNatClampNeg (.inl (1 : Int32))) 76 (mI S 75 4).toNatClampNeg (.inl (mI (ma_put S 77 (mI S c1 0).toNatClampNeg (.inl (1 : Int32))) c1 0))) 75 4 (.inl ((mI S 75 4) + (1 : Int32)))) R from by first | (exact (xC_p (c := 75) (k := 4) (x := ((mI S 75 4) + (1 : Int32))) (xC_p (c := 76) (k := (mI S 75 4).toNatClampNeg) (x := (mI (ma_put S 77 (mI S c1 0).toNatClampNeg (.inl (1 : Int32))) c1 0)) (xC_p (c := 77) (k := (mI S c1 0).toNatClampNeg) (x := (1 : Int32)) (xC_o (W := 75) hpre0) 77 xW75 rfl rfl) 76 xW75 rfl rfl) 75 xW75 rfl rfl).2)) (show aS 75 (ma_put (ma_put (ma_put S 77 (mI S c1 0).toNatClampNeg (.inl (1 : Int32))) 76 (mI S 75 4).toNatClampNeg (.inl (mI (ma_put S 77 (mI S c1 0).toNatClampNeg (.inl (1 : Int32))) c1 0))) 75 4 (.inl ((mI S 75 4) + (1 : Int32)))) = aCm ab y from by first | (have ty := xB_th (W := 75) hpre0 rg_c1; have e4 := congrArg Int32.toInt ty.2.2.2.2.2.1; refine (xC_p (c := 75) (k := 4) (x := ((mI S 75 4) + (1 : Int32))) (xC_p (c := 76) (k := (mI S 75 4).toNatClampNeg) (x := (mI (ma_put S 77 (mI S c1 0).toNatClampNeg (.inl (1 : Int32))) c1 0)) (xC_p (c := 77) (k := (mI S c1 0).toNatClampNeg) (x := (1 : Int32)) (xC_o (W := 75) hpre0) 77 xW75 rfl rfl) 76 xW75 rfl rfl) 75 xW75 rfl rfl).1.trans ?_; (try simp only [zp_e (c₉ := 75) th_c1.1 (by decide), zp_e (c₉ := 76) th_c1.1 (by decide), zp_e (c₉ := 77) th_c1.1 (by decide)]); rw [ty.2.2.1, ← hpre1]; refine (aCm_y ⟨ty.1, ty.2.1, ?_, ?_, ?_, ?_⟩).symm; (rw [ty.2.2.2.2.2.2.2.2]; decide); (show (mI S 75 5).toInt ≤ _; rw [← e4]; omega); (show (mI S 75 4).toInt < 512; omega); (show mI S 77 y.toNatClampNeg = 0; rw [← ty.2.2.1]; assumption))) (show aS 88 (ma_put (ma_put (ma_put S 77 (mI S c1 0).toNatClampNeg (.inl (1 : Int32))) 76 (mI S 75 4).toNatClampNeg (.inl (mI (ma_put S 77 (mI S c1 0).toNatClampNeg (.inl (1 : Int32))) c1 0))) 75 4 (.inl ((mI S 75 4) + (1 : Int32)))) = a8 from by first | (exact (xC_n (c := 75) (k := 4) (x := ((mI S 75 4) + (1 : Int32))) (xC_n (c := 76) (k := (mI S 75 4).toNatClampNeg) (x := (mI (ma_put S 77 (mI S c1 0).toNatClampNeg (.inl (1 : Int32))) c1 0)) (xC_n (c := 77) (k := (mI S c1 0).toNatClampNeg) (x := (1 : Int32)) (xC_o (W := 88) hpre0) ⟨by decide, Or.inr ⟨rfl, Or.inl (by decide)⟩⟩) ⟨by decide, Or.inr ⟨rfl, Or.inl (by decide)⟩⟩) ⟨by decide, Or.inr ⟨rfl, Or.inl (by decide)⟩⟩).1.trans hpre3))
          · skip
            have g23 := i_ne h16
            exact K _ hI (show xB S R from by first | (exact (xC_o (W := 75) hpre0).2)) (show aS 75 S = aCm ab y from by first | (have ty := xB_th (W := 75) hpre0 rg_c1; have e4 := congrArg Int32.toInt ty.2.2.2.2.2.1; refine hpre1.trans (aCm_n (fun z => ?_)).symm; rw [← hpre1] at z; have z4 : (mI S 75 5).toInt ≤ (mI S c1 4).toInt := (by rw [e4]; exact z.2.2.2.1); have z5 : (mI S 75 4).toInt < 512 := z.2.2.2.2.1; have z6 : (mI S 77 (mI S c1 0).toNatClampNeg).toInt = 0 := (by rw [ty.2.2.1]; exact congrArg Int32.toInt z.2.2.2.2.2); omega)) (show aS 88 S = a8 from by first | (exact (xC_o (W := 88) hpre0).1.trans hpre3))
        · skip
          have g24 := i_nlt h12
          exact K _ hI (show xB S R from by first | (exact (xC_o (W := 75) hpre0).2)) (show aS 75 S = aCm ab y from by first | (have ty := xB_th (W := 75) hpre0 rg_c1; have e4 := congrArg Int32.toInt ty.2.2.2.2.2.1; refine hpre1.trans (aCm_n (fun z => ?_)).symm; rw [← hpre1] at z; have z4 : (mI S 75 5).toInt ≤ (mI S c1 4).toInt := (by rw [e4]; exact z.2.2.2.1); have z5 : (mI S 75 4).toInt < 512 := z.2.2.2.2.1; have z6 : (mI S 77 (mI S c1 0).toNatClampNeg).toInt = 0 := (by rw [ty.2.2.1]; exact congrArg Int32.toInt z.2.2.2.2.2); omega)) (show aS 88 S = a8 from by first | (exact (xC_o (W := 88) hpre0).1.trans hpre3))
theorem g_276_77_s_0 {X : Nat × (Nat → Int32)} {d w : Nat} {S : ma_S} {Q : Option ma_V ⊕ Nat → ma_S → Prop} (x : Int32) (hd : 0 ≤ d) (hw : 0 ≤ w) (hS : zT S) (h : ma_wp X d w 276 5 [(0, .inr (.inr (some 77))), (1, .inl x), (2, .inl (0 : Int32)), (3, .inl (512 : Int32))] [] S Q) : ma_wp X d w 276 0 [(0, .inr (.inr (some 77))), (1, .inl x)] [] S Q := by
  refine zw_push hm_276 dJ7_fill_53178_0 (v := .inl (0 : Int32)) rfl ?_
  refine zw_sto hm_276 dJ7_fill_53178_1 [(2, .inl (0 : Int32)), (0, .inr (.inr (some 77))), (1, .inl x)] rfl rfl rfl ?_
  refine zw_push hm_276 dJ7_fill_53178_2 (v := .inr (.inr (some 77))) rfl ?_
  refine zw_len hm_276 dJ7_fill_53178_3 (zT_is hS s_77) (zT_h hS s_77) rfl rfl ?_
  refine zw_sto hm_276 dJ7_fill_53178_4 [(3, .inl (512 : Int32)), (2, .inl (0 : Int32)), (0, .inr (.inr (some 77))), (1, .inl x)] rfl rfl rfl ?_
  exact zw_sub (ma_nd_of (ks := [0, 1, 2, 3]) rfl (by decide)) (ma_nd_of (ks := [3, 2, 0, 1]) rfl (by decide)) (ma_le_cons rfl (ma_le_cons rfl (ma_le_cons rfl (ma_le_cons rfl (ma_le_nil _))))) h
theorem g_276_77_s_5 {X : Nat × (Nat → Int32)} {d w : Nat} {S : ma_S} {Q : Option ma_V ⊕ Nat → ma_S → Prop} (l1 : Int32) (l2 : Int32) (l3 : Int32) (hd : 0 ≤ d) (hw : 0 ≤ w) (hS : zT S) (h : if l3 ≤ l2 then (Q (.inl none) S) else ((0 ≤ l2 ∧ l2.toNatClampNeg < 512) ∧ (ma_wp X d w 276 5 [(0, .inr (.inr (some 77))), (1, .inl l1), (2, .inl (l2 + (1 : Int32))), (3, .inl l3)] [] (ma_put S 77 l2.toNatClampNeg (.inl l1)) Q))) : ma_wp X d w 276 5 [(0, .inr (.inr (some 77))), (1, .inl l1), (2, .inl l2), (3, .inl l3)] [] S Q := by
  refine zw_push hm_276 dJ7_fill_53178_5 (v := .inl l2) rfl ?_
  refine zw_push hm_276 dJ7_fill_53178_6 (v := .inl l3) rfl ?_
  refine zw_if2 hm_276 dJ7_fill_53178_7 (t := 20) rfl zc2_ge ?_ ?_
  · intro hc
    rw [if_pos hc] at h
    exact zw_vret hm_276 dJ7_fill_53178_20 h
  · intro hc
    rw [if_neg hc] at h
    refine zw_push hm_276 dJ7_fill_53178_10 (v := .inr (.inr (some 77))) rfl ?_
    refine zw_push hm_276 dJ7_fill_53178_11 (v := .inl l2) rfl ?_
    refine zw_push hm_276 dJ7_fill_53178_12 (v := .inl l1) rfl ?_
    obtain ⟨hg, h⟩ := h
    refine zw_ias hm_276 dJ7_fill_53178_13 (zT_is hS s_77) (zT_h hS s_77) rfl hg ?_
    refine zw_sto hm_276 dJ7_fill_53178_14 [(2, .inl (l2 + (1 : Int32))), (0, .inr (.inr (some 77))), (1, .inl l1), (3, .inl l3)] rfl rfl rfl ?_
    refine zw_goto hm_276 dJ7_fill_53178_17 (t := 5) rfl ?_
    exact zw_sub (ma_nd_of (ks := [0, 1, 2, 3]) rfl (by decide)) (ma_nd_of (ks := [2, 0, 1, 3]) rfl (by decide)) (ma_le_cons rfl (ma_le_cons rfl (ma_le_cons rfl (ma_le_cons rfl (ma_le_nil _))))) h
theorem lp_276_77_s_5 {X : Nat × (Nat → Int32)} {d w : Nat} {f : Nat → Nat → Int32} {r : Nat → Nat → Option Nat} {C Z N : Nat} {Q : Option ma_V ⊕ Nat → ma_S → Prop} {ab : Nat→Nat→Int32} {R : zRT} {a8 : Nat→Nat→Int32} {x : Int32} (hd : 0 ≤ d) (hw : 0 ≤ w) (K : ∀ S₉, zI f r C Z N S₉ → (xB S₉ R) → (aS 75 S₉ = zFl ab 77 x 512) → (aS 88 S₉ = a8) → Q (.inl none) S₉) : ∀ (n : Nat) (S : ma_S) (l1 : Int32) (l2 : Int32) (l3 : Int32), (l3.toInt - l2.toInt).toNat = n → zI f r C Z N S → (0 ≤ l2.toInt) → (l3.toInt = 512) → (l2.toInt ≤ 512) → (xB S R) → (aS 75 S = zFl ab 77 l1 l2.toInt) → (l1 = x) → (aS 88 S = a8) → ma_wp X d w 276 5 [(0, .inr (.inr (some 77))), (1, .inl l1), (2, .inl l2), (3, .inl l3)] [] S Q := by
  intro n
  induction n using Nat.strongRecOn with
  | _ n IH =>
    intro S l1 l2 l3 hmu hI  hi0 hi1 hi2 hi3 hi4 hi5 hi6
    refine g_276_77_s_5 l1 l2 l3 (by omega) (by omega) (zG_T hI) ?_
    have b1 := i_bd l3
    have b2 := i_bd l2
    refine zd (fun h3 => ?_) (fun h3 => ?_)
    · skip
      have g4 := i_le h3
      exact K _ hI (show xB S R from by first | (exact (xC_o (W := 75) hi3).2)) (show aS 75 S = zFl ab 77 x 512 from by first | (rw [hi4, show l2.toInt = 512 from by omega, hi5])) (show aS 88 S = a8 from by first | (exact (xC_o (W := 88) hi3).1.trans hi6))
    · skip
      have g5 := i_nle h3
      refine ⟨i_ix (by omega) (by omega), ?_⟩
      have hI6 : zI f r C Z N (ma_put S 77 l2.toNatClampNeg (.inl l1)) := zG_fa hI rfl (by decide) (by decide) (by decide) trivial
      have b7 := i_bd l1
      first | have e8 : (l2 + (1 : Int32)).toInt = l2.toInt + (1) := i_addk rfl (by omega) (by omega) | have b9 := i_bd (l2 + (1 : Int32))
      exact IH _ (by omega) _ (l1) ((l2 + (1 : Int32))) (l3) rfl hI6 (by omega) (by omega) (by omega) (show xB (ma_put S 77 l2.toNatClampNeg (.inl l1)) R from by first | (exact (xC_p (c := 77) (k := l2.toNatClampNeg) (x := l1) (xC_o (W := 75) hi3) 77 xW75 rfl rfl).2)) (show aS 75 (ma_put S 77 l2.toNatClampNeg (.inl l1)) = zFl ab 77 (l1) ((l2 + (1 : Int32))).toInt from by first | (refine (xC_p (c := 77) (k := l2.toNatClampNeg) (x := l1) (xC_o (W := 75) hi3) 77 xW75 rfl rfl).1.trans ?_; skip; rw [hi4]; exact zFl_s (by omega) (by omega))) (show (l1) = x from by first | (exact rfl) | (exact hi5)) (show aS 88 (ma_put S 77 l2.toNatClampNeg (.inl l1)) = a8 from by first | (exact (xC_n (c := 77) (k := l2.toNatClampNeg) (x := l1) (xC_o (W := 88) hi3) ⟨by decide, Or.inr ⟨rfl, Or.inl (by decide)⟩⟩).1.trans hi6))
theorem sp_276_77_s {X : Nat × (Nat → Int32)} {d w : Nat} {f : Nat → Nat → Int32} {r : Nat → Nat → Option Nat} {C Z N : Nat} {Q : Option ma_V ⊕ Nat → ma_S → Prop} {ab : Nat→Nat→Int32} {R : zRT} {a8 : Nat→Nat→Int32} {S : ma_S} (x : Int32) (hd : 0 ≤ d) (hw : 0 ≤ w) (hI : zI f r C Z N S) (hpre0 : xB S R) (hpre1 : aS 75 S = ab) (hpre2 : aS 88 S = a8) (K : ∀ S₉, zI f r C Z N S₉ → (xB S₉ R) → (aS 75 S₉ = zFl ab 77 x 512) → (aS 88 S₉ = a8) → Q (.inl none) S₉) : ma_wp X d w 276 0 [(0, .inr (.inr (some 77))), (1, .inl x)] [] S Q := by
  refine g_276_77_s_0 x (by omega) (by omega) (zG_T hI) ?_
  have b1 := i_bd x
  have li2 : (0 : Int32).toInt = 0 := rfl
  have li3 : (512 : Int32).toInt = 512 := rfl
  exact lp_276_77_s_5 (by omega) (by omega) K _ _ (x) ((0 : Int32)) ((512 : Int32)) rfl hI (by omega) (by omega) (by omega) (show xB S R from by first | (exact (xC_o (W := 75) hpre0).2)) (show aS 75 S = zFl ab 77 (x) ((0 : Int32)).toInt from by first | (rw [hpre1]; exact zFl_0.symm)) (show (x) = x from by first | (exact rfl)) (show aS 88 S = a8 from by first | (exact (xC_o (W := 88) hpre0).1.trans hpre2))
theorem g_117_75_s_0 {X : Nat × (Nat → Int32)} {d w : Nat} {S : ma_S} {Q : Option ma_V ⊕ Nat → ma_S → Prop} (p : Int32) (hd : 1 ≤ d) (hw : 23 ≤ w) (hS : zT S) (h : ma_wp X (d - 1) (w - 23) 276 0 [(0, .inr (.inr (some 77))), (1, .inl (0 : Int32))] [] S (zv (fun S1 => zT S1 ∧ (Q (.inl none) (ma_put (ma_put (ma_put S1 75 3 (.inl (0 : Int32))) 75 4 (.inl (0 : Int32))) 75 5 (.inl p)))) (fun _ _ => False))) : ma_wp X d w 117 0 [(0, .inr (.inr (some 75))), (1, .inl p)] [] S Q := by
  refine zw_push hm_117 dX10_restart_0 (v := .inr (.inr (some 75))) rfl ?_
  refine zw_gf hm_117 dX10_restart_1 (v := .inr (.inr (some 77))) (zT_is hS s_75) (zT_t hS s_75) rfl f_10_15_10 (zT_f hS r_75_2) ?_
  refine zw_push hm_117 dX10_restart_4 (v := .inl (0 : Int32)) rfl ?_
  refine zw_cs hm_117 dX10_restart_5 pn_10_22 sl_10_22 hm_276 [.inl (0 : Int32), .inr (.inr (some 77))] [] rfl ⟨by omega, by omega⟩ rfl (zw_mono h (zv_go ?_ ?_))
  · intro S1 hv
    obtain ⟨hS1, h⟩ := hv
    refine zw_push hm_117 dX10_restart_8 (v := .inr (.inr (some 75))) rfl ?_
    refine zw_push hm_117 dX10_restart_9 (v := .inl (0 : Int32)) rfl ?_
    refine zw_pf hm_117 dX10_restart_10 (zT_is hS1 s_75) (zT_t hS1 s_75) p_10_28_10 zk_int ?_
    refine zw_push hm_117 dX10_restart_13 (v := .inr (.inr (some 75))) rfl ?_
    refine zw_push hm_117 dX10_restart_14 (v := .inl (0 : Int32)) rfl ?_
    refine zw_pf hm_117 dX10_restart_15 (zT_is (zT_pi hS1) s_75) (zT_t (zT_pi hS1) s_75) p_10_32_10 zk_int ?_
    refine zw_push hm_117 dX10_restart_18 (v := .inr (.inr (some 75))) rfl ?_
    refine zw_push hm_117 dX10_restart_19 (v := .inl p) rfl ?_
    refine zw_pf hm_117 dX10_restart_20 (zT_is (zT_pi (zT_pi hS1)) s_75) (zT_t (zT_pi (zT_pi hS1)) s_75) p_10_35_10 zk_int ?_
    exact zw_vret hm_117 dX10_restart_23 h
  · intro x S9 hx
    exact hx.elim
theorem sp_117_75_s {X : Nat × (Nat → Int32)} {d w : Nat} {f : Nat → Nat → Int32} {r : Nat → Nat → Option Nat} {C Z N : Nat} {Q : Option ma_V ⊕ Nat → ma_S → Prop} {ab : Nat→Nat→Int32} {R : zRT} {a8 : Nat→Nat→Int32} {S : ma_S} (p : Int32) (hd : 1 ≤ d) (hw : 23 ≤ w) (hI : zI f r C Z N S) (hpre0 : xB S R) (hpre1 : aS 75 S = ab) (hpre2 : aS 88 S = a8) (K : ∀ S₉, zI f r C Z N S₉ → (xB S₉ R) → (aS 75 S₉ = aWh ab p) → (aS 88 S₉ = a8) → Q (.inl none) S₉) : ma_wp X d w 117 0 [(0, .inr (.inr (some 75))), (1, .inl p)] [] S Q := by
  refine g_117_75_s_0 p (by omega) (by omega) (zG_T hI) ?_
  have li1 : (0 : Int32).toInt = 0 := rfl
  refine sp_276_77_s (ab := (aS 75 S)) (R := R) (a8 := a8) ((0 : Int32)) (by omega) (by omega) hI (show xB S R from by first | (exact (xC_o (W := 75) hpre0).2)) (show aS 75 S = (aS 75 S) from by first | (exact rfl)) (show aS 88 S = a8 from by first | (exact (xC_o (W := 88) hpre0).1.trans hpre2)) (fun S1 hI_S1 rp0_S1 rp1_S1 rp2_S1 => zv_n ⟨zG_T hI_S1, ?_⟩)
  have rp0_S1 : xB S1 R := rp0_S1
  have rp1_S1 : aS 75 S1 = zFl (aS 75 S) 77 (0 : Int32) 512 := rp1_S1
  have rp2_S1 : aS 88 S1 = a8 := rp2_S1
  have hI2 : zI f r C Z N (ma_put S1 75 3 (.inl (0 : Int32))) := zG_sp hI_S1 (0) (512) rfl (by decide) (by decide) (by decide) trivial (by omega) (by omega)
  have hI3 : zI f r C Z N (ma_put (ma_put S1 75 3 (.inl (0 : Int32))) 75 4 (.inl (0 : Int32))) := zG_sp hI2 (0) (512) rfl (by decide) (by decide) (by decide) trivial (by omega) (by omega)
  have hI4 : zI f r C Z N (ma_put (ma_put (ma_put S1 75 3 (.inl (0 : Int32))) 75 4 (.inl (0 : Int32))) 75 5 (.inl p)) := zG_fr hI3 rfl (by decide) (by decide) (by decide) trivial
  exact K _ hI4 (show xB (ma_put (ma_put (ma_put S1 75 3 (.inl (0 : Int32))) 75 4 (.inl (0 : Int32))) 75 5 (.inl p)) R from by first | (exact (xC_p (c := 75) (k := 5) (x := p) (xC_p (c := 75) (k := 4) (x := (0 : Int32)) (xC_p (c := 75) (k := 3) (x := (0 : Int32)) (xC_o (W := 75) rp0_S1) 75 xW75 rfl rfl) 75 xW75 rfl rfl) 75 xW75 rfl rfl).2)) (show aS 75 (ma_put (ma_put (ma_put S1 75 3 (.inl (0 : Int32))) 75 4 (.inl (0 : Int32))) 75 5 (.inl p)) = aWh ab p from by first | (refine (xC_p (c := 75) (k := 5) (x := p) (xC_p (c := 75) (k := 4) (x := (0 : Int32)) (xC_p (c := 75) (k := 3) (x := (0 : Int32)) (xC_o (W := 75) rp0_S1) 75 xW75 rfl rfl) 75 xW75 rfl rfl) 75 xW75 rfl rfl).1.trans ?_; skip; rw [rp1_S1, hpre1]; rfl)) (show aS 88 (ma_put (ma_put (ma_put S1 75 3 (.inl (0 : Int32))) 75 4 (.inl (0 : Int32))) 75 5 (.inl p)) = a8 from by first | (exact (xC_n (c := 75) (k := 5) (x := p) (xC_n (c := 75) (k := 4) (x := (0 : Int32)) (xC_n (c := 75) (k := 3) (x := (0 : Int32)) (xC_o (W := 88) rp0_S1) ⟨by decide, Or.inr ⟨rfl, Or.inl (by decide)⟩⟩) ⟨by decide, Or.inr ⟨rfl, Or.inl (by decide)⟩⟩) ⟨by decide, Or.inr ⟨rfl, Or.inl (by decide)⟩⟩).1.trans rp2_S1))

