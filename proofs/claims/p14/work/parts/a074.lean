/-! from 95.e01 -/
/-! the reference: texts (written by wip/tools/gen94n.py) -/
theorem sp_175n {X : Nat × (Nat → Int32)} {P : Option ma_V → (Nat → Nat → Int32) → Prop} {m : Nat → Nat → Int32} (xa : Int32) (xb : Int32) (xc : Int32) (xd : Int32) (xe : Int32) (xf : Int32) (xg : Int32) (hV : zV m) (hpre0 : (m 94 68).toInt + (m 94 69).toInt ≤ 100) (KZ : ∀ v m₉, zV (zov wr_175 m m₉) → (v = 0 ∨ v = 1) → (zZW v (zwd (m 96) (m 94 68) (m 94 69).toInt xa xb xc xd xe xf xg)) → P (some (.inl v)) (zov wr_175 m m₉)) : zm X 1 22 175 0 [(0, .inr (.inr (some 94))), (1, .inl xa), (2, .inl xb), (3, .inl xc), (4, .inl xd), (5, .inl xe), (6, .inl xf), (7, .inl xg)] m P := by
  have K : ∀ v m₉, zF wr_175 m m₉ → zV m₉ → (v = 0 ∨ v = 1) → (zZW v (zwd (m₉ 96) (m₉ 94 68) (m₉ 94 69).toInt xa xb xc xd xe xf xg)) → P (some (.inl v)) m₉ := by
    intro v m₉ hf z q0 q1
    have e := zov_eq hf
    rw [e] at z ⊢
    try rw [e] at q0
    try rw [e] at q1
    exact KZ v m₉ z q0 q1
  refine g_175_0 xa xb xc xd xe xf xg ?_
  have f1 : 0 ≤ (m 94 68).toInt ∧ (m 94 68).toInt ≤ 100 := rs_94_68 (m := m) hV
  have f2 : 0 ≤ (m 94 69).toInt ∧ (m 94 69).toInt ≤ 100 := rs_94_69 (m := m) hV
  have b3 := i_bd xe
  have li4 : (0 : Int32).toInt = 0 := rfl
  refine zd (fun (h5 : xe = (0 : Int32)) => ?_) (fun (h5 : ¬ xe = (0 : Int32)) => ?_)
  · skip
    have g6 := i_eq h5
    have li7 : (4 : Int32).toInt = 4 := rfl
    refine zd (fun (h8 : (m 94 69) = (4 : Int32)) => ?_) (fun (h8 : ¬ (m 94 69) = (4 : Int32)) => ?_)
    · skip
      have g9 := i_eq h8
      first | have e10 : ((m 94 68) + (0 : Int32)).toInt = (m 94 68).toInt + (0) := i_addk rfl (by omega) (by omega) | have b11 := i_bd ((m 94 68) + (0 : Int32))
      have hg12 : (0 ≤ ((m 94 68) + (0 : Int32)) ∧ ((m 94 68) + (0 : Int32)).toNatClampNeg < 100) := i_ix (by omega) (by omega)
      refine ⟨hg12, ?_⟩
      have b13 := i_bd (m 96 ((m 94 68) + (0 : Int32)).toNatClampNeg)
      refine zd (fun (h14 : (m 96 ((m 94 68) + (0 : Int32)).toNatClampNeg) = xa) => ?_) (fun (h14 : ¬ (m 96 ((m 94 68) + (0 : Int32)).toNatClampNeg) = xa) => ?_)
      · skip
        have g15 := i_eq h14
        first | have e16 : ((m 94 68) + (1 : Int32)).toInt = (m 94 68).toInt + (1) := i_addk rfl (by omega) (by omega) | have b17 := i_bd ((m 94 68) + (1 : Int32))
        have hg18 : (0 ≤ ((m 94 68) + (1 : Int32)) ∧ ((m 94 68) + (1 : Int32)).toNatClampNeg < 100) := i_ix (by omega) (by omega)
        refine ⟨hg18, ?_⟩
        have b19 := i_bd (m 96 ((m 94 68) + (1 : Int32)).toNatClampNeg)
        refine zd (fun (h20 : (m 96 ((m 94 68) + (1 : Int32)).toNatClampNeg) = xb) => ?_) (fun (h20 : ¬ (m 96 ((m 94 68) + (1 : Int32)).toNatClampNeg) = xb) => ?_)
        · skip
          have g21 := i_eq h20
          first | have e22 : ((m 94 68) + (2 : Int32)).toInt = (m 94 68).toInt + (2) := i_addk rfl (by omega) (by omega) | have b23 := i_bd ((m 94 68) + (2 : Int32))
          have hg24 : (0 ≤ ((m 94 68) + (2 : Int32)) ∧ ((m 94 68) + (2 : Int32)).toNatClampNeg < 100) := i_ix (by omega) (by omega)
          refine ⟨hg24, ?_⟩
          have b25 := i_bd (m 96 ((m 94 68) + (2 : Int32)).toNatClampNeg)
          refine zd (fun (h26 : (m 96 ((m 94 68) + (2 : Int32)).toNatClampNeg) = xc) => ?_) (fun (h26 : ¬ (m 96 ((m 94 68) + (2 : Int32)).toNatClampNeg) = xc) => ?_)
          · skip
            have g27 := i_eq h26
            first | have e28 : ((m 94 68) + (3 : Int32)).toInt = (m 94 68).toInt + (3) := i_addk rfl (by omega) (by omega) | have b29 := i_bd ((m 94 68) + (3 : Int32))
            have hg30 : (0 ≤ ((m 94 68) + (3 : Int32)) ∧ ((m 94 68) + (3 : Int32)).toNatClampNeg < 100) := i_ix (by omega) (by omega)
            refine ⟨hg30, ?_⟩
            have b31 := i_bd (m 96 ((m 94 68) + (3 : Int32)).toNatClampNeg)
            refine zd (fun (h32 : (m 96 ((m 94 68) + (3 : Int32)).toNatClampNeg) = xd) => ?_) (fun (h32 : ¬ (m 96 ((m 94 68) + (3 : Int32)).toNatClampNeg) = xd) => ?_)
            · skip
              have g33 := i_eq h32
              have li34 : (1 : Int32).toInt = 1 := rfl
              exact K ((1 : Int32)) _ zF_rfl hV (by decide) (show zZW (1 : Int32) (zwd (m 96) (m 94 68) (m 94 69).toInt xa xb xc xd xe xf xg) from by first | (exact Or.inl ⟨rfl, (by first | (rw [if_pos (by assumption)]; omega) | (rw [if_neg (by assumption), if_pos (by assumption)]; omega) | (rw [if_neg (by assumption), if_neg (by assumption), if_pos (by assumption)]; omega) | (rw [if_neg (by assumption), if_neg (by assumption), if_neg (by assumption)]; omega)), (by assumption), (by assumption), (by assumption), (by assumption), (by first | exact Or.inl (by assumption) | exact Or.inr ((by assumption))), (by first | exact Or.inl (by assumption) | exact Or.inr (Or.inl (by assumption)) | exact Or.inr (Or.inr ((by assumption)))), (by first | exact Or.inl (by assumption) | exact Or.inr (Or.inl (by assumption)) | exact Or.inr (Or.inr (Or.inl (by assumption))) | exact Or.inr (Or.inr (Or.inr ((by assumption)))))⟩) | (exfalso; omega; done) | (exfalso; contradiction; done))
            · skip
              have g35 := i_ne h32
              exact K ((0 : Int32)) _ zF_rfl hV (by decide) (show zZW (0 : Int32) (zwd (m 96) (m 94 68) (m 94 69).toInt xa xb xc xd xe xf xg) from by first | (exact Or.inr ⟨rfl, fun z => absurd z.2.1 (by assumption)⟩) | (exact Or.inr ⟨rfl, fun z => absurd z.2.2.1 (by assumption)⟩) | (exact Or.inr ⟨rfl, fun z => absurd z.2.2.2.1 (by assumption)⟩) | (exact Or.inr ⟨rfl, fun z => absurd z.2.2.2.2.1 (by assumption)⟩) | (exact Or.inr ⟨rfl, fun z => absurd (z.2.2.2.2.2.1.elim (fun y => absurd y (by assumption)) id) (by assumption)⟩) | (exact Or.inr ⟨rfl, fun z => absurd (z.2.2.2.2.2.2.1.elim (fun y => absurd y (by assumption)) (fun y => y.elim (fun y => absurd y (by assumption)) id)) (by assumption)⟩) | (exact Or.inr ⟨rfl, fun z => absurd (z.2.2.2.2.2.2.2.elim (fun y => absurd y (by assumption)) (fun y => y.elim (fun y => absurd y (by assumption)) (fun y => y.elim (fun y => absurd y (by assumption)) id))) (by assumption)⟩) | (exact Or.inr ⟨rfl, fun z => by have y := z.1; first | (rw [if_pos (by assumption)] at y; omega) | (rw [if_neg (by assumption), if_pos (by assumption)] at y; omega) | (rw [if_neg (by assumption), if_neg (by assumption), if_pos (by assumption)] at y; omega) | (rw [if_neg (by assumption), if_neg (by assumption), if_neg (by assumption)] at y; omega)⟩) | (exfalso; omega; done) | (exfalso; contradiction; done))
          · skip
            have g36 := i_ne h26
            exact K ((0 : Int32)) _ zF_rfl hV (by decide) (show zZW (0 : Int32) (zwd (m 96) (m 94 68) (m 94 69).toInt xa xb xc xd xe xf xg) from by first | (exact Or.inr ⟨rfl, fun z => absurd z.2.1 (by assumption)⟩) | (exact Or.inr ⟨rfl, fun z => absurd z.2.2.1 (by assumption)⟩) | (exact Or.inr ⟨rfl, fun z => absurd z.2.2.2.1 (by assumption)⟩) | (exact Or.inr ⟨rfl, fun z => absurd z.2.2.2.2.1 (by assumption)⟩) | (exact Or.inr ⟨rfl, fun z => absurd (z.2.2.2.2.2.1.elim (fun y => absurd y (by assumption)) id) (by assumption)⟩) | (exact Or.inr ⟨rfl, fun z => absurd (z.2.2.2.2.2.2.1.elim (fun y => absurd y (by assumption)) (fun y => y.elim (fun y => absurd y (by assumption)) id)) (by assumption)⟩) | (exact Or.inr ⟨rfl, fun z => absurd (z.2.2.2.2.2.2.2.elim (fun y => absurd y (by assumption)) (fun y => y.elim (fun y => absurd y (by assumption)) (fun y => y.elim (fun y => absurd y (by assumption)) id))) (by assumption)⟩) | (exact Or.inr ⟨rfl, fun z => by have y := z.1; first | (rw [if_pos (by assumption)] at y; omega) | (rw [if_neg (by assumption), if_pos (by assumption)] at y; omega) | (rw [if_neg (by assumption), if_neg (by assumption), if_pos (by assumption)] at y; omega) | (rw [if_neg (by assumption), if_neg (by assumption), if_neg (by assumption)] at y; omega)⟩) | (exfalso; omega; done) | (exfalso; contradiction; done))
        · skip
          have g37 := i_ne h20
          exact K ((0 : Int32)) _ zF_rfl hV (by decide) (show zZW (0 : Int32) (zwd (m 96) (m 94 68) (m 94 69).toInt xa xb xc xd xe xf xg) from by first | (exact Or.inr ⟨rfl, fun z => absurd z.2.1 (by assumption)⟩) | (exact Or.inr ⟨rfl, fun z => absurd z.2.2.1 (by assumption)⟩) | (exact Or.inr ⟨rfl, fun z => absurd z.2.2.2.1 (by assumption)⟩) | (exact Or.inr ⟨rfl, fun z => absurd z.2.2.2.2.1 (by assumption)⟩) | (exact Or.inr ⟨rfl, fun z => absurd (z.2.2.2.2.2.1.elim (fun y => absurd y (by assumption)) id) (by assumption)⟩) | (exact Or.inr ⟨rfl, fun z => absurd (z.2.2.2.2.2.2.1.elim (fun y => absurd y (by assumption)) (fun y => y.elim (fun y => absurd y (by assumption)) id)) (by assumption)⟩) | (exact Or.inr ⟨rfl, fun z => absurd (z.2.2.2.2.2.2.2.elim (fun y => absurd y (by assumption)) (fun y => y.elim (fun y => absurd y (by assumption)) (fun y => y.elim (fun y => absurd y (by assumption)) id))) (by assumption)⟩) | (exact Or.inr ⟨rfl, fun z => by have y := z.1; first | (rw [if_pos (by assumption)] at y; omega) | (rw [if_neg (by assumption), if_pos (by assumption)] at y; omega) | (rw [if_neg (by assumption), if_neg (by assumption), if_pos (by assumption)] at y; omega) | (rw [if_neg (by assumption), if_neg (by assumption), if_neg (by assumption)] at y; omega)⟩) | (exfalso; omega; done) | (exfalso; contradiction; done))
      · skip
        have g38 := i_ne h14
        exact K ((0 : Int32)) _ zF_rfl hV (by decide) (show zZW (0 : Int32) (zwd (m 96) (m 94 68) (m 94 69).toInt xa xb xc xd xe xf xg) from by first | (exact Or.inr ⟨rfl, fun z => absurd z.2.1 (by assumption)⟩) | (exact Or.inr ⟨rfl, fun z => absurd z.2.2.1 (by assumption)⟩) | (exact Or.inr ⟨rfl, fun z => absurd z.2.2.2.1 (by assumption)⟩) | (exact Or.inr ⟨rfl, fun z => absurd z.2.2.2.2.1 (by assumption)⟩) | (exact Or.inr ⟨rfl, fun z => absurd (z.2.2.2.2.2.1.elim (fun y => absurd y (by assumption)) id) (by assumption)⟩) | (exact Or.inr ⟨rfl, fun z => absurd (z.2.2.2.2.2.2.1.elim (fun y => absurd y (by assumption)) (fun y => y.elim (fun y => absurd y (by assumption)) id)) (by assumption)⟩) | (exact Or.inr ⟨rfl, fun z => absurd (z.2.2.2.2.2.2.2.elim (fun y => absurd y (by assumption)) (fun y => y.elim (fun y => absurd y (by assumption)) (fun y => y.elim (fun y => absurd y (by assumption)) id))) (by assumption)⟩) | (exact Or.inr ⟨rfl, fun z => by have y := z.1; first | (rw [if_pos (by assumption)] at y; omega) | (rw [if_neg (by assumption), if_pos (by assumption)] at y; omega) | (rw [if_neg (by assumption), if_neg (by assumption), if_pos (by assumption)] at y; omega) | (rw [if_neg (by assumption), if_neg (by assumption), if_neg (by assumption)] at y; omega)⟩) | (exfalso; omega; done) | (exfalso; contradiction; done))
    · skip
      have g39 := i_ne h8
      exact K ((0 : Int32)) _ zF_rfl hV (by decide) (show zZW (0 : Int32) (zwd (m 96) (m 94 68) (m 94 69).toInt xa xb xc xd xe xf xg) from by first | (exact Or.inr ⟨rfl, fun z => absurd z.2.1 (by assumption)⟩) | (exact Or.inr ⟨rfl, fun z => absurd z.2.2.1 (by assumption)⟩) | (exact Or.inr ⟨rfl, fun z => absurd z.2.2.2.1 (by assumption)⟩) | (exact Or.inr ⟨rfl, fun z => absurd z.2.2.2.2.1 (by assumption)⟩) | (exact Or.inr ⟨rfl, fun z => absurd (z.2.2.2.2.2.1.elim (fun y => absurd y (by assumption)) id) (by assumption)⟩) | (exact Or.inr ⟨rfl, fun z => absurd (z.2.2.2.2.2.2.1.elim (fun y => absurd y (by assumption)) (fun y => y.elim (fun y => absurd y (by assumption)) id)) (by assumption)⟩) | (exact Or.inr ⟨rfl, fun z => absurd (z.2.2.2.2.2.2.2.elim (fun y => absurd y (by assumption)) (fun y => y.elim (fun y => absurd y (by assumption)) (fun y => y.elim (fun y => absurd y (by assumption)) id))) (by assumption)⟩) | (exact Or.inr ⟨rfl, fun z => by have y := z.1; first | (rw [if_pos (by assumption)] at y; omega) | (rw [if_neg (by assumption), if_pos (by assumption)] at y; omega) | (rw [if_neg (by assumption), if_neg (by assumption), if_pos (by assumption)] at y; omega) | (rw [if_neg (by assumption), if_neg (by assumption), if_neg (by assumption)] at y; omega)⟩) | (exfalso; omega; done) | (exfalso; contradiction; done))
  · skip
    have g40 := i_ne h5
    have b41 := i_bd xf
    refine zd (fun (h42 : xf = (0 : Int32)) => ?_) (fun (h42 : ¬ xf = (0 : Int32)) => ?_)
    · skip
      have g43 := i_eq h42
      have li44 : (5 : Int32).toInt = 5 := rfl
      refine zd (fun (h45 : (m 94 69) = (5 : Int32)) => ?_) (fun (h45 : ¬ (m 94 69) = (5 : Int32)) => ?_)
      · skip
        have g46 := i_eq h45
        first | have e47 : ((m 94 68) + (0 : Int32)).toInt = (m 94 68).toInt + (0) := i_addk rfl (by omega) (by omega) | have b48 := i_bd ((m 94 68) + (0 : Int32))
        have hg49 : (0 ≤ ((m 94 68) + (0 : Int32)) ∧ ((m 94 68) + (0 : Int32)).toNatClampNeg < 100) := i_ix (by omega) (by omega)
        refine ⟨hg49, ?_⟩
        have b50 := i_bd (m 96 ((m 94 68) + (0 : Int32)).toNatClampNeg)
        refine zd (fun (h51 : (m 96 ((m 94 68) + (0 : Int32)).toNatClampNeg) = xa) => ?_) (fun (h51 : ¬ (m 96 ((m 94 68) + (0 : Int32)).toNatClampNeg) = xa) => ?_)
        · skip
          have g52 := i_eq h51
          first | have e53 : ((m 94 68) + (1 : Int32)).toInt = (m 94 68).toInt + (1) := i_addk rfl (by omega) (by omega) | have b54 := i_bd ((m 94 68) + (1 : Int32))
          have hg55 : (0 ≤ ((m 94 68) + (1 : Int32)) ∧ ((m 94 68) + (1 : Int32)).toNatClampNeg < 100) := i_ix (by omega) (by omega)
          refine ⟨hg55, ?_⟩
          have b56 := i_bd (m 96 ((m 94 68) + (1 : Int32)).toNatClampNeg)
          refine zd (fun (h57 : (m 96 ((m 94 68) + (1 : Int32)).toNatClampNeg) = xb) => ?_) (fun (h57 : ¬ (m 96 ((m 94 68) + (1 : Int32)).toNatClampNeg) = xb) => ?_)
          · skip
            have g58 := i_eq h57
            first | have e59 : ((m 94 68) + (2 : Int32)).toInt = (m 94 68).toInt + (2) := i_addk rfl (by omega) (by omega) | have b60 := i_bd ((m 94 68) + (2 : Int32))
            have hg61 : (0 ≤ ((m 94 68) + (2 : Int32)) ∧ ((m 94 68) + (2 : Int32)).toNatClampNeg < 100) := i_ix (by omega) (by omega)
            refine ⟨hg61, ?_⟩
            have b62 := i_bd (m 96 ((m 94 68) + (2 : Int32)).toNatClampNeg)
            refine zd (fun (h63 : (m 96 ((m 94 68) + (2 : Int32)).toNatClampNeg) = xc) => ?_) (fun (h63 : ¬ (m 96 ((m 94 68) + (2 : Int32)).toNatClampNeg) = xc) => ?_)
            · skip
              have g64 := i_eq h63
              first | have e65 : ((m 94 68) + (3 : Int32)).toInt = (m 94 68).toInt + (3) := i_addk rfl (by omega) (by omega) | have b66 := i_bd ((m 94 68) + (3 : Int32))
              have hg67 : (0 ≤ ((m 94 68) + (3 : Int32)) ∧ ((m 94 68) + (3 : Int32)).toNatClampNeg < 100) := i_ix (by omega) (by omega)
              refine ⟨hg67, ?_⟩
              have b68 := i_bd (m 96 ((m 94 68) + (3 : Int32)).toNatClampNeg)
              refine zd (fun (h69 : (m 96 ((m 94 68) + (3 : Int32)).toNatClampNeg) = xd) => ?_) (fun (h69 : ¬ (m 96 ((m 94 68) + (3 : Int32)).toNatClampNeg) = xd) => ?_)
              · skip
                have g70 := i_eq h69
                first | have e71 : ((m 94 68) + (4 : Int32)).toInt = (m 94 68).toInt + (4) := i_addk rfl (by omega) (by omega) | have b72 := i_bd ((m 94 68) + (4 : Int32))
                have hg73 : (0 ≤ ((m 94 68) + (4 : Int32)) ∧ ((m 94 68) + (4 : Int32)).toNatClampNeg < 100) := i_ix (by omega) (by omega)
                refine ⟨hg73, ?_⟩
                have b74 := i_bd (m 96 ((m 94 68) + (4 : Int32)).toNatClampNeg)
                refine zd (fun (h75 : (m 96 ((m 94 68) + (4 : Int32)).toNatClampNeg) = xe) => ?_) (fun (h75 : ¬ (m 96 ((m 94 68) + (4 : Int32)).toNatClampNeg) = xe) => ?_)
                · skip
                  have g76 := i_eq h75
                  have li77 : (1 : Int32).toInt = 1 := rfl
                  exact K ((1 : Int32)) _ zF_rfl hV (by decide) (show zZW (1 : Int32) (zwd (m 96) (m 94 68) (m 94 69).toInt xa xb xc xd xe xf xg) from by first | (exact Or.inl ⟨rfl, (by first | (rw [if_pos (by assumption)]; omega) | (rw [if_neg (by assumption), if_pos (by assumption)]; omega) | (rw [if_neg (by assumption), if_neg (by assumption), if_pos (by assumption)]; omega) | (rw [if_neg (by assumption), if_neg (by assumption), if_neg (by assumption)]; omega)), (by assumption), (by assumption), (by assumption), (by assumption), (by first | exact Or.inl (by assumption) | exact Or.inr ((by assumption))), (by first | exact Or.inl (by assumption) | exact Or.inr (Or.inl (by assumption)) | exact Or.inr (Or.inr ((by assumption)))), (by first | exact Or.inl (by assumption) | exact Or.inr (Or.inl (by assumption)) | exact Or.inr (Or.inr (Or.inl (by assumption))) | exact Or.inr (Or.inr (Or.inr ((by assumption)))))⟩) | (exfalso; omega; done) | (exfalso; contradiction; done))
                · skip
                  have g78 := i_ne h75
                  exact K ((0 : Int32)) _ zF_rfl hV (by decide) (show zZW (0 : Int32) (zwd (m 96) (m 94 68) (m 94 69).toInt xa xb xc xd xe xf xg) from by first | (exact Or.inr ⟨rfl, fun z => absurd z.2.1 (by assumption)⟩) | (exact Or.inr ⟨rfl, fun z => absurd z.2.2.1 (by assumption)⟩) | (exact Or.inr ⟨rfl, fun z => absurd z.2.2.2.1 (by assumption)⟩) | (exact Or.inr ⟨rfl, fun z => absurd z.2.2.2.2.1 (by assumption)⟩) | (exact Or.inr ⟨rfl, fun z => absurd (z.2.2.2.2.2.1.elim (fun y => absurd y (by assumption)) id) (by assumption)⟩) | (exact Or.inr ⟨rfl, fun z => absurd (z.2.2.2.2.2.2.1.elim (fun y => absurd y (by assumption)) (fun y => y.elim (fun y => absurd y (by assumption)) id)) (by assumption)⟩) | (exact Or.inr ⟨rfl, fun z => absurd (z.2.2.2.2.2.2.2.elim (fun y => absurd y (by assumption)) (fun y => y.elim (fun y => absurd y (by assumption)) (fun y => y.elim (fun y => absurd y (by assumption)) id))) (by assumption)⟩) | (exact Or.inr ⟨rfl, fun z => by have y := z.1; first | (rw [if_pos (by assumption)] at y; omega) | (rw [if_neg (by assumption), if_pos (by assumption)] at y; omega) | (rw [if_neg (by assumption), if_neg (by assumption), if_pos (by assumption)] at y; omega) | (rw [if_neg (by assumption), if_neg (by assumption), if_neg (by assumption)] at y; omega)⟩) | (exfalso; omega; done) | (exfalso; contradiction; done))
              · skip
                have g79 := i_ne h69
                exact K ((0 : Int32)) _ zF_rfl hV (by decide) (show zZW (0 : Int32) (zwd (m 96) (m 94 68) (m 94 69).toInt xa xb xc xd xe xf xg) from by first | (exact Or.inr ⟨rfl, fun z => absurd z.2.1 (by assumption)⟩) | (exact Or.inr ⟨rfl, fun z => absurd z.2.2.1 (by assumption)⟩) | (exact Or.inr ⟨rfl, fun z => absurd z.2.2.2.1 (by assumption)⟩) | (exact Or.inr ⟨rfl, fun z => absurd z.2.2.2.2.1 (by assumption)⟩) | (exact Or.inr ⟨rfl, fun z => absurd (z.2.2.2.2.2.1.elim (fun y => absurd y (by assumption)) id) (by assumption)⟩) | (exact Or.inr ⟨rfl, fun z => absurd (z.2.2.2.2.2.2.1.elim (fun y => absurd y (by assumption)) (fun y => y.elim (fun y => absurd y (by assumption)) id)) (by assumption)⟩) | (exact Or.inr ⟨rfl, fun z => absurd (z.2.2.2.2.2.2.2.elim (fun y => absurd y (by assumption)) (fun y => y.elim (fun y => absurd y (by assumption)) (fun y => y.elim (fun y => absurd y (by assumption)) id))) (by assumption)⟩) | (exact Or.inr ⟨rfl, fun z => by have y := z.1; first | (rw [if_pos (by assumption)] at y; omega) | (rw [if_neg (by assumption), if_pos (by assumption)] at y; omega) | (rw [if_neg (by assumption), if_neg (by assumption), if_pos (by assumption)] at y; omega) | (rw [if_neg (by assumption), if_neg (by assumption), if_neg (by assumption)] at y; omega)⟩) | (exfalso; omega; done) | (exfalso; contradiction; done))
            · skip
              have g80 := i_ne h63
              exact K ((0 : Int32)) _ zF_rfl hV (by decide) (show zZW (0 : Int32) (zwd (m 96) (m 94 68) (m 94 69).toInt xa xb xc xd xe xf xg) from by first | (exact Or.inr ⟨rfl, fun z => absurd z.2.1 (by assumption)⟩) | (exact Or.inr ⟨rfl, fun z => absurd z.2.2.1 (by assumption)⟩) | (exact Or.inr ⟨rfl, fun z => absurd z.2.2.2.1 (by assumption)⟩) | (exact Or.inr ⟨rfl, fun z => absurd z.2.2.2.2.1 (by assumption)⟩) | (exact Or.inr ⟨rfl, fun z => absurd (z.2.2.2.2.2.1.elim (fun y => absurd y (by assumption)) id) (by assumption)⟩) | (exact Or.inr ⟨rfl, fun z => absurd (z.2.2.2.2.2.2.1.elim (fun y => absurd y (by assumption)) (fun y => y.elim (fun y => absurd y (by assumption)) id)) (by assumption)⟩) | (exact Or.inr ⟨rfl, fun z => absurd (z.2.2.2.2.2.2.2.elim (fun y => absurd y (by assumption)) (fun y => y.elim (fun y => absurd y (by assumption)) (fun y => y.elim (fun y => absurd y (by assumption)) id))) (by assumption)⟩) | (exact Or.inr ⟨rfl, fun z => by have y := z.1; first | (rw [if_pos (by assumption)] at y; omega) | (rw [if_neg (by assumption), if_pos (by assumption)] at y; omega) | (rw [if_neg (by assumption), if_neg (by assumption), if_pos (by assumption)] at y; omega) | (rw [if_neg (by assumption), if_neg (by assumption), if_neg (by assumption)] at y; omega)⟩) | (exfalso; omega; done) | (exfalso; contradiction; done))
          · skip
            have g81 := i_ne h57
            exact K ((0 : Int32)) _ zF_rfl hV (by decide) (show zZW (0 : Int32) (zwd (m 96) (m 94 68) (m 94 69).toInt xa xb xc xd xe xf xg) from by first | (exact Or.inr ⟨rfl, fun z => absurd z.2.1 (by assumption)⟩) | (exact Or.inr ⟨rfl, fun z => absurd z.2.2.1 (by assumption)⟩) | (exact Or.inr ⟨rfl, fun z => absurd z.2.2.2.1 (by assumption)⟩) | (exact Or.inr ⟨rfl, fun z => absurd z.2.2.2.2.1 (by assumption)⟩) | (exact Or.inr ⟨rfl, fun z => absurd (z.2.2.2.2.2.1.elim (fun y => absurd y (by assumption)) id) (by assumption)⟩) | (exact Or.inr ⟨rfl, fun z => absurd (z.2.2.2.2.2.2.1.elim (fun y => absurd y (by assumption)) (fun y => y.elim (fun y => absurd y (by assumption)) id)) (by assumption)⟩) | (exact Or.inr ⟨rfl, fun z => absurd (z.2.2.2.2.2.2.2.elim (fun y => absurd y (by assumption)) (fun y => y.elim (fun y => absurd y (by assumption)) (fun y => y.elim (fun y => absurd y (by assumption)) id))) (by assumption)⟩) | (exact Or.inr ⟨rfl, fun z => by have y := z.1; first | (rw [if_pos (by assumption)] at y; omega) | (rw [if_neg (by assumption), if_pos (by assumption)] at y; omega) | (rw [if_neg (by assumption), if_neg (by assumption), if_pos (by assumption)] at y; omega) | (rw [if_neg (by assumption), if_neg (by assumption), if_neg (by assumption)] at y; omega)⟩) | (exfalso; omega; done) | (exfalso; contradiction; done))
        · skip
          have g82 := i_ne h51
          exact K ((0 : Int32)) _ zF_rfl hV (by decide) (show zZW (0 : Int32) (zwd (m 96) (m 94 68) (m 94 69).toInt xa xb xc xd xe xf xg) from by first | (exact Or.inr ⟨rfl, fun z => absurd z.2.1 (by assumption)⟩) | (exact Or.inr ⟨rfl, fun z => absurd z.2.2.1 (by assumption)⟩) | (exact Or.inr ⟨rfl, fun z => absurd z.2.2.2.1 (by assumption)⟩) | (exact Or.inr ⟨rfl, fun z => absurd z.2.2.2.2.1 (by assumption)⟩) | (exact Or.inr ⟨rfl, fun z => absurd (z.2.2.2.2.2.1.elim (fun y => absurd y (by assumption)) id) (by assumption)⟩) | (exact Or.inr ⟨rfl, fun z => absurd (z.2.2.2.2.2.2.1.elim (fun y => absurd y (by assumption)) (fun y => y.elim (fun y => absurd y (by assumption)) id)) (by assumption)⟩) | (exact Or.inr ⟨rfl, fun z => absurd (z.2.2.2.2.2.2.2.elim (fun y => absurd y (by assumption)) (fun y => y.elim (fun y => absurd y (by assumption)) (fun y => y.elim (fun y => absurd y (by assumption)) id))) (by assumption)⟩) | (exact Or.inr ⟨rfl, fun z => by have y := z.1; first | (rw [if_pos (by assumption)] at y; omega) | (rw [if_neg (by assumption), if_pos (by assumption)] at y; omega) | (rw [if_neg (by assumption), if_neg (by assumption), if_pos (by assumption)] at y; omega) | (rw [if_neg (by assumption), if_neg (by assumption), if_neg (by assumption)] at y; omega)⟩) | (exfalso; omega; done) | (exfalso; contradiction; done))
      · skip
        have g83 := i_ne h45
        exact K ((0 : Int32)) _ zF_rfl hV (by decide) (show zZW (0 : Int32) (zwd (m 96) (m 94 68) (m 94 69).toInt xa xb xc xd xe xf xg) from by first | (exact Or.inr ⟨rfl, fun z => absurd z.2.1 (by assumption)⟩) | (exact Or.inr ⟨rfl, fun z => absurd z.2.2.1 (by assumption)⟩) | (exact Or.inr ⟨rfl, fun z => absurd z.2.2.2.1 (by assumption)⟩) | (exact Or.inr ⟨rfl, fun z => absurd z.2.2.2.2.1 (by assumption)⟩) | (exact Or.inr ⟨rfl, fun z => absurd (z.2.2.2.2.2.1.elim (fun y => absurd y (by assumption)) id) (by assumption)⟩) | (exact Or.inr ⟨rfl, fun z => absurd (z.2.2.2.2.2.2.1.elim (fun y => absurd y (by assumption)) (fun y => y.elim (fun y => absurd y (by assumption)) id)) (by assumption)⟩) | (exact Or.inr ⟨rfl, fun z => absurd (z.2.2.2.2.2.2.2.elim (fun y => absurd y (by assumption)) (fun y => y.elim (fun y => absurd y (by assumption)) (fun y => y.elim (fun y => absurd y (by assumption)) id))) (by assumption)⟩) | (exact Or.inr ⟨rfl, fun z => by have y := z.1; first | (rw [if_pos (by assumption)] at y; omega) | (rw [if_neg (by assumption), if_pos (by assumption)] at y; omega) | (rw [if_neg (by assumption), if_neg (by assumption), if_pos (by assumption)] at y; omega) | (rw [if_neg (by assumption), if_neg (by assumption), if_neg (by assumption)] at y; omega)⟩) | (exfalso; omega; done) | (exfalso; contradiction; done))
    · skip
      have g84 := i_ne h42
      have b85 := i_bd xg
      refine zd (fun (h86 : xg = (0 : Int32)) => ?_) (fun (h86 : ¬ xg = (0 : Int32)) => ?_)
      · skip
        have g87 := i_eq h86
        have li88 : (6 : Int32).toInt = 6 := rfl
        refine zd (fun (h89 : (m 94 69) = (6 : Int32)) => ?_) (fun (h89 : ¬ (m 94 69) = (6 : Int32)) => ?_)
        · skip
          have g90 := i_eq h89
          first | have e91 : ((m 94 68) + (0 : Int32)).toInt = (m 94 68).toInt + (0) := i_addk rfl (by omega) (by omega) | have b92 := i_bd ((m 94 68) + (0 : Int32))
          have hg93 : (0 ≤ ((m 94 68) + (0 : Int32)) ∧ ((m 94 68) + (0 : Int32)).toNatClampNeg < 100) := i_ix (by omega) (by omega)
          refine ⟨hg93, ?_⟩
          have b94 := i_bd (m 96 ((m 94 68) + (0 : Int32)).toNatClampNeg)
          refine zd (fun (h95 : (m 96 ((m 94 68) + (0 : Int32)).toNatClampNeg) = xa) => ?_) (fun (h95 : ¬ (m 96 ((m 94 68) + (0 : Int32)).toNatClampNeg) = xa) => ?_)
          · skip
            have g96 := i_eq h95
            first | have e97 : ((m 94 68) + (1 : Int32)).toInt = (m 94 68).toInt + (1) := i_addk rfl (by omega) (by omega) | have b98 := i_bd ((m 94 68) + (1 : Int32))
            have hg99 : (0 ≤ ((m 94 68) + (1 : Int32)) ∧ ((m 94 68) + (1 : Int32)).toNatClampNeg < 100) := i_ix (by omega) (by omega)
            refine ⟨hg99, ?_⟩
            have b100 := i_bd (m 96 ((m 94 68) + (1 : Int32)).toNatClampNeg)
            refine zd (fun (h101 : (m 96 ((m 94 68) + (1 : Int32)).toNatClampNeg) = xb) => ?_) (fun (h101 : ¬ (m 96 ((m 94 68) + (1 : Int32)).toNatClampNeg) = xb) => ?_)
            · skip
              have g102 := i_eq h101
              first | have e103 : ((m 94 68) + (2 : Int32)).toInt = (m 94 68).toInt + (2) := i_addk rfl (by omega) (by omega) | have b104 := i_bd ((m 94 68) + (2 : Int32))
              have hg105 : (0 ≤ ((m 94 68) + (2 : Int32)) ∧ ((m 94 68) + (2 : Int32)).toNatClampNeg < 100) := i_ix (by omega) (by omega)
              refine ⟨hg105, ?_⟩
              have b106 := i_bd (m 96 ((m 94 68) + (2 : Int32)).toNatClampNeg)
              refine zd (fun (h107 : (m 96 ((m 94 68) + (2 : Int32)).toNatClampNeg) = xc) => ?_) (fun (h107 : ¬ (m 96 ((m 94 68) + (2 : Int32)).toNatClampNeg) = xc) => ?_)
              · skip
                have g108 := i_eq h107
                first | have e109 : ((m 94 68) + (3 : Int32)).toInt = (m 94 68).toInt + (3) := i_addk rfl (by omega) (by omega) | have b110 := i_bd ((m 94 68) + (3 : Int32))
                have hg111 : (0 ≤ ((m 94 68) + (3 : Int32)) ∧ ((m 94 68) + (3 : Int32)).toNatClampNeg < 100) := i_ix (by omega) (by omega)
                refine ⟨hg111, ?_⟩
                have b112 := i_bd (m 96 ((m 94 68) + (3 : Int32)).toNatClampNeg)
                refine zd (fun (h113 : (m 96 ((m 94 68) + (3 : Int32)).toNatClampNeg) = xd) => ?_) (fun (h113 : ¬ (m 96 ((m 94 68) + (3 : Int32)).toNatClampNeg) = xd) => ?_)
                · skip
                  have g114 := i_eq h113
                  first | have e115 : ((m 94 68) + (4 : Int32)).toInt = (m 94 68).toInt + (4) := i_addk rfl (by omega) (by omega) | have b116 := i_bd ((m 94 68) + (4 : Int32))
                  have hg117 : (0 ≤ ((m 94 68) + (4 : Int32)) ∧ ((m 94 68) + (4 : Int32)).toNatClampNeg < 100) := i_ix (by omega) (by omega)
                  refine ⟨hg117, ?_⟩
                  have b118 := i_bd (m 96 ((m 94 68) + (4 : Int32)).toNatClampNeg)
                  refine zd (fun (h119 : (m 96 ((m 94 68) + (4 : Int32)).toNatClampNeg) = xe) => ?_) (fun (h119 : ¬ (m 96 ((m 94 68) + (4 : Int32)).toNatClampNeg) = xe) => ?_)
                  · skip
                    have g120 := i_eq h119
                    first | have e121 : ((m 94 68) + (5 : Int32)).toInt = (m 94 68).toInt + (5) := i_addk rfl (by omega) (by omega) | have b122 := i_bd ((m 94 68) + (5 : Int32))
                    have hg123 : (0 ≤ ((m 94 68) + (5 : Int32)) ∧ ((m 94 68) + (5 : Int32)).toNatClampNeg < 100) := i_ix (by omega) (by omega)
                    refine ⟨hg123, ?_⟩
                    have b124 := i_bd (m 96 ((m 94 68) + (5 : Int32)).toNatClampNeg)
                    refine zd (fun (h125 : (m 96 ((m 94 68) + (5 : Int32)).toNatClampNeg) = xf) => ?_) (fun (h125 : ¬ (m 96 ((m 94 68) + (5 : Int32)).toNatClampNeg) = xf) => ?_)
                    · skip
                      have g126 := i_eq h125
                      have li127 : (1 : Int32).toInt = 1 := rfl
                      exact K ((1 : Int32)) _ zF_rfl hV (by decide) (show zZW (1 : Int32) (zwd (m 96) (m 94 68) (m 94 69).toInt xa xb xc xd xe xf xg) from by first | (exact Or.inl ⟨rfl, (by first | (rw [if_pos (by assumption)]; omega) | (rw [if_neg (by assumption), if_pos (by assumption)]; omega) | (rw [if_neg (by assumption), if_neg (by assumption), if_pos (by assumption)]; omega) | (rw [if_neg (by assumption), if_neg (by assumption), if_neg (by assumption)]; omega)), (by assumption), (by assumption), (by assumption), (by assumption), (by first | exact Or.inl (by assumption) | exact Or.inr ((by assumption))), (by first | exact Or.inl (by assumption) | exact Or.inr (Or.inl (by assumption)) | exact Or.inr (Or.inr ((by assumption)))), (by first | exact Or.inl (by assumption) | exact Or.inr (Or.inl (by assumption)) | exact Or.inr (Or.inr (Or.inl (by assumption))) | exact Or.inr (Or.inr (Or.inr ((by assumption)))))⟩) | (exfalso; omega; done) | (exfalso; contradiction; done))
                    · skip
                      have g128 := i_ne h125
                      exact K ((0 : Int32)) _ zF_rfl hV (by decide) (show zZW (0 : Int32) (zwd (m 96) (m 94 68) (m 94 69).toInt xa xb xc xd xe xf xg) from by first | (exact Or.inr ⟨rfl, fun z => absurd z.2.1 (by assumption)⟩) | (exact Or.inr ⟨rfl, fun z => absurd z.2.2.1 (by assumption)⟩) | (exact Or.inr ⟨rfl, fun z => absurd z.2.2.2.1 (by assumption)⟩) | (exact Or.inr ⟨rfl, fun z => absurd z.2.2.2.2.1 (by assumption)⟩) | (exact Or.inr ⟨rfl, fun z => absurd (z.2.2.2.2.2.1.elim (fun y => absurd y (by assumption)) id) (by assumption)⟩) | (exact Or.inr ⟨rfl, fun z => absurd (z.2.2.2.2.2.2.1.elim (fun y => absurd y (by assumption)) (fun y => y.elim (fun y => absurd y (by assumption)) id)) (by assumption)⟩) | (exact Or.inr ⟨rfl, fun z => absurd (z.2.2.2.2.2.2.2.elim (fun y => absurd y (by assumption)) (fun y => y.elim (fun y => absurd y (by assumption)) (fun y => y.elim (fun y => absurd y (by assumption)) id))) (by assumption)⟩) | (exact Or.inr ⟨rfl, fun z => by have y := z.1; first | (rw [if_pos (by assumption)] at y; omega) | (rw [if_neg (by assumption), if_pos (by assumption)] at y; omega) | (rw [if_neg (by assumption), if_neg (by assumption), if_pos (by assumption)] at y; omega) | (rw [if_neg (by assumption), if_neg (by assumption), if_neg (by assumption)] at y; omega)⟩) | (exfalso; omega; done) | (exfalso; contradiction; done))
                  · skip
                    have g129 := i_ne h119
                    exact K ((0 : Int32)) _ zF_rfl hV (by decide) (show zZW (0 : Int32) (zwd (m 96) (m 94 68) (m 94 69).toInt xa xb xc xd xe xf xg) from by first | (exact Or.inr ⟨rfl, fun z => absurd z.2.1 (by assumption)⟩) | (exact Or.inr ⟨rfl, fun z => absurd z.2.2.1 (by assumption)⟩) | (exact Or.inr ⟨rfl, fun z => absurd z.2.2.2.1 (by assumption)⟩) | (exact Or.inr ⟨rfl, fun z => absurd z.2.2.2.2.1 (by assumption)⟩) | (exact Or.inr ⟨rfl, fun z => absurd (z.2.2.2.2.2.1.elim (fun y => absurd y (by assumption)) id) (by assumption)⟩) | (exact Or.inr ⟨rfl, fun z => absurd (z.2.2.2.2.2.2.1.elim (fun y => absurd y (by assumption)) (fun y => y.elim (fun y => absurd y (by assumption)) id)) (by assumption)⟩) | (exact Or.inr ⟨rfl, fun z => absurd (z.2.2.2.2.2.2.2.elim (fun y => absurd y (by assumption)) (fun y => y.elim (fun y => absurd y (by assumption)) (fun y => y.elim (fun y => absurd y (by assumption)) id))) (by assumption)⟩) | (exact Or.inr ⟨rfl, fun z => by have y := z.1; first | (rw [if_pos (by assumption)] at y; omega) | (rw [if_neg (by assumption), if_pos (by assumption)] at y; omega) | (rw [if_neg (by assumption), if_neg (by assumption), if_pos (by assumption)] at y; omega) | (rw [if_neg (by assumption), if_neg (by assumption), if_neg (by assumption)] at y; omega)⟩) | (exfalso; omega; done) | (exfalso; contradiction; done))
                · skip
                  have g130 := i_ne h113
                  exact K ((0 : Int32)) _ zF_rfl hV (by decide) (show zZW (0 : Int32) (zwd (m 96) (m 94 68) (m 94 69).toInt xa xb xc xd xe xf xg) from by first | (exact Or.inr ⟨rfl, fun z => absurd z.2.1 (by assumption)⟩) | (exact Or.inr ⟨rfl, fun z => absurd z.2.2.1 (by assumption)⟩) | (exact Or.inr ⟨rfl, fun z => absurd z.2.2.2.1 (by assumption)⟩) | (exact Or.inr ⟨rfl, fun z => absurd z.2.2.2.2.1 (by assumption)⟩) | (exact Or.inr ⟨rfl, fun z => absurd (z.2.2.2.2.2.1.elim (fun y => absurd y (by assumption)) id) (by assumption)⟩) | (exact Or.inr ⟨rfl, fun z => absurd (z.2.2.2.2.2.2.1.elim (fun y => absurd y (by assumption)) (fun y => y.elim (fun y => absurd y (by assumption)) id)) (by assumption)⟩) | (exact Or.inr ⟨rfl, fun z => absurd (z.2.2.2.2.2.2.2.elim (fun y => absurd y (by assumption)) (fun y => y.elim (fun y => absurd y (by assumption)) (fun y => y.elim (fun y => absurd y (by assumption)) id))) (by assumption)⟩) | (exact Or.inr ⟨rfl, fun z => by have y := z.1; first | (rw [if_pos (by assumption)] at y; omega) | (rw [if_neg (by assumption), if_pos (by assumption)] at y; omega) | (rw [if_neg (by assumption), if_neg (by assumption), if_pos (by assumption)] at y; omega) | (rw [if_neg (by assumption), if_neg (by assumption), if_neg (by assumption)] at y; omega)⟩) | (exfalso; omega; done) | (exfalso; contradiction; done))
              · skip
                have g131 := i_ne h107
                exact K ((0 : Int32)) _ zF_rfl hV (by decide) (show zZW (0 : Int32) (zwd (m 96) (m 94 68) (m 94 69).toInt xa xb xc xd xe xf xg) from by first | (exact Or.inr ⟨rfl, fun z => absurd z.2.1 (by assumption)⟩) | (exact Or.inr ⟨rfl, fun z => absurd z.2.2.1 (by assumption)⟩) | (exact Or.inr ⟨rfl, fun z => absurd z.2.2.2.1 (by assumption)⟩) | (exact Or.inr ⟨rfl, fun z => absurd z.2.2.2.2.1 (by assumption)⟩) | (exact Or.inr ⟨rfl, fun z => absurd (z.2.2.2.2.2.1.elim (fun y => absurd y (by assumption)) id) (by assumption)⟩) | (exact Or.inr ⟨rfl, fun z => absurd (z.2.2.2.2.2.2.1.elim (fun y => absurd y (by assumption)) (fun y => y.elim (fun y => absurd y (by assumption)) id)) (by assumption)⟩) | (exact Or.inr ⟨rfl, fun z => absurd (z.2.2.2.2.2.2.2.elim (fun y => absurd y (by assumption)) (fun y => y.elim (fun y => absurd y (by assumption)) (fun y => y.elim (fun y => absurd y (by assumption)) id))) (by assumption)⟩) | (exact Or.inr ⟨rfl, fun z => by have y := z.1; first | (rw [if_pos (by assumption)] at y; omega) | (rw [if_neg (by assumption), if_pos (by assumption)] at y; omega) | (rw [if_neg (by assumption), if_neg (by assumption), if_pos (by assumption)] at y; omega) | (rw [if_neg (by assumption), if_neg (by assumption), if_neg (by assumption)] at y; omega)⟩) | (exfalso; omega; done) | (exfalso; contradiction; done))
            · skip
              have g132 := i_ne h101
              exact K ((0 : Int32)) _ zF_rfl hV (by decide) (show zZW (0 : Int32) (zwd (m 96) (m 94 68) (m 94 69).toInt xa xb xc xd xe xf xg) from by first | (exact Or.inr ⟨rfl, fun z => absurd z.2.1 (by assumption)⟩) | (exact Or.inr ⟨rfl, fun z => absurd z.2.2.1 (by assumption)⟩) | (exact Or.inr ⟨rfl, fun z => absurd z.2.2.2.1 (by assumption)⟩) | (exact Or.inr ⟨rfl, fun z => absurd z.2.2.2.2.1 (by assumption)⟩) | (exact Or.inr ⟨rfl, fun z => absurd (z.2.2.2.2.2.1.elim (fun y => absurd y (by assumption)) id) (by assumption)⟩) | (exact Or.inr ⟨rfl, fun z => absurd (z.2.2.2.2.2.2.1.elim (fun y => absurd y (by assumption)) (fun y => y.elim (fun y => absurd y (by assumption)) id)) (by assumption)⟩) | (exact Or.inr ⟨rfl, fun z => absurd (z.2.2.2.2.2.2.2.elim (fun y => absurd y (by assumption)) (fun y => y.elim (fun y => absurd y (by assumption)) (fun y => y.elim (fun y => absurd y (by assumption)) id))) (by assumption)⟩) | (exact Or.inr ⟨rfl, fun z => by have y := z.1; first | (rw [if_pos (by assumption)] at y; omega) | (rw [if_neg (by assumption), if_pos (by assumption)] at y; omega) | (rw [if_neg (by assumption), if_neg (by assumption), if_pos (by assumption)] at y; omega) | (rw [if_neg (by assumption), if_neg (by assumption), if_neg (by assumption)] at y; omega)⟩) | (exfalso; omega; done) | (exfalso; contradiction; done))
          · skip
            have g133 := i_ne h95
            exact K ((0 : Int32)) _ zF_rfl hV (by decide) (show zZW (0 : Int32) (zwd (m 96) (m 94 68) (m 94 69).toInt xa xb xc xd xe xf xg) from by first | (exact Or.inr ⟨rfl, fun z => absurd z.2.1 (by assumption)⟩) | (exact Or.inr ⟨rfl, fun z => absurd z.2.2.1 (by assumption)⟩) | (exact Or.inr ⟨rfl, fun z => absurd z.2.2.2.1 (by assumption)⟩) | (exact Or.inr ⟨rfl, fun z => absurd z.2.2.2.2.1 (by assumption)⟩) | (exact Or.inr ⟨rfl, fun z => absurd (z.2.2.2.2.2.1.elim (fun y => absurd y (by assumption)) id) (by assumption)⟩) | (exact Or.inr ⟨rfl, fun z => absurd (z.2.2.2.2.2.2.1.elim (fun y => absurd y (by assumption)) (fun y => y.elim (fun y => absurd y (by assumption)) id)) (by assumption)⟩) | (exact Or.inr ⟨rfl, fun z => absurd (z.2.2.2.2.2.2.2.elim (fun y => absurd y (by assumption)) (fun y => y.elim (fun y => absurd y (by assumption)) (fun y => y.elim (fun y => absurd y (by assumption)) id))) (by assumption)⟩) | (exact Or.inr ⟨rfl, fun z => by have y := z.1; first | (rw [if_pos (by assumption)] at y; omega) | (rw [if_neg (by assumption), if_pos (by assumption)] at y; omega) | (rw [if_neg (by assumption), if_neg (by assumption), if_pos (by assumption)] at y; omega) | (rw [if_neg (by assumption), if_neg (by assumption), if_neg (by assumption)] at y; omega)⟩) | (exfalso; omega; done) | (exfalso; contradiction; done))
        · skip
          have g134 := i_ne h89
          exact K ((0 : Int32)) _ zF_rfl hV (by decide) (show zZW (0 : Int32) (zwd (m 96) (m 94 68) (m 94 69).toInt xa xb xc xd xe xf xg) from by first | (exact Or.inr ⟨rfl, fun z => absurd z.2.1 (by assumption)⟩) | (exact Or.inr ⟨rfl, fun z => absurd z.2.2.1 (by assumption)⟩) | (exact Or.inr ⟨rfl, fun z => absurd z.2.2.2.1 (by assumption)⟩) | (exact Or.inr ⟨rfl, fun z => absurd z.2.2.2.2.1 (by assumption)⟩) | (exact Or.inr ⟨rfl, fun z => absurd (z.2.2.2.2.2.1.elim (fun y => absurd y (by assumption)) id) (by assumption)⟩) | (exact Or.inr ⟨rfl, fun z => absurd (z.2.2.2.2.2.2.1.elim (fun y => absurd y (by assumption)) (fun y => y.elim (fun y => absurd y (by assumption)) id)) (by assumption)⟩) | (exact Or.inr ⟨rfl, fun z => absurd (z.2.2.2.2.2.2.2.elim (fun y => absurd y (by assumption)) (fun y => y.elim (fun y => absurd y (by assumption)) (fun y => y.elim (fun y => absurd y (by assumption)) id))) (by assumption)⟩) | (exact Or.inr ⟨rfl, fun z => by have y := z.1; first | (rw [if_pos (by assumption)] at y; omega) | (rw [if_neg (by assumption), if_pos (by assumption)] at y; omega) | (rw [if_neg (by assumption), if_neg (by assumption), if_pos (by assumption)] at y; omega) | (rw [if_neg (by assumption), if_neg (by assumption), if_neg (by assumption)] at y; omega)⟩) | (exfalso; omega; done) | (exfalso; contradiction; done))
      · skip
        have g135 := i_ne h86
        have li136 : (7 : Int32).toInt = 7 := rfl
        refine zd (fun (h137 : (m 94 69) = (7 : Int32)) => ?_) (fun (h137 : ¬ (m 94 69) = (7 : Int32)) => ?_)
        · skip
          have g138 := i_eq h137
          first | have e139 : ((m 94 68) + (0 : Int32)).toInt = (m 94 68).toInt + (0) := i_addk rfl (by omega) (by omega) | have b140 := i_bd ((m 94 68) + (0 : Int32))
          have hg141 : (0 ≤ ((m 94 68) + (0 : Int32)) ∧ ((m 94 68) + (0 : Int32)).toNatClampNeg < 100) := i_ix (by omega) (by omega)
          refine ⟨hg141, ?_⟩
          have b142 := i_bd (m 96 ((m 94 68) + (0 : Int32)).toNatClampNeg)
          refine zd (fun (h143 : (m 96 ((m 94 68) + (0 : Int32)).toNatClampNeg) = xa) => ?_) (fun (h143 : ¬ (m 96 ((m 94 68) + (0 : Int32)).toNatClampNeg) = xa) => ?_)
          · skip
            have g144 := i_eq h143
            first | have e145 : ((m 94 68) + (1 : Int32)).toInt = (m 94 68).toInt + (1) := i_addk rfl (by omega) (by omega) | have b146 := i_bd ((m 94 68) + (1 : Int32))
            have hg147 : (0 ≤ ((m 94 68) + (1 : Int32)) ∧ ((m 94 68) + (1 : Int32)).toNatClampNeg < 100) := i_ix (by omega) (by omega)
            refine ⟨hg147, ?_⟩
            have b148 := i_bd (m 96 ((m 94 68) + (1 : Int32)).toNatClampNeg)
            refine zd (fun (h149 : (m 96 ((m 94 68) + (1 : Int32)).toNatClampNeg) = xb) => ?_) (fun (h149 : ¬ (m 96 ((m 94 68) + (1 : Int32)).toNatClampNeg) = xb) => ?_)
            · skip
              have g150 := i_eq h149
              first | have e151 : ((m 94 68) + (2 : Int32)).toInt = (m 94 68).toInt + (2) := i_addk rfl (by omega) (by omega) | have b152 := i_bd ((m 94 68) + (2 : Int32))
              have hg153 : (0 ≤ ((m 94 68) + (2 : Int32)) ∧ ((m 94 68) + (2 : Int32)).toNatClampNeg < 100) := i_ix (by omega) (by omega)
              refine ⟨hg153, ?_⟩
              have b154 := i_bd (m 96 ((m 94 68) + (2 : Int32)).toNatClampNeg)
              refine zd (fun (h155 : (m 96 ((m 94 68) + (2 : Int32)).toNatClampNeg) = xc) => ?_) (fun (h155 : ¬ (m 96 ((m 94 68) + (2 : Int32)).toNatClampNeg) = xc) => ?_)
              · skip
                have g156 := i_eq h155
                first | have e157 : ((m 94 68) + (3 : Int32)).toInt = (m 94 68).toInt + (3) := i_addk rfl (by omega) (by omega) | have b158 := i_bd ((m 94 68) + (3 : Int32))
                have hg159 : (0 ≤ ((m 94 68) + (3 : Int32)) ∧ ((m 94 68) + (3 : Int32)).toNatClampNeg < 100) := i_ix (by omega) (by omega)
                refine ⟨hg159, ?_⟩
                have b160 := i_bd (m 96 ((m 94 68) + (3 : Int32)).toNatClampNeg)
                refine zd (fun (h161 : (m 96 ((m 94 68) + (3 : Int32)).toNatClampNeg) = xd) => ?_) (fun (h161 : ¬ (m 96 ((m 94 68) + (3 : Int32)).toNatClampNeg) = xd) => ?_)
                · skip
                  have g162 := i_eq h161
                  first | have e163 : ((m 94 68) + (4 : Int32)).toInt = (m 94 68).toInt + (4) := i_addk rfl (by omega) (by omega) | have b164 := i_bd ((m 94 68) + (4 : Int32))
                  have hg165 : (0 ≤ ((m 94 68) + (4 : Int32)) ∧ ((m 94 68) + (4 : Int32)).toNatClampNeg < 100) := i_ix (by omega) (by omega)
                  refine ⟨hg165, ?_⟩
                  have b166 := i_bd (m 96 ((m 94 68) + (4 : Int32)).toNatClampNeg)
                  refine zd (fun (h167 : (m 96 ((m 94 68) + (4 : Int32)).toNatClampNeg) = xe) => ?_) (fun (h167 : ¬ (m 96 ((m 94 68) + (4 : Int32)).toNatClampNeg) = xe) => ?_)
                  · skip
                    have g168 := i_eq h167
                    first | have e169 : ((m 94 68) + (5 : Int32)).toInt = (m 94 68).toInt + (5) := i_addk rfl (by omega) (by omega) | have b170 := i_bd ((m 94 68) + (5 : Int32))
                    have hg171 : (0 ≤ ((m 94 68) + (5 : Int32)) ∧ ((m 94 68) + (5 : Int32)).toNatClampNeg < 100) := i_ix (by omega) (by omega)
                    refine ⟨hg171, ?_⟩
                    have b172 := i_bd (m 96 ((m 94 68) + (5 : Int32)).toNatClampNeg)
                    refine zd (fun (h173 : (m 96 ((m 94 68) + (5 : Int32)).toNatClampNeg) = xf) => ?_) (fun (h173 : ¬ (m 96 ((m 94 68) + (5 : Int32)).toNatClampNeg) = xf) => ?_)
                    · skip
                      have g174 := i_eq h173
                      first | have e175 : ((m 94 68) + (6 : Int32)).toInt = (m 94 68).toInt + (6) := i_addk rfl (by omega) (by omega) | have b176 := i_bd ((m 94 68) + (6 : Int32))
                      have hg177 : (0 ≤ ((m 94 68) + (6 : Int32)) ∧ ((m 94 68) + (6 : Int32)).toNatClampNeg < 100) := i_ix (by omega) (by omega)
                      refine ⟨hg177, ?_⟩
                      have b178 := i_bd (m 96 ((m 94 68) + (6 : Int32)).toNatClampNeg)
                      refine zd (fun (h179 : (m 96 ((m 94 68) + (6 : Int32)).toNatClampNeg) = xg) => ?_) (fun (h179 : ¬ (m 96 ((m 94 68) + (6 : Int32)).toNatClampNeg) = xg) => ?_)
                      · skip
                        have g180 := i_eq h179
                        have li181 : (1 : Int32).toInt = 1 := rfl
                        exact K ((1 : Int32)) _ zF_rfl hV (by decide) (show zZW (1 : Int32) (zwd (m 96) (m 94 68) (m 94 69).toInt xa xb xc xd xe xf xg) from by first | (exact Or.inl ⟨rfl, (by first | (rw [if_pos (by assumption)]; omega) | (rw [if_neg (by assumption), if_pos (by assumption)]; omega) | (rw [if_neg (by assumption), if_neg (by assumption), if_pos (by assumption)]; omega) | (rw [if_neg (by assumption), if_neg (by assumption), if_neg (by assumption)]; omega)), (by assumption), (by assumption), (by assumption), (by assumption), (by first | exact Or.inl (by assumption) | exact Or.inr ((by assumption))), (by first | exact Or.inl (by assumption) | exact Or.inr (Or.inl (by assumption)) | exact Or.inr (Or.inr ((by assumption)))), (by first | exact Or.inl (by assumption) | exact Or.inr (Or.inl (by assumption)) | exact Or.inr (Or.inr (Or.inl (by assumption))) | exact Or.inr (Or.inr (Or.inr ((by assumption)))))⟩) | (exfalso; omega; done) | (exfalso; contradiction; done))
                      · skip
                        have g182 := i_ne h179
                        exact K ((0 : Int32)) _ zF_rfl hV (by decide) (show zZW (0 : Int32) (zwd (m 96) (m 94 68) (m 94 69).toInt xa xb xc xd xe xf xg) from by first | (exact Or.inr ⟨rfl, fun z => absurd z.2.1 (by assumption)⟩) | (exact Or.inr ⟨rfl, fun z => absurd z.2.2.1 (by assumption)⟩) | (exact Or.inr ⟨rfl, fun z => absurd z.2.2.2.1 (by assumption)⟩) | (exact Or.inr ⟨rfl, fun z => absurd z.2.2.2.2.1 (by assumption)⟩) | (exact Or.inr ⟨rfl, fun z => absurd (z.2.2.2.2.2.1.elim (fun y => absurd y (by assumption)) id) (by assumption)⟩) | (exact Or.inr ⟨rfl, fun z => absurd (z.2.2.2.2.2.2.1.elim (fun y => absurd y (by assumption)) (fun y => y.elim (fun y => absurd y (by assumption)) id)) (by assumption)⟩) | (exact Or.inr ⟨rfl, fun z => absurd (z.2.2.2.2.2.2.2.elim (fun y => absurd y (by assumption)) (fun y => y.elim (fun y => absurd y (by assumption)) (fun y => y.elim (fun y => absurd y (by assumption)) id))) (by assumption)⟩) | (exact Or.inr ⟨rfl, fun z => by have y := z.1; first | (rw [if_pos (by assumption)] at y; omega) | (rw [if_neg (by assumption), if_pos (by assumption)] at y; omega) | (rw [if_neg (by assumption), if_neg (by assumption), if_pos (by assumption)] at y; omega) | (rw [if_neg (by assumption), if_neg (by assumption), if_neg (by assumption)] at y; omega)⟩) | (exfalso; omega; done) | (exfalso; contradiction; done))
                    · skip
                      have g183 := i_ne h173
                      exact K ((0 : Int32)) _ zF_rfl hV (by decide) (show zZW (0 : Int32) (zwd (m 96) (m 94 68) (m 94 69).toInt xa xb xc xd xe xf xg) from by first | (exact Or.inr ⟨rfl, fun z => absurd z.2.1 (by assumption)⟩) | (exact Or.inr ⟨rfl, fun z => absurd z.2.2.1 (by assumption)⟩) | (exact Or.inr ⟨rfl, fun z => absurd z.2.2.2.1 (by assumption)⟩) | (exact Or.inr ⟨rfl, fun z => absurd z.2.2.2.2.1 (by assumption)⟩) | (exact Or.inr ⟨rfl, fun z => absurd (z.2.2.2.2.2.1.elim (fun y => absurd y (by assumption)) id) (by assumption)⟩) | (exact Or.inr ⟨rfl, fun z => absurd (z.2.2.2.2.2.2.1.elim (fun y => absurd y (by assumption)) (fun y => y.elim (fun y => absurd y (by assumption)) id)) (by assumption)⟩) | (exact Or.inr ⟨rfl, fun z => absurd (z.2.2.2.2.2.2.2.elim (fun y => absurd y (by assumption)) (fun y => y.elim (fun y => absurd y (by assumption)) (fun y => y.elim (fun y => absurd y (by assumption)) id))) (by assumption)⟩) | (exact Or.inr ⟨rfl, fun z => by have y := z.1; first | (rw [if_pos (by assumption)] at y; omega) | (rw [if_neg (by assumption), if_pos (by assumption)] at y; omega) | (rw [if_neg (by assumption), if_neg (by assumption), if_pos (by assumption)] at y; omega) | (rw [if_neg (by assumption), if_neg (by assumption), if_neg (by assumption)] at y; omega)⟩) | (exfalso; omega; done) | (exfalso; contradiction; done))
                  · skip
                    have g184 := i_ne h167
                    exact K ((0 : Int32)) _ zF_rfl hV (by decide) (show zZW (0 : Int32) (zwd (m 96) (m 94 68) (m 94 69).toInt xa xb xc xd xe xf xg) from by first | (exact Or.inr ⟨rfl, fun z => absurd z.2.1 (by assumption)⟩) | (exact Or.inr ⟨rfl, fun z => absurd z.2.2.1 (by assumption)⟩) | (exact Or.inr ⟨rfl, fun z => absurd z.2.2.2.1 (by assumption)⟩) | (exact Or.inr ⟨rfl, fun z => absurd z.2.2.2.2.1 (by assumption)⟩) | (exact Or.inr ⟨rfl, fun z => absurd (z.2.2.2.2.2.1.elim (fun y => absurd y (by assumption)) id) (by assumption)⟩) | (exact Or.inr ⟨rfl, fun z => absurd (z.2.2.2.2.2.2.1.elim (fun y => absurd y (by assumption)) (fun y => y.elim (fun y => absurd y (by assumption)) id)) (by assumption)⟩) | (exact Or.inr ⟨rfl, fun z => absurd (z.2.2.2.2.2.2.2.elim (fun y => absurd y (by assumption)) (fun y => y.elim (fun y => absurd y (by assumption)) (fun y => y.elim (fun y => absurd y (by assumption)) id))) (by assumption)⟩) | (exact Or.inr ⟨rfl, fun z => by have y := z.1; first | (rw [if_pos (by assumption)] at y; omega) | (rw [if_neg (by assumption), if_pos (by assumption)] at y; omega) | (rw [if_neg (by assumption), if_neg (by assumption), if_pos (by assumption)] at y; omega) | (rw [if_neg (by assumption), if_neg (by assumption), if_neg (by assumption)] at y; omega)⟩) | (exfalso; omega; done) | (exfalso; contradiction; done))
                · skip
                  have g185 := i_ne h161
                  exact K ((0 : Int32)) _ zF_rfl hV (by decide) (show zZW (0 : Int32) (zwd (m 96) (m 94 68) (m 94 69).toInt xa xb xc xd xe xf xg) from by first | (exact Or.inr ⟨rfl, fun z => absurd z.2.1 (by assumption)⟩) | (exact Or.inr ⟨rfl, fun z => absurd z.2.2.1 (by assumption)⟩) | (exact Or.inr ⟨rfl, fun z => absurd z.2.2.2.1 (by assumption)⟩) | (exact Or.inr ⟨rfl, fun z => absurd z.2.2.2.2.1 (by assumption)⟩) | (exact Or.inr ⟨rfl, fun z => absurd (z.2.2.2.2.2.1.elim (fun y => absurd y (by assumption)) id) (by assumption)⟩) | (exact Or.inr ⟨rfl, fun z => absurd (z.2.2.2.2.2.2.1.elim (fun y => absurd y (by assumption)) (fun y => y.elim (fun y => absurd y (by assumption)) id)) (by assumption)⟩) | (exact Or.inr ⟨rfl, fun z => absurd (z.2.2.2.2.2.2.2.elim (fun y => absurd y (by assumption)) (fun y => y.elim (fun y => absurd y (by assumption)) (fun y => y.elim (fun y => absurd y (by assumption)) id))) (by assumption)⟩) | (exact Or.inr ⟨rfl, fun z => by have y := z.1; first | (rw [if_pos (by assumption)] at y; omega) | (rw [if_neg (by assumption), if_pos (by assumption)] at y; omega) | (rw [if_neg (by assumption), if_neg (by assumption), if_pos (by assumption)] at y; omega) | (rw [if_neg (by assumption), if_neg (by assumption), if_neg (by assumption)] at y; omega)⟩) | (exfalso; omega; done) | (exfalso; contradiction; done))
              · skip
                have g186 := i_ne h155
                exact K ((0 : Int32)) _ zF_rfl hV (by decide) (show zZW (0 : Int32) (zwd (m 96) (m 94 68) (m 94 69).toInt xa xb xc xd xe xf xg) from by first | (exact Or.inr ⟨rfl, fun z => absurd z.2.1 (by assumption)⟩) | (exact Or.inr ⟨rfl, fun z => absurd z.2.2.1 (by assumption)⟩) | (exact Or.inr ⟨rfl, fun z => absurd z.2.2.2.1 (by assumption)⟩) | (exact Or.inr ⟨rfl, fun z => absurd z.2.2.2.2.1 (by assumption)⟩) | (exact Or.inr ⟨rfl, fun z => absurd (z.2.2.2.2.2.1.elim (fun y => absurd y (by assumption)) id) (by assumption)⟩) | (exact Or.inr ⟨rfl, fun z => absurd (z.2.2.2.2.2.2.1.elim (fun y => absurd y (by assumption)) (fun y => y.elim (fun y => absurd y (by assumption)) id)) (by assumption)⟩) | (exact Or.inr ⟨rfl, fun z => absurd (z.2.2.2.2.2.2.2.elim (fun y => absurd y (by assumption)) (fun y => y.elim (fun y => absurd y (by assumption)) (fun y => y.elim (fun y => absurd y (by assumption)) id))) (by assumption)⟩) | (exact Or.inr ⟨rfl, fun z => by have y := z.1; first | (rw [if_pos (by assumption)] at y; omega) | (rw [if_neg (by assumption), if_pos (by assumption)] at y; omega) | (rw [if_neg (by assumption), if_neg (by assumption), if_pos (by assumption)] at y; omega) | (rw [if_neg (by assumption), if_neg (by assumption), if_neg (by assumption)] at y; omega)⟩) | (exfalso; omega; done) | (exfalso; contradiction; done))
            · skip
              have g187 := i_ne h149
              exact K ((0 : Int32)) _ zF_rfl hV (by decide) (show zZW (0 : Int32) (zwd (m 96) (m 94 68) (m 94 69).toInt xa xb xc xd xe xf xg) from by first | (exact Or.inr ⟨rfl, fun z => absurd z.2.1 (by assumption)⟩) | (exact Or.inr ⟨rfl, fun z => absurd z.2.2.1 (by assumption)⟩) | (exact Or.inr ⟨rfl, fun z => absurd z.2.2.2.1 (by assumption)⟩) | (exact Or.inr ⟨rfl, fun z => absurd z.2.2.2.2.1 (by assumption)⟩) | (exact Or.inr ⟨rfl, fun z => absurd (z.2.2.2.2.2.1.elim (fun y => absurd y (by assumption)) id) (by assumption)⟩) | (exact Or.inr ⟨rfl, fun z => absurd (z.2.2.2.2.2.2.1.elim (fun y => absurd y (by assumption)) (fun y => y.elim (fun y => absurd y (by assumption)) id)) (by assumption)⟩) | (exact Or.inr ⟨rfl, fun z => absurd (z.2.2.2.2.2.2.2.elim (fun y => absurd y (by assumption)) (fun y => y.elim (fun y => absurd y (by assumption)) (fun y => y.elim (fun y => absurd y (by assumption)) id))) (by assumption)⟩) | (exact Or.inr ⟨rfl, fun z => by have y := z.1; first | (rw [if_pos (by assumption)] at y; omega) | (rw [if_neg (by assumption), if_pos (by assumption)] at y; omega) | (rw [if_neg (by assumption), if_neg (by assumption), if_pos (by assumption)] at y; omega) | (rw [if_neg (by assumption), if_neg (by assumption), if_neg (by assumption)] at y; omega)⟩) | (exfalso; omega; done) | (exfalso; contradiction; done))
          · skip
            have g188 := i_ne h143
            exact K ((0 : Int32)) _ zF_rfl hV (by decide) (show zZW (0 : Int32) (zwd (m 96) (m 94 68) (m 94 69).toInt xa xb xc xd xe xf xg) from by first | (exact Or.inr ⟨rfl, fun z => absurd z.2.1 (by assumption)⟩) | (exact Or.inr ⟨rfl, fun z => absurd z.2.2.1 (by assumption)⟩) | (exact Or.inr ⟨rfl, fun z => absurd z.2.2.2.1 (by assumption)⟩) | (exact Or.inr ⟨rfl, fun z => absurd z.2.2.2.2.1 (by assumption)⟩) | (exact Or.inr ⟨rfl, fun z => absurd (z.2.2.2.2.2.1.elim (fun y => absurd y (by assumption)) id) (by assumption)⟩) | (exact Or.inr ⟨rfl, fun z => absurd (z.2.2.2.2.2.2.1.elim (fun y => absurd y (by assumption)) (fun y => y.elim (fun y => absurd y (by assumption)) id)) (by assumption)⟩) | (exact Or.inr ⟨rfl, fun z => absurd (z.2.2.2.2.2.2.2.elim (fun y => absurd y (by assumption)) (fun y => y.elim (fun y => absurd y (by assumption)) (fun y => y.elim (fun y => absurd y (by assumption)) id))) (by assumption)⟩) | (exact Or.inr ⟨rfl, fun z => by have y := z.1; first | (rw [if_pos (by assumption)] at y; omega) | (rw [if_neg (by assumption), if_pos (by assumption)] at y; omega) | (rw [if_neg (by assumption), if_neg (by assumption), if_pos (by assumption)] at y; omega) | (rw [if_neg (by assumption), if_neg (by assumption), if_neg (by assumption)] at y; omega)⟩) | (exfalso; omega; done) | (exfalso; contradiction; done))
        · skip
          have g189 := i_ne h137
          exact K ((0 : Int32)) _ zF_rfl hV (by decide) (show zZW (0 : Int32) (zwd (m 96) (m 94 68) (m 94 69).toInt xa xb xc xd xe xf xg) from by first | (exact Or.inr ⟨rfl, fun z => absurd z.2.1 (by assumption)⟩) | (exact Or.inr ⟨rfl, fun z => absurd z.2.2.1 (by assumption)⟩) | (exact Or.inr ⟨rfl, fun z => absurd z.2.2.2.1 (by assumption)⟩) | (exact Or.inr ⟨rfl, fun z => absurd z.2.2.2.2.1 (by assumption)⟩) | (exact Or.inr ⟨rfl, fun z => absurd (z.2.2.2.2.2.1.elim (fun y => absurd y (by assumption)) id) (by assumption)⟩) | (exact Or.inr ⟨rfl, fun z => absurd (z.2.2.2.2.2.2.1.elim (fun y => absurd y (by assumption)) (fun y => y.elim (fun y => absurd y (by assumption)) id)) (by assumption)⟩) | (exact Or.inr ⟨rfl, fun z => absurd (z.2.2.2.2.2.2.2.elim (fun y => absurd y (by assumption)) (fun y => y.elim (fun y => absurd y (by assumption)) (fun y => y.elim (fun y => absurd y (by assumption)) id))) (by assumption)⟩) | (exact Or.inr ⟨rfl, fun z => by have y := z.1; first | (rw [if_pos (by assumption)] at y; omega) | (rw [if_neg (by assumption), if_pos (by assumption)] at y; omega) | (rw [if_neg (by assumption), if_neg (by assumption), if_pos (by assumption)] at y; omega) | (rw [if_neg (by assumption), if_neg (by assumption), if_neg (by assumption)] at y; omega)⟩) | (exfalso; omega; done) | (exfalso; contradiction; done))

