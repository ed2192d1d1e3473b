/-! the reference by numbers (written by wip/tools/gen18r.py) -/
theorem lp_225r_8 {X : Nat × (Nat → Int32)} {P : Option ma_V → (Nat → Nat → Int32) → Prop} {aa : Nat→Nat→Int32} {nz : Int32} {f : Int32} {e : Int32} {m0 : Nat → Nat → Int32} (h0 : zV m0) (K : ∀ v m', zF wr_225 m0 m' → zV m' → (-1 ≤ v.toInt ∧ v.toInt ≤ 1500) → (v.toInt = aFf aa nz.toInt (m' 94 11).toInt 4500 (aN aa f.toInt)) → P (some (.inl v)) m') : ∀ (n : Nat) (m : Nat → Nat → Int32) (l1 : Int32) (l3 : Int32) (l4 : Int32), (4700 - l4.toInt % 4701).toNat = n → zF wr_225 m0 m → zV m → (l3.toInt = (m 94 11).toInt) → (l1.toInt = nz.toInt) → (l4.toInt = -1 ∨ (0 ≤ l4.toInt ∧ l4.toInt < l3.toInt ∧ 1 ≤ (m 94 84).toInt ∧ l4.toInt + (m 94 84).toInt ≤ l3.toInt)) → (qFF aa nz.toInt (m 94 11).toInt (m 94 11).toInt l4.toInt (m 94 84).toInt (aFf aa nz.toInt (m 94 11).toInt 4500 (aN aa f.toInt))) → (qRB (m 99) (m 100) (m 98) (m 101) (m 102) (m 103) (m 107) (m 108) (m 109) (m 111) (m 112) (m 113) (m 114) (m 94 55) (m 94 46) (m 94 11) (m 94 12) (m 94 62) (m 94 17) (m 94 9) aa) → (qI aa) → (zOw (m 99) (m 103) (m 111)) → zm X 2 45 225 8 [(0, .inr (.inr (some 94))), (1, .inl l1), (3, .inl l3), (4, .inl l4)] m P := by
  intro n
  induction n using Nat.strongRecOn with
  | _ n IH =>
    intro m l1 l3 l4 hmu hF hV hi0 hi1 hi2 r_FF r_RB r_QI r_OW
    refine g_225_8 l1 l3 l4 ?_
    have f1 : 0 ≤ (m 94 11).toInt ∧ (m 94 11).toInt ≤ 1500 := rs_94_11 (m := m) hV
    have f2 : 0 ≤ (m 94 84).toInt ∧ (m 94 84).toInt ≤ 4600 := rs_94_84 (m := m) hV
    have b3 := i_bd l4
    have li4 : (0 : Int32).toInt = 0 := rfl
    refine zd (fun (h5 : l4 < (0 : Int32)) => ?_) (fun (h5 : ¬ l4 < (0 : Int32)) => ?_)
    · skip
      have g6 := i_lt h5
      try have fg := (FF_gd r_FF (by omega))
      have li7 : (-1 : Int32).toInt = -1 := rfl
      exact K ((-1 : Int32)) _ hF hV (show -1 ≤ (-1 : Int32).toInt ∧ (-1 : Int32).toInt ≤ 1500 from by omega) (show (-1 : Int32).toInt = aFf aa nz.toInt (m 94 11).toInt 4500 (aN aa f.toInt) from by first | (exact FF_y r_FF (by omega) (by omega) (by omega)) | (exact FF_n r_FF (Or.inl (by omega))) | (exfalso; omega; done) | (exfalso; contradiction; done))
    · skip
      have g8 := i_nlt h5
      have b9 := i_bd l1
      refine zd (fun (h10 : (m 94 84) < l1) => ?_) (fun (h10 : ¬ (m 94 84) < l1) => ?_)
      · skip
        have g11 := i_lt h10
        first | have e12 : (l4 + (m 94 84)).toInt = l4.toInt + (m 94 84).toInt := i_add (by omega) (by omega) | have b13 := i_bd (l4 + (m 94 84))
        have b14 := i_bd l3
        have hV15 : zV (ma_u m 94 50 ((m 94 50) + (1 : Int32))) := uf_94_50 hV
        try have fg := (FF_gd r_FF (by omega))
        refine sp_226r (aa := aa) ((l4 + (m 94 84))) (l3) hV15 (show 0 ≤ (l4 + (m 94 84)).toInt ∧ (l4 + (m 94 84)).toInt ≤ (m 94 11).toInt from by omega) (show l3.toInt = (m 94 11).toInt from by omega) (show qGd aa (l4 + (m 94 84)).toInt from by first | (exact Gd_c (FF_gd r_FF (by omega)).1 (by omega)) | (exfalso; omega; done) | (exfalso; contradiction; done)) r_RB r_QI r_OW (fun v2 m1 hV_m1 p0_m1 p1_m1 => zmi_n ?_)
        have p0_m1 : v2.toInt = -1 ∨ ((l4 + (m 94 84)).toInt ≤ v2.toInt ∧ v2.toInt < l3.toInt ∧ 1 ≤ (m1 94 84).toInt ∧ v2.toInt + (m1 94 84).toInt ≤ l3.toInt) := p0_m1
        have p1_m1 : qBF aa (l4 + (m 94 84)).toInt (m 94 11).toInt v2.toInt (m1 94 84).toInt := p1_m1
        have f16 : 0 ≤ (m1 94 84).toInt ∧ (m1 94 84).toInt ≤ 4600 := rs_94_84 (m := (zov wr_226 (ma_u m 94 50 ((m 94 50) + (1 : Int32))) m1)) hV_m1
        try have fg := (FF_gd r_FF (by omega))
        have b17 := i_bd v2
        exact IH (4700 - v2.toInt % 4701).toNat (by omega) _ (l1) (l3) (v2) rfl (zF_zov (zF_u hF rfl) ws_226_225) hV_m1 (show l3.toInt = (m 94 11).toInt from by omega) (by omega) (show v2.toInt = -1 ∨ (0 ≤ v2.toInt ∧ v2.toInt < l3.toInt ∧ 1 ≤ (m1 94 84).toInt ∧ v2.toInt + (m1 94 84).toInt ≤ l3.toInt) from by omega) (show qFF aa nz.toInt (m 94 11).toInt (m 94 11).toInt v2.toInt (m1 94 84).toInt (aFf aa nz.toInt (m 94 11).toInt 4500 (aN aa f.toInt)) from by first | (exact FF_of r_QI r_RB (by omega) (by omega) p1_m1 rfl) | (exact FF_go r_QI r_RB (by omega) (by omega) (by omega) r_FF (by omega) (by omega) (by omega) p1_m1) | (exfalso; omega; done) | (exfalso; contradiction; done)) r_RB r_QI r_OW
      · skip
        have g18 := i_nlt h10
        try have fg := (FF_gd r_FF (by omega))
        have hV19 : zV (ma_u m 94 50 ((m 94 50) + (1 : Int32))) := uf_94_50 hV
        exact K (l4) _ (zF_u hF rfl) hV19 (show -1 ≤ l4.toInt ∧ l4.toInt ≤ 1500 from by omega) (show l4.toInt = aFf aa nz.toInt (m 94 11).toInt 4500 (aN aa f.toInt) from by first | (exact FF_y r_FF (by omega) (by omega) (by omega)) | (exact FF_n r_FF (Or.inl (by omega))) | (exfalso; omega; done) | (exfalso; contradiction; done))
theorem sp_225r {X : Nat × (Nat → Int32)} {P : Option ma_V → (Nat → Nat → Int32) → Prop} {aa : Nat→Nat→Int32} {m : Nat → Nat → Int32} (nz : Int32) (f : Int32) (e : Int32) (hV : zV m) (hpre0 : 0 ≤ f.toInt ∧ f.toInt ≤ (m 94 11).toInt) (hpre1 : e.toInt = (m 94 11).toInt) (r_GD : qGd aa f.toInt) (r_RB : qRB (m 99) (m 100) (m 98) (m 101) (m 102) (m 103) (m 107) (m 108) (m 109) (m 111) (m 112) (m 113) (m 114) (m 94 55) (m 94 46) (m 94 11) (m 94 12) (m 94 62) (m 94 17) (m 94 9) aa) (r_QI : qI aa) (r_OW : zOw (m 99) (m 103) (m 111)) (KZ : ∀ v m', zV (zov wr_225 m m') → (-1 ≤ v.toInt ∧ v.toInt ≤ 1500) → (v.toInt = aFf aa nz.toInt (m 94 11).toInt 4500 (aN aa f.toInt)) → P (some (.inl v)) (zov wr_225 m m')) : zm X 2 45 225 0 [(0, .inr (.inr (some 94))), (1, .inl nz), (2, .inl f), (3, .inl e)] m P := by
  have K : ∀ v m', zF wr_225 m m' → zV m' → (-1 ≤ v.toInt ∧ v.toInt ≤ 1500) → (v.toInt = aFf aa nz.toInt (m' 94 11).toInt 4500 (aN aa f.toInt)) → P (some (.inl v)) m' := by
    intro v m' hf z q0 q1
    have e := zov_eq hf
    rw [e] at z ⊢
    try rw [e] at q0
    try rw [e] at q1
    exact KZ v m' z q0 q1
  refine g_225_0 nz f e ?_
  have f1 : 0 ≤ (m 94 11).toInt ∧ (m 94 11).toInt ≤ 1500 := rs_94_11 (m := m) hV
  have b2 := i_bd f
  have b3 := i_bd e
  refine sp_226r (aa := aa) (f) (e) hV (show 0 ≤ f.toInt ∧ f.toInt ≤ (m 94 11).toInt from by omega) (show e.toInt = (m 94 11).toInt from by omega) r_GD r_RB r_QI r_OW (fun v2 m1 hV_m1 p0_m1 p1_m1 => zmi_n ?_)
  have p0_m1 : v2.toInt = -1 ∨ (f.toInt ≤ v2.toInt ∧ v2.toInt < e.toInt ∧ 1 ≤ (m1 94 84).toInt ∧ v2.toInt + (m1 94 84).toInt ≤ e.toInt) := p0_m1
  have p1_m1 : qBF aa f.toInt (m 94 11).toInt v2.toInt (m1 94 84).toInt := p1_m1
  have f4 : 0 ≤ (m1 94 84).toInt ∧ (m1 94 84).toInt ≤ 4600 := rs_94_84 (m := (zov wr_226 m m1)) hV_m1
  have b5 := i_bd nz
  have b6 := i_bd v2
  exact lp_225r_8 (nz := nz) (f := f) (e := e) hV K _ _ (nz) (e) (v2) rfl (zF_zov zF_rfl ws_226_225) hV_m1 (show e.toInt = (m 94 11).toInt from by omega) (by omega) (show v2.toInt = -1 ∨ (0 ≤ v2.toInt ∧ v2.toInt < e.toInt ∧ 1 ≤ (m1 94 84).toInt ∧ v2.toInt + (m1 94 84).toInt ≤ e.toInt) from by omega) (show qFF aa nz.toInt (m 94 11).toInt (m 94 11).toInt v2.toInt (m1 94 84).toInt (aFf aa nz.toInt (m 94 11).toInt 4500 (aN aa f.toInt)) from by first | (exact FF_of r_QI r_RB (by omega) (by omega) p1_m1 rfl) | (exfalso; omega; done) | (exfalso; contradiction; done)) r_RB r_QI r_OW
theorem lp_228r_10 {X : Nat × (Nat → Int32)} {P : Option ma_V → (Nat → Nat → Int32) → Prop} {aa : Nat→Nat→Int32} {nz : Int32} {e : Int32} {m0 : Nat → Nat → Int32} (h0 : zV m0) (K : ∀ v m', zF wr_228 m0 m' → zV m' → (-1 ≤ v.toInt ∧ v.toInt ≤ 1500) → (v.toInt = aFf aa nz.toInt e.toInt 4500 (aN aa 0)) → P (some (.inl v)) m') : ∀ (n : Nat) (m : Nat → Nat → Int32) (l1 : Int32) (l2 : Int32) (l3 : Int32), (4700 - l3.toInt % 4701).toNat = n → zF wr_228 m0 m → zV m → (l1.toInt = nz.toInt) → (l2.toInt = e.toInt) → (l2.toInt ≤ (m 94 11).toInt) → (l3.toInt = -1 ∨ (0 ≤ l3.toInt ∧ l3.toInt < (m 94 11).toInt ∧ 1 ≤ (m 94 84).toInt ∧ l3.toInt + (m 94 84).toInt ≤ (m 94 11).toInt)) → (qFF aa nz.toInt e.toInt (m 94 11).toInt l3.toInt (m 94 84).toInt (aFf aa nz.toInt e.toInt 4500 (aN aa 0))) → (qRB (m 99) (m 100) (m 98) (m 101) (m 102) (m 103) (m 107) (m 108) (m 109) (m 111) (m 112) (m 113) (m 114) (m 94 55) (m 94 46) (m 94 11) (m 94 12) (m 94 62) (m 94 17) (m 94 9) aa) → (qI aa) → (zOw (m 99) (m 103) (m 111)) → zm X 2 45 228 10 [(0, .inr (.inr (some 94))), (1, .inl l1), (2, .inl l2), (3, .inl l3)] m P := by
  intro n
  induction n using Nat.strongRecOn with
  | _ n IH =>
    intro m l1 l2 l3 hmu hF hV hi0 hi1 hi2 hi3 r_FF r_RB r_QI r_OW
    refine g_228_10 l1 l2 l3 ?_
    have f1 : 0 ≤ (m 94 11).toInt ∧ (m 94 11).toInt ≤ 1500 := rs_94_11 (m := m) hV
    have f2 : 0 ≤ (m 94 84).toInt ∧ (m 94 84).toInt ≤ 4600 := rs_94_84 (m := m) hV
    have b3 := i_bd l3
    have li4 : (0 : Int32).toInt = 0 := rfl
    refine zd (fun (h5 : l3 < (0 : Int32)) => ?_) (fun (h5 : ¬ l3 < (0 : Int32)) => ?_)
    · skip
      have g6 := i_lt h5
      try have fg := (FF_gd r_FF (by omega))
      have li7 : (-1 : Int32).toInt = -1 := rfl
      exact K ((-1 : Int32)) _ hF hV (show -1 ≤ (-1 : Int32).toInt ∧ (-1 : Int32).toInt ≤ 1500 from by omega) (show (-1 : Int32).toInt = aFf aa nz.toInt e.toInt 4500 (aN aa 0) from by first | (exact FF_y r_FF (by omega) (by omega) (by omega)) | (exact FF_n r_FF (Or.inl (by omega))) | (exact FF_n r_FF (Or.inr (by omega))) | (exfalso; omega; done) | (exfalso; contradiction; done))
    · skip
      have g8 := i_nlt h5
      have b9 := i_bd l2
      refine zd (fun (h10 : l2 ≤ l3) => ?_) (fun (h10 : ¬ l2 ≤ l3) => ?_)
      · skip
        have g11 := i_le h10
        try have fg := (FF_gd r_FF (by omega))
        have li12 : (-1 : Int32).toInt = -1 := rfl
        exact K ((-1 : Int32)) _ hF hV (show -1 ≤ (-1 : Int32).toInt ∧ (-1 : Int32).toInt ≤ 1500 from by omega) (show (-1 : Int32).toInt = aFf aa nz.toInt e.toInt 4500 (aN aa 0) from by first | (exact FF_y r_FF (by omega) (by omega) (by omega)) | (exact FF_n r_FF (Or.inl (by omega))) | (exact FF_n r_FF (Or.inr (by omega))) | (exfalso; omega; done) | (exfalso; contradiction; done))
      · skip
        have g13 := i_nle h10
        have b14 := i_bd l1
        refine zd (fun (h15 : (m 94 84) < l1) => ?_) (fun (h15 : ¬ (m 94 84) < l1) => ?_)
        · skip
          have g16 := i_lt h15
          first | have e17 : (l3 + (m 94 84)).toInt = l3.toInt + (m 94 84).toInt := i_add (by omega) (by omega) | have b18 := i_bd (l3 + (m 94 84))
          have hV19 : zV (ma_u m 94 50 ((m 94 50) + (1 : Int32))) := uf_94_50 hV
          try have fg := (FF_gd r_FF (by omega))
          refine sp_226r (aa := aa) ((l3 + (m 94 84))) ((m 94 11)) hV19 (show 0 ≤ (l3 + (m 94 84)).toInt ∧ (l3 + (m 94 84)).toInt ≤ (m 94 11).toInt from by omega) (show (m 94 11).toInt = (m 94 11).toInt from by omega) (show qGd aa (l3 + (m 94 84)).toInt from by first | (exact Gd_0 r_QI) | (exact Gd_c (FF_gd r_FF (by omega)).1 (by omega)) | (exfalso; omega; done) | (exfalso; contradiction; done)) r_RB r_QI r_OW (fun v2 m1 hV_m1 p0_m1 p1_m1 => zmi_n ?_)
          have p0_m1 : v2.toInt = -1 ∨ ((l3 + (m 94 84)).toInt ≤ v2.toInt ∧ v2.toInt < (m 94 11).toInt ∧ 1 ≤ (m1 94 84).toInt ∧ v2.toInt + (m1 94 84).toInt ≤ (m 94 11).toInt) := p0_m1
          have p1_m1 : qBF aa (l3 + (m 94 84)).toInt (m 94 11).toInt v2.toInt (m1 94 84).toInt := p1_m1
          have f20 : 0 ≤ (m1 94 84).toInt ∧ (m1 94 84).toInt ≤ 4600 := rs_94_84 (m := (zov wr_226 (ma_u m 94 50 ((m 94 50) + (1 : Int32))) m1)) hV_m1
          try have fg := (FF_gd r_FF (by omega))
          have b21 := i_bd v2
          exact IH (4700 - v2.toInt % 4701).toNat (by omega) _ (l1) (l2) (v2) rfl (zF_zov (zF_u hF rfl) ws_226_228) hV_m1 (by omega) (by omega) (show l2.toInt ≤ (m 94 11).toInt from by omega) (show v2.toInt = -1 ∨ (0 ≤ v2.toInt ∧ v2.toInt < (m 94 11).toInt ∧ 1 ≤ (m1 94 84).toInt ∧ v2.toInt + (m1 94 84).toInt ≤ (m 94 11).toInt) from by omega) (show qFF aa nz.toInt e.toInt (m 94 11).toInt v2.toInt (m1 94 84).toInt (aFf aa nz.toInt e.toInt 4500 (aN aa 0)) from by first | (exact FF_of r_QI r_RB (by omega) (by omega) p1_m1 rfl) | (exact FF_go r_QI r_RB (by omega) (by omega) (by omega) r_FF (by omega) (by omega) (by omega) p1_m1) | (exfalso; omega; done) | (exfalso; contradiction; done)) r_RB r_QI r_OW
        · skip
          have g22 := i_nlt h15
          try have fg := (FF_gd r_FF (by omega))
          have hV23 : zV (ma_u m 94 50 ((m 94 50) + (1 : Int32))) := uf_94_50 hV
          exact K (l3) _ (zF_u hF rfl) hV23 (show -1 ≤ l3.toInt ∧ l3.toInt ≤ 1500 from by omega) (show l3.toInt = aFf aa nz.toInt e.toInt 4500 (aN aa 0) from by first | (exact FF_y r_FF (by omega) (by omega) (by omega)) | (exact FF_n r_FF (Or.inl (by omega))) | (exact FF_n r_FF (Or.inr (by omega))) | (exfalso; omega; done) | (exfalso; contradiction; done))
theorem sp_228r {X : Nat × (Nat → Int32)} {P : Option ma_V → (Nat → Nat → Int32) → Prop} {aa : Nat→Nat→Int32} {m : Nat → Nat → Int32} (nz : Int32) (e : Int32) (hV : zV m) (hpre0 : e.toInt ≤ (m 94 11).toInt) (r_RB : qRB (m 99) (m 100) (m 98) (m 101) (m 102) (m 103) (m 107) (m 108) (m 109) (m 111) (m 112) (m 113) (m 114) (m 94 55) (m 94 46) (m 94 11) (m 94 12) (m 94 62) (m 94 17) (m 94 9) aa) (r_QI : qI aa) (r_OW : zOw (m 99) (m 103) (m 111)) (KZ : ∀ v m', zV (zov wr_228 m m') → (-1 ≤ v.toInt ∧ v.toInt ≤ 1500) → (v.toInt = aFf aa nz.toInt e.toInt 4500 (aN aa 0)) → P (some (.inl v)) (zov wr_228 m m')) : zm X 2 45 228 0 [(0, .inr (.inr (some 94))), (1, .inl nz), (2, .inl e)] m P := by
  have K : ∀ v m', zF wr_228 m m' → zV m' → (-1 ≤ v.toInt ∧ v.toInt ≤ 1500) → (v.toInt = aFf aa nz.toInt e.toInt 4500 (aN aa 0)) → P (some (.inl v)) m' := by
    intro v m' hf z q0 q1
    have e := zov_eq hf
    rw [e] at z ⊢
    try rw [e] at q0
    try rw [e] at q1
    exact KZ v m' z q0 q1
  refine g_228_0 nz e ?_
  have f1 : 0 ≤ (m 94 11).toInt ∧ (m 94 11).toInt ≤ 1500 := rs_94_11 (m := m) hV
  have li2 : (0 : Int32).toInt = 0 := rfl
  refine sp_226r (aa := aa) ((0 : Int32)) ((m 94 11)) hV (show 0 ≤ (0 : Int32).toInt ∧ (0 : Int32).toInt ≤ (m 94 11).toInt from by omega) (show (m 94 11).toInt = (m 94 11).toInt from by omega) (show qGd aa (0 : Int32).toInt from by first | (exact Gd_0 r_QI) | (exfalso; omega; done) | (exfalso; contradiction; done)) r_RB r_QI r_OW (fun v2 m1 hV_m1 p0_m1 p1_m1 => zmi_n ?_)
  have p0_m1 : v2.toInt = -1 ∨ ((0 : Int32).toInt ≤ v2.toInt ∧ v2.toInt < (m 94 11).toInt ∧ 1 ≤ (m1 94 84).toInt ∧ v2.toInt + (m1 94 84).toInt ≤ (m 94 11).toInt) := p0_m1
  have p1_m1 : qBF aa (0 : Int32).toInt (m 94 11).toInt v2.toInt (m1 94 84).toInt := p1_m1
  have f3 : 0 ≤ (m1 94 84).toInt ∧ (m1 94 84).toInt ≤ 4600 := rs_94_84 (m := (zov wr_226 m m1)) hV_m1
  have b4 := i_bd nz
  have b5 := i_bd e
  have b6 := i_bd v2
  exact lp_228r_10 (nz := nz) (e := e) hV K _ _ (nz) (e) (v2) rfl (zF_zov zF_rfl ws_226_228) hV_m1 (by omega) (by omega) (show e.toInt ≤ (m 94 11).toInt from by omega) (show v2.toInt = -1 ∨ (0 ≤ v2.toInt ∧ v2.toInt < (m 94 11).toInt ∧ 1 ≤ (m1 94 84).toInt ∧ v2.toInt + (m1 94 84).toInt ≤ (m 94 11).toInt) from by omega) (show qFF aa nz.toInt e.toInt (m 94 11).toInt v2.toInt (m1 94 84).toInt (aFf aa nz.toInt e.toInt 4500 (aN aa 0)) from by first | (exact FF_of r_QI r_RB (by omega) (by omega) p1_m1 rfl) | (exfalso; omega; done) | (exfalso; contradiction; done)) r_RB r_QI r_OW
theorem lp_227r_2 {X : Nat × (Nat → Int32)} {P : Option ma_V → (Nat → Nat → Int32) → Prop} {aa : Nat→Nat→Int32} {p : Int32} {m0 : Nat → Nat → Int32} (h0 : zV m0) (K : ∀ v m', zF wr_227 m0 m' → zV m' → (v.toInt = p.toInt) → P (some (.inl v)) m') : ∀ (n : Nat) (m : Nat → Nat → Int32) (l1 : Int32) (l2 : Int32), (1600 - l2.toInt).toNat = n → zF wr_227 m0 m → zV m → (0 ≤ l2.toInt) → (l1.toInt = p.toInt) → (l2.toInt ≤ l1.toInt) → (l1.toInt ≤ (m 94 11).toInt) → (qGd aa l1.toInt) → (qGd aa l2.toInt) → (qRB (m 99) (m 100) (m 98) (m 101) (m 102) (m 103) (m 107) (m 108) (m 109) (m 111) (m 112) (m 113) (m 114) (m 94 55) (m 94 46) (m 94 11) (m 94 12) (m 94 62) (m 94 17) (m 94 9) aa) → (qI aa) → (zOw (m 99) (m 103) (m 111)) → zm X 1 21 227 2 [(0, .inr (.inr (some 94))), (1, .inl l1), (2, .inl l2)] m P := by
  intro n
  induction n using Nat.strongRecOn with
  | _ n IH =>
    intro m l1 l2 hmu hF hV hi0 hi1 hi2 hi3 r_GZ r_GD r_RB r_QI r_OW
    refine g_227_2 l1 l2 ?_
    have f1 : 0 ≤ (m 94 11).toInt ∧ (m 94 11).toInt ≤ 1500 := rs_94_11 (m := m) hV
    have b2 := i_bd l1
    have b3 := i_bd l2
    refine zd (fun (h4 : l1 ≤ l2) => ?_) (fun (h4 : ¬ l1 ≤ l2) => ?_)
    · skip
      have g5 := i_le h4
      try have so := SO_s2 r_QI r_RB r_OW r_GD (by omega) (by omega) (by omega) r_GZ (by omega) (by omega) (by omega)
      exact K (l2) _ hF hV (show l2.toInt = p.toInt from by omega)
    · skip
      have g6 := i_nle h4
      have hg7 : (0 ≤ l2 ∧ l2.toNatClampNeg < 4600) := i_ix (by omega) (by omega)
      refine ⟨hg7, ?_⟩
      first | have f8 : -1 ≤ (m 111 l2.toNatClampNeg).toInt ∧ (m 111 l2.toNatClampNeg).toInt ≤ 3099 := ra_111 (m := m) hV (k := l2.toNatClampNeg) (i_ix (n := 4600) (by omega) (by omega)).2 | have b9 := i_bd (m 111 l2.toNatClampNeg)
      have li10 : (0 : Int32).toInt = 0 := rfl
      refine zd (fun (h11 : (m 111 l2.toNatClampNeg) < (0 : Int32)) => ?_) (fun (h11 : ¬ (m 111 l2.toNatClampNeg) < (0 : Int32)) => ?_)
      · skip
        have g12 := i_lt h11
        try have so := SO_s2 r_QI r_RB r_OW r_GD (by omega) (by omega) (by omega) r_GZ (by omega) (by omega) (by omega)
        first | have e13 : (l2 + (1 : Int32)).toInt = l2.toInt + (1) := i_addk rfl (by omega) (by omega) | have b14 := i_bd (l2 + (1 : Int32))
        exact IH (1600 - (l2 + (1 : Int32)).toInt).toNat (by omega) _ (l1) ((l2 + (1 : Int32))) rfl hF hV (by omega) (by omega) (by omega) (show l1.toInt ≤ (m 94 11).toInt from by omega) r_GZ (show qGd aa (l2 + (1 : Int32)).toInt from by first | (exact Gd_0 r_QI) | (exact (SO_st r_QI r_RB r_OW r_GD (by omega) (by omega) (by omega) r_GZ (by omega) (by omega) (by omega) (by omega)).2) | (exact Gd_c (Gd_s r_QI r_GD (BF_fr r_QI r_RB r_GD (by omega) (by omega) (by omega)) (by omega) (by omega)) (by omega)) | (exfalso; omega; done) | (exfalso; contradiction; done)) r_RB r_QI r_OW
      · skip
        have g15 := i_nlt h11
        have hg16 : (0 ≤ l2 ∧ l2.toNatClampNeg < 4600) := i_ix (by omega) (by omega)
        refine ⟨hg16, ?_⟩
        have hg17 : (0 ≤ (m 111 l2.toNatClampNeg) ∧ (m 111 l2.toNatClampNeg).toNatClampNeg < 3100) := i_ix (by omega) (by omega)
        refine ⟨hg17, ?_⟩
        try have so := SO_s2 r_QI r_RB r_OW r_GD (by omega) (by omega) (by omega) r_GZ (by omega) (by omega) (by omega)
        first | have f18 : 0 ≤ (m 102 (m 111 l2.toNatClampNeg).toNatClampNeg).toInt ∧ (m 102 (m 111 l2.toNatClampNeg).toNatClampNeg).toInt ≤ 60 := ra_102 (m := m) hV (k := (m 111 l2.toNatClampNeg).toNatClampNeg) (i_ix (n := 3100) (by omega) (by omega)).2 | have b19 := i_bd (m 102 (m 111 l2.toNatClampNeg).toNatClampNeg)
        first | have e20 : ((m 102 (m 111 l2.toNatClampNeg).toNatClampNeg) + (1 : Int32)).toInt = (m 102 (m 111 l2.toNatClampNeg).toNatClampNeg).toInt + (1) := i_addk rfl (by omega) (by omega) | have b21 := i_bd ((m 102 (m 111 l2.toNatClampNeg).toNatClampNeg) + (1 : Int32))
        first | have e22 : (l2 + ((m 102 (m 111 l2.toNatClampNeg).toNatClampNeg) + (1 : Int32))).toInt = l2.toInt + ((m 102 (m 111 l2.toNatClampNeg).toNatClampNeg) + (1 : Int32)).toInt := i_add (by omega) (by omega) | have b23 := i_bd (l2 + ((m 102 (m 111 l2.toNatClampNeg).toNatClampNeg) + (1 : Int32)))
        exact IH (1600 - (l2 + ((m 102 (m 111 l2.toNatClampNeg).toNatClampNeg) + (1 : Int32))).toInt).toNat (by omega) _ (l1) ((l2 + ((m 102 (m 111 l2.toNatClampNeg).toNatClampNeg) + (1 : Int32)))) rfl hF hV (by omega) (by omega) (by omega) (show l1.toInt ≤ (m 94 11).toInt from by omega) r_GZ (show qGd aa (l2 + ((m 102 (m 111 l2.toNatClampNeg).toNatClampNeg) + (1 : Int32))).toInt from by first | (exact Gd_0 r_QI) | (exact (SO_st r_QI r_RB r_OW r_GD (by omega) (by omega) (by omega) r_GZ (by omega) (by omega) (by omega) (by omega)).2) | (exact Gd_c (Gd_s r_QI r_GD (BF_fr r_QI r_RB r_GD (by omega) (by omega) (by omega)) (by omega) (by omega)) (by omega)) | (exfalso; omega; done) | (exfalso; contradiction; done)) r_RB r_QI r_OW
theorem sp_227r {X : Nat × (Nat → Int32)} {P : Option ma_V → (Nat → Nat → Int32) → Prop} {aa : Nat→Nat→Int32} {m : Nat → Nat → Int32} (p : Int32) (hV : zV m) (hpre0 : 0 ≤ p.toInt) (hpre1 : p.toInt ≤ (m 94 11).toInt) (r_GZ : qGd aa p.toInt) (r_RB : qRB (m 99) (m 100) (m 98) (m 101) (m 102) (m 103) (m 107) (m 108) (m 109) (m 111) (m 112) (m 113) (m 114) (m 94 55) (m 94 46) (m 94 11) (m 94 12) (m 94 62) (m 94 17) (m 94 9) aa) (r_QI : qI aa) (r_OW : zOw (m 99) (m 103) (m 111)) (KZ : ∀ v m', zV (zov wr_227 m m') → (v.toInt = p.toInt) → P (some (.inl v)) (zov wr_227 m m')) : zm X 1 21 227 0 [(0, .inr (.inr (some 94))), (1, .inl p)] m P := by
  have K : ∀ v m', zF wr_227 m m' → zV m' → (v.toInt = p.toInt) → P (some (.inl v)) m' := by
    intro v m' hf z q0
    have e := zov_eq hf
    rw [e] at z ⊢
    try rw [e] at q0
    exact KZ v m' z q0
  refine g_227_0 p ?_
  have f1 : 0 ≤ (m 94 11).toInt ∧ (m 94 11).toInt ≤ 1500 := rs_94_11 (m := m) hV
  have b2 := i_bd p
  have li3 : (0 : Int32).toInt = 0 := rfl
  exact lp_227r_2 (p := p) hV K _ _ (p) ((0 : Int32)) rfl zF_rfl hV (by omega) (by omega) (by omega) (show p.toInt ≤ (m 94 11).toInt from by omega) r_GZ (show qGd aa (0 : Int32).toInt from by first | (exact Gd_0 r_QI) | (exfalso; omega; done) | (exfalso; contradiction; done)) r_RB r_QI r_OW
