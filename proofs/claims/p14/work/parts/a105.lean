/-! from 95.h04 -/
/-! the reference by numbers (written by wip/tools/gen18r.py) -/
theorem lp_225r_8 {X : Nat × (Nat → Int32)} {P : Option ma_V → (Nat → Nat → Int32) → Prop} {aa : Nat→Nat→Int32} {nz : Int32} {f : Int32} {e : Int32} {m0 : Nat → Nat → Int32} (h0 : zV m0) (K : ∀ v m₉, zF wr_225 m0 m₉ → zV m₉ → (-1 ≤ v.toInt ∧ v.toInt ≤ 1500) → (v.toInt = aFf aa nz.toInt (m₉ 94 11).toInt 4500 (aN aa f.toInt)) → P (some (.inl v)) m₉) : ∀ (n : Nat) (m : Nat → Nat → Int32) (l1 : Int32) (l3 : Int32) (l4 : Int32), (4700 - l4.toInt % 4701).toNat = n → zF wr_225 m0 m → zV m → (l3.toInt = (m 94 11).toInt) → (l1.toInt = nz.toInt) → (l4.toInt = -1 ∨ (0 ≤ l4.toInt ∧ l4.toInt < l3.toInt ∧ 1 ≤ (m 94 84).toInt ∧ l4.toInt + (m 94 84).toInt ≤ l3.toInt)) → (qFF aa nz.toInt (m 94 11).toInt (m 94 11).toInt l4.toInt (m 94 84).toInt (aFf aa nz.toInt (m 94 11).toInt 4500 (aN aa f.toInt))) → (qRB (m 99) (m 100) (m 98) (m 101) (m 102) (m 103) (m 107) (m 108) (m 109) (m 111) (m 112) (m 113) (m 114) (m 94 55) (m 94 46) (m 94 11) (m 94 12) (m 94 62) (m 94 17) (m 94 9) aa) → (qI aa) → (zOw (m 99) (m 103) (m 111)) → zm X 2 45 225 8 [(0, .inr (.inr (some 94))), (1, .inl l1), (3, .inl l3), (4, .inl l4)] m P := by
  intro n
  induction n using Nat.strongRecOn with
  | _ n IH =>
    intro m l1 l3 l4 hmu hF hV hi0 hi1 hi2 r_FF r_RB r_QI r_OW
    refine g_225_8 l1 l3 l4 ?_
    have f1 : 0 ≤ (m 94 11).toInt ∧ (m 94 11).toInt ≤ 1500 := rs_94_11 (m := m) hV
    have f2 : 0 ≤ (m 94 84).toInt ∧ (m 94 84).toInt ≤ 4600 := rs_94_84 (m := m) hV
    have b3 := i_bd l4
    have li4 : (0 : Int32).toInt = 0 := rfl
    refine zd (fun (h5 : l4 < (0 : Int32)) => ?_) (fun (h5 : ¬ l4 < (0 : Int32)) => ?_)
    · skip
      have g6 := i_lt h5
      try have fg := (FF_gd r_FF (by omega))
      have li7 : (-1 : Int32).toInt = -1 := rfl
      exact K ((-1 : Int32)) _ hF hV (show -1 ≤ (-1 : Int32).toInt ∧ (-1 : Int32).toInt ≤ 1500 from by omega) (show (-1 : Int32).toInt = aFf aa nz.toInt (m 94 11).toInt 4500 (aN aa f.toInt) from by first | (exact FF_y r_FF (by omega) (by omega) (by omega)) | (exact FF_n r_FF (Or.inl (by omega))) | (exfalso; omega; done) | (exfalso; contradiction; done))
    · skip
      have g8 := i_nlt h5
      have b9 := i_bd l1
      refine zd (fun (h10 : (m 94 84) < l1) => ?_) (fun (h10 : ¬ (m 94 84) < l1) => ?_)
      · skip
        have g11 := i_lt h10
        first | have e12 : (l4 + (m 94 84)).toInt = l4.toInt + (m 94 84).toInt := i_add (by omega) (by omega) | have b13 := i_bd (l4 + (m 94 84))
        have b14 := i_bd l3
        have hV15 : zV (ma_u m 94 50 ((m 94 50) + (1 : Int32))) := uf_94_50 hV
        try have fg := (FF_gd r_FF (by omega))
        refine sp_226r (aa := aa) ((l4 + (m 94 84))) (l3) hV15 (show 0 ≤ (l4 + (m 94 84)).toInt ∧ (l4 + (m 94 84)).toInt ≤ (m 94 11).toInt from by omega) (show l3.toInt = (m 94 11).toInt from by omega) (show qGd aa (l4 + (m 94 84)).toInt from by first | (exact Gd_c (FF_gd r_FF (by omega)).1 (by omega)) | (exfalso; omega; done) | (exfalso; contradiction; done)) r_RB r_QI r_OW (fun v2 m1 hV_m1 p0_m1 p1_m1 => zmi_n ?_)
        have p0_m1 : v2.toInt = -1 ∨ ((l4 + (m 94 84)).toInt ≤ v2.toInt ∧ v2.toInt < l3.toInt ∧ 1 ≤ (m1 94 84).toInt ∧ v2.toInt + (m1 94 84).toInt ≤ l3.toInt) := p0_m1
        have p1_m1 : qBF aa (l4 + (m 94 84)).toInt (m 94 11).toInt v2.toInt (m1 94 84).toInt := p1_m1
        have f16 : 0 ≤ (m1 94 84).toInt ∧ (m1 94 84).toInt ≤ 4600 := rs_94_84 (m := (zov wr_226 (ma_u m 94 50 ((m 94 50) + (1 : Int32))) m1)) hV_m1
        try have fg := (FF_gd r_FF (by omega))
        have b17 := i_bd v2
        exact IH (4700 - v2.toInt % 4701).toNat (by omega) _ (l1) (l3) (v2) rfl (zF_zov (zF_u hF rfl) ws_226_225) hV_m1 (show l3.toInt = (m 94 11).toInt from by omega) (by omega) (show v2.toInt = -1 ∨ (0 ≤ v2.toInt ∧ v2.toInt < l3.toInt ∧ 1 ≤ (m1 94 84).toInt ∧ v2.toInt + (m1 94 84).toInt ≤ l3.toInt) from by omega) (show qFF aa nz.toInt (m 94 11).toInt (m 94 11).toInt v2.toInt (m1 94 84).toInt (aFf aa nz.toInt (m 94 11).toInt 4500 (aN aa f.toInt)) from by first | (exact FF_of r_QI r_RB (by omega) (by omega) p1_m1 rfl) | (exact FF_go r_QI r_RB (by omega) (by omega) (by omega) r_FF (by omega) (by omega) (by omega) p1_m1) | (exfalso; omega; done) | (exfalso; contradiction; done)) r_RB r_QI r_OW
      · skip
        have g18 := i_nlt h10
        try have fg := (FF_gd r_FF (by omega))
        have hV19 : zV (ma_u m 94 50 ((m 94 50) + (1 : Int32))) := uf_94_50 hV
        exact K (l4) _ (zF_u hF rfl) hV19 (show -1 ≤ l4.toInt ∧ l4.toInt ≤ 1500 from by omega) (show l4.toInt = aFf aa nz.toInt (m 94 11).toInt 4500 (aN aa f.toInt) from by first | (exact FF_y r_FF (by omega) (by omega) (by omega)) | (exact FF_n r_FF (Or.inl (by omega))) | (exfalso; omega; done) | (exfalso; contradiction; done))
theorem sp_225r {X : Nat × (Nat → Int32)} {P : Option ma_V → (Nat → Nat → Int32) → Prop} {aa : Nat→Nat→Int32} {m : Nat → Nat → Int32} (nz : Int32) (f : Int32) (e : Int32) (hV : zV m) (hpre0 : 0 ≤ f.toInt ∧ f.toInt ≤ (m 94 11).toInt) (hpre1 : e.toInt = (m 94 11).toInt) (r_GD : qGd aa f.toInt) (r_RB : qRB (m 99) (m 100) (m 98) (m 101) (m 102) (m 103) (m 107) (m 108) (m 109) (m 111) (m 112) (m 113) (m 114) (m 94 55) (m 94 46) (m 94 11) (m 94 12) (m 94 62) (m 94 17) (m 94 9) aa) (r_QI : qI aa) (r_OW : zOw (m 99) (m 103) (m 111)) (KZ : ∀ v m₉, zV (zov wr_225 m m₉) → (-1 ≤ v.toInt ∧ v.toInt ≤ 1500) → (v.toInt = aFf aa nz.toInt (m 94 11).toInt 4500 (aN aa f.toInt)) → P (some (.inl v)) (zov wr_225 m m₉)) : zm X 2 45 225 0 [(0, .inr (.inr (some 94))), (1, .inl nz), (2, .inl f), (3, .inl e)] m P := by
  have K : ∀ v m₉, zF wr_225 m m₉ → zV m₉ → (-1 ≤ v.toInt ∧ v.toInt ≤ 1500) → (v.toInt = aFf aa nz.toInt (m₉ 94 11).toInt 4500 (aN aa f.toInt)) → P (some (.inl v)) m₉ := by
    intro v m₉ hf z q0 q1
    have e := zov_eq hf
    rw [e] at z ⊢
    try rw [e] at q0
    try rw [e] at q1
    exact KZ v m₉ z q0 q1
  refine g_225_0 nz f e ?_
  have f1 : 0 ≤ (m 94 11).toInt ∧ (m 94 11).toInt ≤ 1500 := rs_94_11 (m := m) hV
  have b2 := i_bd f
  have b3 := i_bd e
  refine sp_226r (aa := aa) (f) (e) hV (show 0 ≤ f.toInt ∧ f.toInt ≤ (m 94 11).toInt from by omega) (show e.toInt = (m 94 11).toInt from by omega) r_GD r_RB r_QI r_OW (fun v2 m1 hV_m1 p0_m1 p1_m1 => zmi_n ?_)
  have p0_m1 : v2.toInt = -1 ∨ (f.toInt ≤ v2.toInt ∧ v2.toInt < e.toInt ∧ 1 ≤ (m1 94 84).toInt ∧ v2.toInt + (m1 94 84).toInt ≤ e.toInt) := p0_m1
  have p1_m1 : qBF aa f.toInt (m 94 11).toInt v2.toInt (m1 94 84).toInt := p1_m1
  have f4 : 0 ≤ (m1 94 84).toInt ∧ (m1 94 84).toInt ≤ 4600 := rs_94_84 (m := (zov wr_226 m m1)) hV_m1
  have b5 := i_bd nz
  have b6 := i_bd v2
  exact lp_225r_8 (nz := nz) (f := f) (e := e) hV K _ _ (nz) (e) (v2) rfl (zF_zov zF_rfl ws_226_225) hV_m1 (show e.toInt = (m 94 11).toInt from by omega) (by omega) (show v2.toInt = -1 ∨ (0 ≤ v2.toInt ∧ v2.toInt < e.toInt ∧ 1 ≤ (m1 94 84).toInt ∧ v2.toInt + (m1 94 84).toInt ≤ e.toInt) from by omega) (show qFF aa nz.toInt (m 94 11).toInt (m 94 11).toInt v2.toInt (m1 94 84).toInt (aFf aa nz.toInt (m 94 11).toInt 4500 (aN aa f.toInt)) from by first | (exact FF_of r_QI r_RB (by omega) (by omega) p1_m1 rfl) | (exfalso; omega; done) | (exfalso; contradiction; done)) r_RB r_QI r_OW
theorem lp_228r_10 {X : Nat × (Nat → Int32)} {P : Option ma_V → (Nat → Nat → Int32) → Prop} {aa : Nat→Nat→Int32} {nz : Int32} {e : Int32} {m0 : Nat → Nat → Int32} (h0 : zV m0) (K : ∀ v m₉, zF wr_228 m0 m₉ → zV m₉ → (-1 ≤ v.toInt ∧ v.toInt ≤ 1500) → (v.toInt = aFf aa nz.toInt e.toInt 4500 (aN aa 0)) → P (some (.inl v)) m₉) : ∀ (n : Nat) (m : Nat → Nat → Int32) (l1 : Int32) (l2 : Int32) (l3 : Int32), (4700 - l3.toInt % 4701).toNat = n → zF wr_228 m0 m → zV m → (l1.toInt = nz.toInt) → (l2.toInt = e.toInt) → (l2.toInt ≤ (m 94 11).toInt) → (l3.toInt = -1 ∨ (0 ≤ l3.toInt ∧ l3.toInt < (m 94 11).toInt ∧ 1 ≤ (m 94 84).toInt ∧ l3.toInt + (m 94 84).toInt ≤ (m 94 11).toInt)) → (qFF aa nz.toInt e.toInt (m 94 11).toInt l3.toInt (m 94 84).toInt (aFf aa nz.toInt e.toInt 4500 (aN aa 0))) → (qRB (m 99) (m 100) (m 98) (m 101) (m 102) (m 103) (m 107) (m 108) (m 109) (m 111) (m 112) (m 113) (m 114) (m 94 55) (m 94 46) (m 94 11) (m 94 12) (m 94 62) (m 94 17) (m 94 9) aa) → (qI aa) → (zOw (m 99) (m 103) (m 111)) → zm X 2 45 228 10 [(0, .inr (.inr (some 94))), (1, .inl l1), (2, .inl l2), (3, .inl l3)] m P := by
  intro n
  induction n using Nat.strongRecOn with
  | _ n IH =>
    intro m l1 l2 l3 hmu hF hV hi0 hi1 hi2 hi3 r_FF r_RB r_QI r_OW
    refine g_228_10 l1 l2 l3 ?_
    have f1 : 0 ≤ (m 94 11).toInt ∧ (m 94 11).toInt ≤ 1500 := rs_94_11 (m := m) hV
    have f2 : 0 ≤ (m 94 84).toInt ∧ (m 94 84).toInt ≤ 4600 := rs_94_84 (m := m) hV
    have b3 := i_bd l3
    have li4 : (0 : Int32).toInt = 0 := rfl
    refine zd (fun (h5 : l3 < (0 : Int32)) => ?_) (fun (h5 : ¬ l3 < (0 : Int32)) => ?_)
    · skip
      have g6 := i_lt h5
      try have fg := (FF_gd r_FF (by omega))
      have li7 : (-1 : Int32).toInt = -1 := rfl
      exact K ((-1 : Int32)) _ hF hV (show -1 ≤ (-1 : Int32).toInt ∧ (-1 : Int32).toInt ≤ 1500 from by omega) (show (-1 : Int32).toInt = aFf aa nz.toInt e.toInt 4500 (aN aa 0) from by first | (exact FF_y r_FF (by omega) (by omega) (by omega)) | (exact FF_n r_FF (Or.inl (by omega))) | (exact FF_n r_FF (Or.inr (by omega))) | (exfalso; omega; done) | (exfalso; contradiction; done))
    · skip
      have g8 := i_nlt h5
      have b9 := i_bd l2
      refine zd (fun (h10 : l2 ≤ l3) => ?_) (fun (h10 : ¬ l2 ≤ l3) => ?_)
      · skip
        have g11 := i_le h10
        try have fg := (FF_gd r_FF (by omega))
        have li12 : (-1 : Int32).toInt = -1 := rfl
        exact K ((-1 : Int32)) _ hF hV (show -1 ≤ (-1 : Int32).toInt ∧ (-1 : Int32).toInt ≤ 1500 from by omega) (show (-1 : Int32).toInt = aFf aa nz.toInt e.toInt 4500 (aN aa 0) from by first | (exact FF_y r_FF (by omega) (by omega) (by omega)) | (exact FF_n r_FF (Or.inl (by omega))) | (exact FF_n r_FF (Or.inr (by omega))) | (exfalso; omega; done) | (exfalso; contradiction; done))
      · skip
        have g13 := i_nle h10
        have b14 := i_bd l1
        refine zd (fun (h15 : (m 94 84) < l1) => ?_) (fun (h15 : ¬ (m 94 84) < l1) => ?_)
        · skip
          have g16 := i_lt h15
          first | have e17 : (l3 + (m 94 84)).toInt = l3.toInt + (m 94 84).toInt := i_add (by omega) (by omega) | have b18 := i_bd (l3 + (m 94 84))
          have hV19 : zV (ma_u m 94 50 ((m 94 50) + (1 : Int32))) := uf_94_50 hV
          try have fg := (FF_gd r_FF (by omega))
          refine sp_226r (aa := aa) ((l3 + (m 94 84))) ((m 94 11)) hV19 (show 0 ≤ (l3 + (m 94 84)).toInt ∧ (l3 + (m 94 84)).toInt ≤ (m 94 11).toInt from by omega) (show (m 94 11).toInt = (m 94 11).toInt from by omega) (show qGd aa (l3 + (m 94 84)).toInt from by first | (exact Gd_0 r_QI) | (exact Gd_c (FF_gd r_FF (by omega)).1 (by omega)) | (exfalso; omega; done) | (exfalso; contradiction; done)) r_RB r_QI r_OW (fun v2 m1 hV_m1 p0_m1 p1_m1 => zmi_n ?_)
          have p0_m1 : v2.toInt = -1 ∨ ((l3 + (m 94 84)).toInt ≤ v2.toInt ∧ v2.toInt < (m 94 11).toInt ∧ 1 ≤ (m1 94 84).toInt ∧ v2.toInt + (m1 94 84).toInt ≤ (m 94 11).toInt) := p0_m1
          have p1_m1 : qBF aa (l3 + (m 94 84)).toInt (m 94 11).toInt v2.toInt (m1 94 84).toInt := p1_m1
          have f20 : 0 ≤ (m1 94 84).toInt ∧ (m1 94 84).toInt ≤ 4600 := rs_94_84 (m := (zov wr_226 (ma_u m 94 50 ((m 94 50) + (1 : Int32))) m1)) hV_m1
          try have fg := (FF_gd r_FF (by omega))
          have b21 := i_bd v2
          exact IH (4700 - v2.toInt % 4701).toNat (by omega) _ (l1) (l2) (v2) rfl (zF_zov (zF_u hF rfl) ws_226_228) hV_m1 (by omega) (by omega) (show l2.toInt ≤ (m 94 11).toInt from by omega) (show v2.toInt = -1 ∨ (0 ≤ v2.toInt ∧ v2.toInt < (m 94 11).toInt ∧ 1 ≤ (m1 94 84).toInt ∧ v2.toInt + (m1 94 84).toInt ≤ (m 94 11).toInt) from by omega) (show qFF aa nz.toInt e.toInt (m 94 11).toInt v2.toInt (m1 94 84).toInt (aFf aa nz.toInt e.toInt 4500 (aN aa 0)) from by first | (exact FF_of r_QI r_RB (by omega) (by omega) p1_m1 rfl) | (exact FF_go r_QI r_RB (by omega) (by omega) (by omega) r_FF (by omega) (by omega) (by omega) p1_m1) | (exfalso; omega; done) | (exfalso; contradiction; done)) r_RB r_QI r_OW
        · skip
          have g22 := i_nlt h15
          try have fg := (FF_gd r_FF (by omega))
          have hV23 : zV (ma_u m 94 50 ((m 94 50) + (1 : Int32))) := uf_94_50 hV
          exact K (l3) _ (zF_u hF rfl) hV23 (show -1 ≤ l3.toInt ∧ l3.toInt ≤ 1500 from by omega) (show l3.toInt = aFf aa nz.toInt e.toInt 4500 (aN aa 0) from by first | (exact FF_y r_FF (by omega) (by omega) (by omega)) | (exact FF_n r_FF (Or.inl (by omega))) | (exact FF_n r_FF (Or.inr (by omega))) | (exfalso; omega; done) | (exfalso; contradiction; done))
theorem sp_228r {X : Nat × (Nat → Int32)} {P : Option ma_V → (Nat → Nat → Int32) → Prop} {aa : Nat→Nat→Int32} {m : Nat → Nat → Int32} (nz : Int32) (e : Int32) (hV : zV m) (hpre0 : e.toInt ≤ (m 94 11).toInt) (r_RB : qRB (m 99) (m 100) (m 98) (m 101) (m 102) (m 103) (m 107) (m 108) (m 109) (m 111) (m 112) (m 113) (m 114) (m 94 55) (m 94 46) (m 94 11) (m 94 12) (m 94 62) (m 94 17) (m 94 9) aa) (r_QI : qI aa) (r_OW : zOw (m 99) (m 103) (m 111)) (KZ : ∀ v m₉, zV (zov wr_228 m m₉) → (-1 ≤ v.toInt ∧ v.toInt ≤ 1500) → (v.toInt = aFf aa nz.toInt e.toInt 4500 (aN aa 0)) → P (some (.inl v)) (zov wr_228 m m₉)) : zm X 2 45 228 0 [(0, .inr (.inr (some 94))), (1, .inl nz), (2, .inl e)] m P := by
  have K : ∀ v m₉, zF wr_228 m m₉ → zV m₉ → (-1 ≤ v.toInt ∧ v.toInt ≤ 1500) → (v.toInt = aFf aa nz.toInt e.toInt 4500 (aN aa 0)) → P (some (.inl v)) m₉ := by
    intro v m₉ hf z q0 q1
    have e := zov_eq hf
    rw [e] at z ⊢
    try rw [e] at q0
    try rw [e] at q1
    exact KZ v m₉ z q0 q1
  refine g_228_0 nz e ?_
  have f1 : 0 ≤ (m 94 11).toInt ∧ (m 94 11).toInt ≤ 1500 := rs_94_11 (m := m) hV
  have li2 : (0 : Int32).toInt = 0 := rfl
  refine sp_226r (aa := aa) ((0 : Int32)) ((m 94 11)) hV (show 0 ≤ (0 : Int32).toInt ∧ (0 : Int32).toInt ≤ (m 94 11).toInt from by omega) (show (m 94 11).toInt = (m 94 11).toInt from by omega) (show qGd aa (0 : Int32).toInt from by first | (exact Gd_0 r_QI) | (exfalso; omega; done) | (exfalso; contradiction; done)) r_RB r_QI r_OW (fun v2 m1 hV_m1 p0_m1 p1_m1 => zmi_n ?_)
  have p0_m1 : v2.toInt = -1 ∨ ((0 : Int32).toInt ≤ v2.toInt ∧ v2.toInt < (m 94 11).toInt ∧ 1 ≤ (m1 94 84).toInt ∧ v2.toInt + (m1 94 84).toInt ≤ (m 94 11).toInt) := p0_m1
  have p1_m1 : qBF aa (0 : Int32).toInt (m 94 11).toInt v2.toInt (m1 94 84).toInt := p1_m1
  have f3 : 0 ≤ (m1 94 84).toInt ∧ (m1 94 84).toInt ≤ 4600 := rs_94_84 (m := (zov wr_226 m m1)) hV_m1
  have b4 := i_bd nz
  have b5 := i_bd e
  have b6 := i_bd v2
  exact lp_228r_10 (nz := nz) (e := e) hV K _ _ (nz) (e) (v2) rfl (zF_zov zF_rfl ws_226_228) hV_m1 (by omega) (by omega) (show e.toInt ≤ (m 94 11).toInt from by omega) (show v2.toInt = -1 ∨ (0 ≤ v2.toInt ∧ v2.toInt < (m 94 11).toInt ∧ 1 ≤ (m1 94 84).toInt ∧ v2.toInt + (m1 94 84).toInt ≤ (m 94 11).toInt) from by omega) (show qFF aa nz.toInt e.toInt (m 94 11).toInt v2.toInt (m1 94 84).toInt (aFf aa nz.toInt e.toInt 4500 (aN aa 0)) from by first | (exact FF_of r_QI r_RB (by omega) (by omega) p1_m1 rfl) | (exfalso; omega; done) | (exfalso; contradiction; done)) r_RB r_QI r_OW
theorem lp_227r_2 {X : Nat × (Nat → Int32)} {P : Option ma_V → (Nat → Nat → Int32) → Prop} {aa : Nat→Nat→Int32} {p : Int32} {m0 : Nat → Nat → Int32} (h0 : zV m0) (K : ∀ v m₉, zF wr_227 m0 m₉ → zV m₉ → (v.toInt = p.toInt) → P (some (.inl v)) m₉) : ∀ (n : Nat) (m : Nat → Nat → Int32) (l1 : Int32) (l2 : Int32), (1600 - l2.toInt).toNat = n → zF wr_227 m0 m → zV m → (0 ≤ l2.toInt) → (l1.toInt = p.toInt) → (l2.toInt ≤ l1.toInt) → (l1.toInt ≤ (m 94 11).toInt) → (qGd aa l1.toInt) → (qGd aa l2.toInt) → (qRB (m 99) (m 100) (m 98) (m 101) (m 102) (m 103) (m 107) (m 108) (m 109) (m 111) (m 112) (m 113) (m 114) (m 94 55) (m 94 46) (m 94 11) (m 94 12) (m 94 62) (m 94 17) (m 94 9) aa) → (qI aa) → (zOw (m 99) (m 103) (m 111)) → zm X 1 21 227 2 [(0, .inr (.inr (some 94))), (1, .inl l1), (2, .inl l2)] m P := by
  intro n
  induction n using Nat.strongRecOn with
  | _ n IH =>
    intro m l1 l2 hmu hF hV hi0 hi1 hi2 hi3 r_GZ r_GD r_RB r_QI r_OW
    refine g_227_2 l1 l2 ?_
    have f1 : 0 ≤ (m 94 11).toInt ∧ (m 94 11).toInt ≤ 1500 := rs_94_11 (m := m) hV
    have b2 := i_bd l1
    have b3 := i_bd l2
    refine zd (fun (h4 : l1 ≤ l2) => ?_) (fun (h4 : ¬ l1 ≤ l2) => ?_)
    · skip
      have g5 := i_le h4
      try have so := SO_s2 r_QI r_RB r_OW r_GD (by omega) (by omega) (by omega) r_GZ (by omega) (by omega) (by omega)
      exact K (l2) _ hF hV (show l2.toInt = p.toInt from by omega)
    · skip
      have g6 := i_nle h4
      have hg7 : (0 ≤ l2 ∧ l2.toNatClampNeg < 4600) := i_ix (by omega) (by omega)
      refine ⟨hg7, ?_⟩
      first | have f8 : -1 ≤ (m 111 l2.toNatClampNeg).toInt ∧ (m 111 l2.toNatClampNeg).toInt ≤ 3099 := ra_111 (m := m) hV (k := l2.toNatClampNeg) (i_ix (n := 4600) (by omega) (by omega)).2 | have b9 := i_bd (m 111 l2.toNatClampNeg)
      have li10 : (0 : Int32).toInt = 0 := rfl
      refine zd (fun (h11 : (m 111 l2.toNatClampNeg) < (0 : Int32)) => ?_) (fun (h11 : ¬ (m 111 l2.toNatClampNeg) < (0 : Int32)) => ?_)
      · skip
        have g12 := i_lt h11
        try have so := SO_s2 r_QI r_RB r_OW r_GD (by omega) (by omega) (by omega) r_GZ (by omega) (by omega) (by omega)
        first | have e13 : (l2 + (1 : Int32)).toInt = l2.toInt + (1) := i_addk rfl (by omega) (by omega) | have b14 := i_bd (l2 + (1 : Int32))
        exact IH (1600 - (l2 + (1 : Int32)).toInt).toNat (by omega) _ (l1) ((l2 + (1 : Int32))) rfl hF hV (by omega) (by omega) (by omega) (show l1.toInt ≤ (m 94 11).toInt from by omega) r_GZ (show qGd aa (l2 + (1 : Int32)).toInt from by first | (exact Gd_0 r_QI) | (exact (SO_st r_QI r_RB r_OW r_GD (by omega) (by omega) (by omega) r_GZ (by omega) (by omega) (by omega) (by omega)).2) | (exact Gd_c (Gd_s r_QI r_GD (BF_fr r_QI r_RB r_GD (by omega) (by omega) (by omega)) (by omega) (by omega)) (by omega)) | (exfalso; omega; done) | (exfalso; contradiction; done)) r_RB r_QI r_OW
      · skip
        have g15 := i_nlt h11
        have hg16 : (0 ≤ l2 ∧ l2.toNatClampNeg < 4600) := i_ix (by omega) (by omega)
        refine ⟨hg16, ?_⟩
        have hg17 : (0 ≤ (m 111 l2.toNatClampNeg) ∧ (m 111 l2.toNatClampNeg).toNatClampNeg < 3100) := i_ix (by omega) (by omega)
        refine ⟨hg17, ?_⟩
        try have so := SO_s2 r_QI r_RB r_OW r_GD (by omega) (by omega) (by omega) r_GZ (by omega) (by omega) (by omega)
        first | have f18 : 0 ≤ (m 102 (m 111 l2.toNatClampNeg).toNatClampNeg).toInt ∧ (m 102 (m 111 l2.toNatClampNeg).toNatClampNeg).toInt ≤ 60 := ra_102 (m := m) hV (k := (m 111 l2.toNatClampNeg).toNatClampNeg) (i_ix (n := 3100) (by omega) (by omega)).2 | have b19 := i_bd (m 102 (m 111 l2.toNatClampNeg).toNatClampNeg)
        first | have e20 : ((m 102 (m 111 l2.toNatClampNeg).toNatClampNeg) + (1 : Int32)).toInt = (m 102 (m 111 l2.toNatClampNeg).toNatClampNeg).toInt + (1) := i_addk rfl (by omega) (by omega) | have b21 := i_bd ((m 102 (m 111 l2.toNatClampNeg).toNatClampNeg) + (1 : Int32))
        first | have e22 : (l2 + ((m 102 (m 111 l2.toNatClampNeg).toNatClampNeg) + (1 : Int32))).toInt = l2.toInt + ((m 102 (m 111 l2.toNatClampNeg).toNatClampNeg) + (1 : Int32)).toInt := i_add (by omega) (by omega) | have b23 := i_bd (l2 + ((m 102 (m 111 l2.toNatClampNeg).toNatClampNeg) + (1 : Int32)))
        exact IH (1600 - (l2 + ((m 102 (m 111 l2.toNatClampNeg).toNatClampNeg) + (1 : Int32))).toInt).toNat (by omega) _ (l1) ((l2 + ((m 102 (m 111 l2.toNatClampNeg).toNatClampNeg) + (1 : Int32)))) rfl hF hV (by omega) (by omega) (by omega) (show l1.toInt ≤ (m 94 11).toInt from by omega) r_GZ (show qGd aa (l2 + ((m 102 (m 111 l2.toNatClampNeg).toNatClampNeg) + (1 : Int32))).toInt from by first | (exact Gd_0 r_QI) | (exact (SO_st r_QI r_RB r_OW r_GD (by omega) (by omega) (by omega) r_GZ (by omega) (by omega) (by omega) (by omega)).2) | (exact Gd_c (Gd_s r_QI r_GD (BF_fr r_QI r_RB r_GD (by omega) (by omega) (by omega)) (by omega) (by omega)) (by omega)) | (exfalso; omega; done) | (exfalso; contradiction; done)) r_RB r_QI r_OW
theorem sp_227r {X : Nat × (Nat → Int32)} {P : Option ma_V → (Nat → Nat → Int32) → Prop} {aa : Nat→Nat→Int32} {m : Nat → Nat → Int32} (p : Int32) (hV : zV m) (hpre0 : 0 ≤ p.toInt) (hpre1 : p.toInt ≤ (m 94 11).toInt) (r_GZ : qGd aa p.toInt) (r_RB : qRB (m 99) (m 100) (m 98) (m 101) (m 102) (m 103) (m 107) (m 108) (m 109) (m 111) (m 112) (m 113) (m 114) (m 94 55) (m 94 46) (m 94 11) (m 94 12) (m 94 62) (m 94 17) (m 94 9) aa) (r_QI : qI aa) (r_OW : zOw (m 99) (m 103) (m 111)) (KZ : ∀ v m₉, zV (zov wr_227 m m₉) → (v.toInt = p.toInt) → P (some (.inl v)) (zov wr_227 m m₉)) : zm X 1 21 227 0 [(0, .inr (.inr (some 94))), (1, .inl p)] m P := by
  have K : ∀ v m₉, zF wr_227 m m₉ → zV m₉ → (v.toInt = p.toInt) → P (some (.inl v)) m₉ := by
    intro v m₉ hf z q0
    have e := zov_eq hf
    rw [e] at z ⊢
    try rw [e] at q0
    exact KZ v m₉ z q0
  refine g_227_0 p ?_
  have f1 : 0 ≤ (m 94 11).toInt ∧ (m 94 11).toInt ≤ 1500 := rs_94_11 (m := m) hV
  have b2 := i_bd p
  have li3 : (0 : Int32).toInt = 0 := rfl
  exact lp_227r_2 (p := p) hV K _ _ (p) ((0 : Int32)) rfl zF_rfl hV (by omega) (by omega) (by omega) (show p.toInt ≤ (m 94 11).toInt from by omega) r_GZ (show qGd aa (0 : Int32).toInt from by first | (exact Gd_0 r_QI) | (exfalso; omega; done) | (exfalso; contradiction; done)) r_RB r_QI r_OW

/-! from 95.h05 -/
/-! the reference by numbers (written by wip/tools/gen18r.py) -/
theorem lp_224r_76 {X : Nat × (Nat → Int32)} {P : Option ma_V → (Nat → Nat → Int32) → Prop} {aa : Nat→Nat→Int32} {nz : Int32} {m0 : Nat → Nat → Int32} (h0 : zV m0) (K : ∀ v m₉, zF wr_224 m0 m₉ → zV m₉ → (-1 ≤ v.toInt ∧ v.toInt ≤ 1500) → (qEq v.toInt (aFt aa nz.toInt)) → P (some (.inl v)) m₉) : ∀ (n : Nat) (m : Nat → Nat → Int32) (l1 : Int32) (l2 : Int32) (l3 : Int32) (l4 : Int32), (4700 - l4.toInt % 4701).toNat = n → zF wr_224 m0 m → zV m → (l1.toInt = nz.toInt) → (-1 ≤ l2.toInt) → (l2.toInt ≤ 1500) → (l4.toInt = -1 ∨ (0 ≤ l4.toInt ∧ l4.toInt < (m 94 11).toInt ∧ 1 ≤ (m 94 84).toInt ∧ l4.toInt + (m 94 84).toInt ≤ (m 94 11).toInt)) → (qFL aa nz.toInt (m 94 12) (m 94 11).toInt l4.toInt (m 94 84).toInt l2.toInt l3.toInt (aFt aa nz.toInt)) → (qRB (m 99) (m 100) (m 98) (m 101) (m 102) (m 103) (m 107) (m 108) (m 109) (m 111) (m 112) (m 113) (m 114) (m 94 55) (m 94 46) (m 94 11) (m 94 12) (m 94 62) (m 94 17) (m 94 9) aa) → (qI aa) → (zOw (m 99) (m 103) (m 111)) → zm X 3 69 224 76 [(0, .inr (.inr (some 94))), (1, .inl l1), (2, .inl l2), (3, .inl l3), (4, .inl l4)] m P := by
  intro n
  induction n using Nat.strongRecOn with
  | _ n IH =>
    intro m l1 l2 l3 l4 hmu hF hV hi0 hi1 hi2 hi3 r_FL r_RB r_QI r_OW
    refine g_224_76 l1 l2 l3 l4 ?_
    have f1 : 0 ≤ (m 94 11).toInt ∧ (m 94 11).toInt ≤ 1500 := rs_94_11 (m := m) hV
    have f2 : 0 ≤ (m 94 84).toInt ∧ (m 94 84).toInt ≤ 4600 := rs_94_84 (m := m) hV
    have b3 := i_bd l4
    have li4 : (0 : Int32).toInt = 0 := rfl
    refine zd (fun (h5 : l4 < (0 : Int32)) => ?_) (fun (h5 : ¬ l4 < (0 : Int32)) => ?_)
    · skip
      have g6 := i_lt h5
      try have fg := (FL_gd r_FL (by omega))
      try have r2 := congrArg Int32.toInt (RB_le r_RB)
      try have r0 := congrArg Int32.toInt (RB_ro r_RB)
      try have i4 := r_QI.2.2.2.1.2.2.2.1
      have b7 := i_bd l2
      exact K (l2) _ hF hV (show -1 ≤ l2.toInt ∧ l2.toInt ≤ 1500 from by omega) (show qEq l2.toInt (aFt aa nz.toInt) from by first | (exact FL_e r_FL (by omega)) | (exfalso; omega; done) | (exfalso; contradiction; done))
    · skip
      have g8 := i_nlt h5
      have b9 := i_bd l1
      refine zd (fun (h10 : (m 94 84) < l1) => ?_) (fun (h10 : ¬ (m 94 84) < l1) => ?_)
      · skip
        have g11 := i_lt h10
        first | have e12 : (l4 + (m 94 84)).toInt = l4.toInt + (m 94 84).toInt := i_add (by omega) (by omega) | have b13 := i_bd (l4 + (m 94 84))
        have hV14 : zV (ma_u m 94 50 ((m 94 50) + (1 : Int32))) := uf_94_50 hV
        try have fg := (FL_gd r_FL (by omega))
        try have r2 := congrArg Int32.toInt (RB_le r_RB)
        try have r0 := congrArg Int32.toInt (RB_ro r_RB)
        try have i4 := r_QI.2.2.2.1.2.2.2.1
        refine sp_226r (aa := aa) ((l4 + (m 94 84))) ((m 94 11)) hV14 (show 0 ≤ (l4 + (m 94 84)).toInt ∧ (l4 + (m 94 84)).toInt ≤ (m 94 11).toInt from by omega) (show (m 94 11).toInt = (m 94 11).toInt from by omega) (show qGd aa (l4 + (m 94 84)).toInt from by first | (exact Gd_0 r_QI) | (exact Gd_c r_QI.2.2.2.1.2.2.2.2.1 (by omega)) | (exact Gd_c (FL_gd r_FL (by omega)).1 (by omega)) | (exfalso; omega; done) | (exfalso; contradiction; done)) r_RB r_QI r_OW (fun v2 m1 hV_m1 p0_m1 p1_m1 => zmi_n ?_)
        have p0_m1 : v2.toInt = -1 ∨ ((l4 + (m 94 84)).toInt ≤ v2.toInt ∧ v2.toInt < (m 94 11).toInt ∧ 1 ≤ (m1 94 84).toInt ∧ v2.toInt + (m1 94 84).toInt ≤ (m 94 11).toInt) := p0_m1
        have p1_m1 : qBF aa (l4 + (m 94 84)).toInt (m 94 11).toInt v2.toInt (m1 94 84).toInt := p1_m1
        have f15 : 0 ≤ (m1 94 84).toInt ∧ (m1 94 84).toInt ≤ 4600 := rs_94_84 (m := (zov wr_226 (ma_u m 94 50 ((m 94 50) + (1 : Int32))) m1)) hV_m1
        try have fg := (FL_gd r_FL (by omega))
        try have r2 := congrArg Int32.toInt (RB_le r_RB)
        try have r0 := congrArg Int32.toInt (RB_ro r_RB)
        try have i4 := r_QI.2.2.2.1.2.2.2.1
        have b16 := i_bd l2
        have b17 := i_bd l3
        have b18 := i_bd v2
        exact IH (4700 - v2.toInt % 4701).toNat (by omega) _ (l1) (l2) (l3) (v2) rfl (zF_zov (zF_u hF rfl) ws_226_224) hV_m1 (by omega) (by omega) (by omega) (show v2.toInt = -1 ∨ (0 ≤ v2.toInt ∧ v2.toInt < (m 94 11).toInt ∧ 1 ≤ (m1 94 84).toInt ∧ v2.toInt + (m1 94 84).toInt ≤ (m 94 11).toInt) from by omega) (show qFL aa nz.toInt (m 94 12) (m 94 11).toInt v2.toInt (m1 94 84).toInt l2.toInt l3.toInt (aFt aa nz.toInt) from by first | (exact FL_of r_QI r_RB (by omega) p1_m1 (by rw [Ft_2 (by rw [RB_fo r_RB]; assumption) (by rw [RB_fo r_RB]; assumption), RB_fo r_RB]; rfl)) | (exact FL_y r_QI r_RB (by omega) (by omega) r_FL (by omega) (Or.inl (by omega)) (by omega) (by omega) p1_m1) | (exact FL_y r_QI r_RB (by omega) (by omega) r_FL (by omega) (Or.inr (Or.inl ⟨by assumption, by omega⟩)) (by omega) (by omega) p1_m1) | (exact FL_y r_QI r_RB (by omega) (by omega) r_FL (by omega) (Or.inr (Or.inr ⟨by assumption, by omega⟩)) (by omega) (by omega) p1_m1) | (exact FL_n r_QI r_RB (by omega) (by omega) r_FL (Or.inl (by omega)) (by omega) p1_m1) | (exact FL_n r_QI r_RB (by omega) (by omega) r_FL (Or.inr ⟨by omega, Or.inl ⟨by assumption, by omega⟩⟩) (by omega) p1_m1) | (exact FL_n r_QI r_RB (by omega) (by omega) r_FL (Or.inr ⟨by omega, Or.inr ⟨by assumption, by omega⟩⟩) (by omega) p1_m1) | (exfalso; omega; done) | (exfalso; contradiction; done)) r_RB r_QI r_OW
      · skip
        have g19 := i_nlt h10
        have b20 := i_bd l2
        refine zd (fun (h21 : l2 < (0 : Int32)) => ?_) (fun (h21 : ¬ l2 < (0 : Int32)) => ?_)
        · skip
          have g22 := i_lt h21
          first | have e23 : (l4 + (m 94 84)).toInt = l4.toInt + (m 94 84).toInt := i_add (by omega) (by omega) | have b24 := i_bd (l4 + (m 94 84))
          have hV25 : zV (ma_u m 94 50 ((m 94 50) + (1 : Int32))) := uf_94_50 hV
          try have fg := (FL_gd r_FL (by omega))
          try have r2 := congrArg Int32.toInt (RB_le r_RB)
          try have r0 := congrArg Int32.toInt (RB_ro r_RB)
          try have i4 := r_QI.2.2.2.1.2.2.2.1
          refine sp_226r (aa := aa) ((l4 + (m 94 84))) ((m 94 11)) hV25 (show 0 ≤ (l4 + (m 94 84)).toInt ∧ (l4 + (m 94 84)).toInt ≤ (m 94 11).toInt from by omega) (show (m 94 11).toInt = (m 94 11).toInt from by omega) (show qGd aa (l4 + (m 94 84)).toInt from by first | (exact Gd_0 r_QI) | (exact Gd_c r_QI.2.2.2.1.2.2.2.2.1 (by omega)) | (exact Gd_c (FL_gd r_FL (by omega)).1 (by omega)) | (exfalso; omega; done) | (exfalso; contradiction; done)) r_RB r_QI r_OW (fun v4 m3 hV_m3 p0_m3 p1_m3 => zmi_n ?_)
          have p0_m3 : v4.toInt = -1 ∨ ((l4 + (m 94 84)).toInt ≤ v4.toInt ∧ v4.toInt < (m 94 11).toInt ∧ 1 ≤ (m3 94 84).toInt ∧ v4.toInt + (m3 94 84).toInt ≤ (m 94 11).toInt) := p0_m3
          have p1_m3 : qBF aa (l4 + (m 94 84)).toInt (m 94 11).toInt v4.toInt (m3 94 84).toInt := p1_m3
          have f26 : 0 ≤ (m3 94 84).toInt ∧ (m3 94 84).toInt ≤ 4600 := rs_94_84 (m := (zov wr_226 (ma_u m 94 50 ((m 94 50) + (1 : Int32))) m3)) hV_m3
          try have fg := (FL_gd r_FL (by omega))
          try have r2 := congrArg Int32.toInt (RB_le r_RB)
          try have r0 := congrArg Int32.toInt (RB_ro r_RB)
          try have i4 := r_QI.2.2.2.1.2.2.2.1
          have b27 := i_bd v4
          exact IH (4700 - v4.toInt % 4701).toNat (by omega) _ (l1) (l4) ((m 94 84)) (v4) rfl (zF_zov (zF_u hF rfl) ws_226_224) hV_m3 (by omega) (by omega) (by omega) (show v4.toInt = -1 ∨ (0 ≤ v4.toInt ∧ v4.toInt < (m 94 11).toInt ∧ 1 ≤ (m3 94 84).toInt ∧ v4.toInt + (m3 94 84).toInt ≤ (m 94 11).toInt) from by omega) (show qFL aa nz.toInt (m 94 12) (m 94 11).toInt v4.toInt (m3 94 84).toInt l4.toInt (m 94 84).toInt (aFt aa nz.toInt) from by first | (exact FL_of r_QI r_RB (by omega) p1_m3 (by rw [Ft_2 (by rw [RB_fo r_RB]; assumption) (by rw [RB_fo r_RB]; assumption), RB_fo r_RB]; rfl)) | (exact FL_y r_QI r_RB (by omega) (by omega) r_FL (by omega) (Or.inl (by omega)) (by omega) (by omega) p1_m3) | (exact FL_y r_QI r_RB (by omega) (by omega) r_FL (by omega) (Or.inr (Or.inl ⟨by assumption, by omega⟩)) (by omega) (by omega) p1_m3) | (exact FL_y r_QI r_RB (by omega) (by omega) r_FL (by omega) (Or.inr (Or.inr ⟨by assumption, by omega⟩)) (by omega) (by omega) p1_m3) | (exact FL_n r_QI r_RB (by omega) (by omega) r_FL (Or.inl (by omega)) (by omega) p1_m3) | (exact FL_n r_QI r_RB (by omega) (by omega) r_FL (Or.inr ⟨by omega, Or.inl ⟨by assumption, by omega⟩⟩) (by omega) p1_m3) | (exact FL_n r_QI r_RB (by omega) (by omega) r_FL (Or.inr ⟨by omega, Or.inr ⟨by assumption, by omega⟩⟩) (by omega) p1_m3) | (exfalso; omega; done) | (exfalso; contradiction; done)) r_RB r_QI r_OW
        · skip
          have g28 := i_nlt h21
          have b29 := i_bd (m 94 12)
          have li30 : (2 : Int32).toInt = 2 := rfl
          refine zd (fun (h31 : (m 94 12) = (2 : Int32)) => ?_) (fun (h31 : ¬ (m 94 12) = (2 : Int32)) => ?_)
          · skip
            have g32 := i_eq h31
            have b33 := i_bd l3
            refine zd (fun (h34 : (m 94 84) < l3) => ?_) (fun (h34 : ¬ (m 94 84) < l3) => ?_)
            · skip
              have g35 := i_lt h34
              first | have e36 : (l4 + (m 94 84)).toInt = l4.toInt + (m 94 84).toInt := i_add (by omega) (by omega) | have b37 := i_bd (l4 + (m 94 84))
              have hV38 : zV (ma_u m 94 50 ((m 94 50) + (1 : Int32))) := uf_94_50 hV
              try have fg := (FL_gd r_FL (by omega))
              try have r2 := congrArg Int32.toInt (RB_le r_RB)
              try have r0 := congrArg Int32.toInt (RB_ro r_RB)
              try have i4 := r_QI.2.2.2.1.2.2.2.1
              refine sp_226r (aa := aa) ((l4 + (m 94 84))) ((m 94 11)) hV38 (show 0 ≤ (l4 + (m 94 84)).toInt ∧ (l4 + (m 94 84)).toInt ≤ (m 94 11).toInt from by omega) (show (m 94 11).toInt = (m 94 11).toInt from by omega) (show qGd aa (l4 + (m 94 84)).toInt from by first | (exact Gd_0 r_QI) | (exact Gd_c r_QI.2.2.2.1.2.2.2.2.1 (by omega)) | (exact Gd_c (FL_gd r_FL (by omega)).1 (by omega)) | (exfalso; omega; done) | (exfalso; contradiction; done)) r_RB r_QI r_OW (fun v10 m9 hV_m9 p0_m9 p1_m9 => zmi_n ?_)
              have p0_m9 : v10.toInt = -1 ∨ ((l4 + (m 94 84)).toInt ≤ v10.toInt ∧ v10.toInt < (m 94 11).toInt ∧ 1 ≤ (m9 94 84).toInt ∧ v10.toInt + (m9 94 84).toInt ≤ (m 94 11).toInt) := p0_m9
              have p1_m9 : qBF aa (l4 + (m 94 84)).toInt (m 94 11).toInt v10.toInt (m9 94 84).toInt := p1_m9
              have f39 : 0 ≤ (m9 94 84).toInt ∧ (m9 94 84).toInt ≤ 4600 := rs_94_84 (m := (zov wr_226 (ma_u m 94 50 ((m 94 50) + (1 : Int32))) m9)) hV_m9
              try have fg := (FL_gd r_FL (by omega))
              try have r2 := congrArg Int32.toInt (RB_le r_RB)
              try have r0 := congrArg Int32.toInt (RB_ro r_RB)
              try have i4 := r_QI.2.2.2.1.2.2.2.1
              have b40 := i_bd v10
              exact IH (4700 - v10.toInt % 4701).toNat (by omega) _ (l1) (l4) ((m 94 84)) (v10) rfl (zF_zov (zF_u hF rfl) ws_226_224) hV_m9 (by omega) (by omega) (by omega) (show v10.toInt = -1 ∨ (0 ≤ v10.toInt ∧ v10.toInt < (m 94 11).toInt ∧ 1 ≤ (m9 94 84).toInt ∧ v10.toInt + (m9 94 84).toInt ≤ (m 94 11).toInt) from by omega) (show qFL aa nz.toInt (m 94 12) (m 94 11).toInt v10.toInt (m9 94 84).toInt l4.toInt (m 94 84).toInt (aFt aa nz.toInt) from by first | (exact FL_of r_QI r_RB (by omega) p1_m9 (by rw [Ft_2 (by rw [RB_fo r_RB]; assumption) (by rw [RB_fo r_RB]; assumption), RB_fo r_RB]; rfl)) | (exact FL_y r_QI r_RB (by omega) (by omega) r_FL (by omega) (Or.inl (by omega)) (by omega) (by omega) p1_m9) | (exact FL_y r_QI r_RB (by omega) (by omega) r_FL (by omega) (Or.inr (Or.inl ⟨by assumption, by omega⟩)) (by omega) (by omega) p1_m9) | (exact FL_y r_QI r_RB (by omega) (by omega) r_FL (by omega) (Or.inr (Or.inr ⟨by assumption, by omega⟩)) (by omega) (by omega) p1_m9) | (exact FL_n r_QI r_RB (by omega) (by omega) r_FL (Or.inl (by omega)) (by omega) p1_m9) | (exact FL_n r_QI r_RB (by omega) (by omega) r_FL (Or.inr ⟨by omega, Or.inl ⟨by assumption, by omega⟩⟩) (by omega) p1_m9) | (exact FL_n r_QI r_RB (by omega) (by omega) r_FL (Or.inr ⟨by omega, Or.inr ⟨by assumption, by omega⟩⟩) (by omega) p1_m9) | (exfalso; omega; done) | (exfalso; contradiction; done)) r_RB r_QI r_OW
            · skip
              have g41 := i_nlt h34
              first | have e42 : (l4 + (m 94 84)).toInt = l4.toInt + (m 94 84).toInt := i_add (by omega) (by omega) | have b43 := i_bd (l4 + (m 94 84))
              have hV44 : zV (ma_u m 94 50 ((m 94 50) + (1 : Int32))) := uf_94_50 hV
              try have fg := (FL_gd r_FL (by omega))
              try have r2 := congrArg Int32.toInt (RB_le r_RB)
              try have r0 := congrArg Int32.toInt (RB_ro r_RB)
              try have i4 := r_QI.2.2.2.1.2.2.2.1
              refine sp_226r (aa := aa) ((l4 + (m 94 84))) ((m 94 11)) hV44 (show 0 ≤ (l4 + (m 94 84)).toInt ∧ (l4 + (m 94 84)).toInt ≤ (m 94 11).toInt from by omega) (show (m 94 11).toInt = (m 94 11).toInt from by omega) (show qGd aa (l4 + (m 94 84)).toInt from by first | (exact Gd_0 r_QI) | (exact Gd_c r_QI.2.2.2.1.2.2.2.2.1 (by omega)) | (exact Gd_c (FL_gd r_FL (by omega)).1 (by omega)) | (exfalso; omega; done) | (exfalso; contradiction; done)) r_RB r_QI r_OW (fun v12 m11 hV_m11 p0_m11 p1_m11 => zmi_n ?_)
              have p0_m11 : v12.toInt = -1 ∨ ((l4 + (m 94 84)).toInt ≤ v12.toInt ∧ v12.toInt < (m 94 11).toInt ∧ 1 ≤ (m11 94 84).toInt ∧ v12.toInt + (m11 94 84).toInt ≤ (m 94 11).toInt) := p0_m11
              have p1_m11 : qBF aa (l4 + (m 94 84)).toInt (m 94 11).toInt v12.toInt (m11 94 84).toInt := p1_m11
              have f45 : 0 ≤ (m11 94 84).toInt ∧ (m11 94 84).toInt ≤ 4600 := rs_94_84 (m := (zov wr_226 (ma_u m 94 50 ((m 94 50) + (1 : Int32))) m11)) hV_m11
              try have fg := (FL_gd r_FL (by omega))
              try have r2 := congrArg Int32.toInt (RB_le r_RB)
              try have r0 := congrArg Int32.toInt (RB_ro r_RB)
              try have i4 := r_QI.2.2.2.1.2.2.2.1
              have b46 := i_bd v12
              exact IH (4700 - v12.toInt % 4701).toNat (by omega) _ (l1) (l2) (l3) (v12) rfl (zF_zov (zF_u hF rfl) ws_226_224) hV_m11 (by omega) (by omega) (by omega) (show v12.toInt = -1 ∨ (0 ≤ v12.toInt ∧ v12.toInt < (m 94 11).toInt ∧ 1 ≤ (m11 94 84).toInt ∧ v12.toInt + (m11 94 84).toInt ≤ (m 94 11).toInt) from by omega) (show qFL aa nz.toInt (m 94 12) (m 94 11).toInt v12.toInt (m11 94 84).toInt l2.toInt l3.toInt (aFt aa nz.toInt) from by first | (exact FL_of r_QI r_RB (by omega) p1_m11 (by rw [Ft_2 (by rw [RB_fo r_RB]; assumption) (by rw [RB_fo r_RB]; assumption), RB_fo r_RB]; rfl)) | (exact FL_y r_QI r_RB (by omega) (by omega) r_FL (by omega) (Or.inl (by omega)) (by omega) (by omega) p1_m11) | (exact FL_y r_QI r_RB (by omega) (by omega) r_FL (by omega) (Or.inr (Or.inl ⟨by assumption, by omega⟩)) (by omega) (by omega) p1_m11) | (exact FL_y r_QI r_RB (by omega) (by omega) r_FL (by omega) (Or.inr (Or.inr ⟨by assumption, by omega⟩)) (by omega) (by omega) p1_m11) | (exact FL_n r_QI r_RB (by omega) (by omega) r_FL (Or.inl (by omega)) (by omega) p1_m11) | (exact FL_n r_QI r_RB (by omega) (by omega) r_FL (Or.inr ⟨by omega, Or.inl ⟨by assumption, by omega⟩⟩) (by omega) p1_m11) | (exact FL_n r_QI r_RB (by omega) (by omega) r_FL (Or.inr ⟨by omega, Or.inr ⟨by assumption, by omega⟩⟩) (by omega) p1_m11) | (exfalso; omega; done) | (exfalso; contradiction; done)) r_RB r_QI r_OW
          · skip
            have g47 := i_ne h31
            have b48 := i_bd l3
            refine zd (fun (h49 : l3 < (m 94 84)) => ?_) (fun (h49 : ¬ l3 < (m 94 84)) => ?_)
            · skip
              have g50 := i_lt h49
              first | have e51 : (l4 + (m 94 84)).toInt = l4.toInt + (m 94 84).toInt := i_add (by omega) (by omega) | have b52 := i_bd (l4 + (m 94 84))
              have hV53 : zV (ma_u m 94 50 ((m 94 50) + (1 : Int32))) := uf_94_50 hV
              try have fg := (FL_gd r_FL (by omega))
              try have r2 := congrArg Int32.toInt (RB_le r_RB)
              try have r0 := congrArg Int32.toInt (RB_ro r_RB)
              try have i4 := r_QI.2.2.2.1.2.2.2.1
              refine sp_226r (aa := aa) ((l4 + (m 94 84))) ((m 94 11)) hV53 (show 0 ≤ (l4 + (m 94 84)).toInt ∧ (l4 + (m 94 84)).toInt ≤ (m 94 11).toInt from by omega) (show (m 94 11).toInt = (m 94 11).toInt from by omega) (show qGd aa (l4 + (m 94 84)).toInt from by first | (exact Gd_0 r_QI) | (exact Gd_c r_QI.2.2.2.1.2.2.2.2.1 (by omega)) | (exact Gd_c (FL_gd r_FL (by omega)).1 (by omega)) | (exfalso; omega; done) | (exfalso; contradiction; done)) r_RB r_QI r_OW (fun v6 m5 hV_m5 p0_m5 p1_m5 => zmi_n ?_)
              have p0_m5 : v6.toInt = -1 ∨ ((l4 + (m 94 84)).toInt ≤ v6.toInt ∧ v6.toInt < (m 94 11).toInt ∧ 1 ≤ (m5 94 84).toInt ∧ v6.toInt + (m5 94 84).toInt ≤ (m 94 11).toInt) := p0_m5
              have p1_m5 : qBF aa (l4 + (m 94 84)).toInt (m 94 11).toInt v6.toInt (m5 94 84).toInt := p1_m5
              have f54 : 0 ≤ (m5 94 84).toInt ∧ (m5 94 84).toInt ≤ 4600 := rs_94_84 (m := (zov wr_226 (ma_u m 94 50 ((m 94 50) + (1 : Int32))) m5)) hV_m5
              try have fg := (FL_gd r_FL (by omega))
              try have r2 := congrArg Int32.toInt (RB_le r_RB)
              try have r0 := congrArg Int32.toInt (RB_ro r_RB)
              try have i4 := r_QI.2.2.2.1.2.2.2.1
              have b55 := i_bd v6
              exact IH (4700 - v6.toInt % 4701).toNat (by omega) _ (l1) (l4) ((m 94 84)) (v6) rfl (zF_zov (zF_u hF rfl) ws_226_224) hV_m5 (by omega) (by omega) (by omega) (show v6.toInt = -1 ∨ (0 ≤ v6.toInt ∧ v6.toInt < (m 94 11).toInt ∧ 1 ≤ (m5 94 84).toInt ∧ v6.toInt + (m5 94 84).toInt ≤ (m 94 11).toInt) from by omega) (show qFL aa nz.toInt (m 94 12) (m 94 11).toInt v6.toInt (m5 94 84).toInt l4.toInt (m 94 84).toInt (aFt aa nz.toInt) from by first | (exact FL_of r_QI r_RB (by omega) p1_m5 (by rw [Ft_2 (by rw [RB_fo r_RB]; assumption) (by rw [RB_fo r_RB]; assumption), RB_fo r_RB]; rfl)) | (exact FL_y r_QI r_RB (by omega) (by omega) r_FL (by omega) (Or.inl (by omega)) (by omega) (by omega) p1_m5) | (exact FL_y r_QI r_RB (by omega) (by omega) r_FL (by omega) (Or.inr (Or.inl ⟨by assumption, by omega⟩)) (by omega) (by omega) p1_m5) | (exact FL_y r_QI r_RB (by omega) (by omega) r_FL (by omega) (Or.inr (Or.inr ⟨by assumption, by omega⟩)) (by omega) (by omega) p1_m5) | (exact FL_n r_QI r_RB (by omega) (by omega) r_FL (Or.inl (by omega)) (by omega) p1_m5) | (exact FL_n r_QI r_RB (by omega) (by omega) r_FL (Or.inr ⟨by omega, Or.inl ⟨by assumption, by omega⟩⟩) (by omega) p1_m5) | (exact FL_n r_QI r_RB (by omega) (by omega) r_FL (Or.inr ⟨by omega, Or.inr ⟨by assumption, by omega⟩⟩) (by omega) p1_m5) | (exfalso; omega; done) | (exfalso; contradiction; done)) r_RB r_QI r_OW
            · skip
              have g56 := i_nlt h49
              first | have e57 : (l4 + (m 94 84)).toInt = l4.toInt + (m 94 84).toInt := i_add (by omega) (by omega) | have b58 := i_bd (l4 + (m 94 84))
              have hV59 : zV (ma_u m 94 50 ((m 94 50) + (1 : Int32))) := uf_94_50 hV
              try have fg := (FL_gd r_FL (by omega))
              try have r2 := congrArg Int32.toInt (RB_le r_RB)
              try have r0 := congrArg Int32.toInt (RB_ro r_RB)
              try have i4 := r_QI.2.2.2.1.2.2.2.1
              refine sp_226r (aa := aa) ((l4 + (m 94 84))) ((m 94 11)) hV59 (show 0 ≤ (l4 + (m 94 84)).toInt ∧ (l4 + (m 94 84)).toInt ≤ (m 94 11).toInt from by omega) (show (m 94 11).toInt = (m 94 11).toInt from by omega) (show qGd aa (l4 + (m 94 84)).toInt from by first | (exact Gd_0 r_QI) | (exact Gd_c r_QI.2.2.2.1.2.2.2.2.1 (by omega)) | (exact Gd_c (FL_gd r_FL (by omega)).1 (by omega)) | (exfalso; omega; done) | (exfalso; contradiction; done)) r_RB r_QI r_OW (fun v8 m7 hV_m7 p0_m7 p1_m7 => zmi_n ?_)
              have p0_m7 : v8.toInt = -1 ∨ ((l4 + (m 94 84)).toInt ≤ v8.toInt ∧ v8.toInt < (m 94 11).toInt ∧ 1 ≤ (m7 94 84).toInt ∧ v8.toInt + (m7 94 84).toInt ≤ (m 94 11).toInt) := p0_m7
              have p1_m7 : qBF aa (l4 + (m 94 84)).toInt (m 94 11).toInt v8.toInt (m7 94 84).toInt := p1_m7
              have f60 : 0 ≤ (m7 94 84).toInt ∧ (m7 94 84).toInt ≤ 4600 := rs_94_84 (m := (zov wr_226 (ma_u m 94 50 ((m 94 50) + (1 : Int32))) m7)) hV_m7
              try have fg := (FL_gd r_FL (by omega))
              try have r2 := congrArg Int32.toInt (RB_le r_RB)
              try have r0 := congrArg Int32.toInt (RB_ro r_RB)
              try have i4 := r_QI.2.2.2.1.2.2.2.1
              have b61 := i_bd v8
              exact IH (4700 - v8.toInt % 4701).toNat (by omega) _ (l1) (l2) (l3) (v8) rfl (zF_zov (zF_u hF rfl) ws_226_224) hV_m7 (by omega) (by omega) (by omega) (show v8.toInt = -1 ∨ (0 ≤ v8.toInt ∧ v8.toInt < (m 94 11).toInt ∧ 1 ≤ (m7 94 84).toInt ∧ v8.toInt + (m7 94 84).toInt ≤ (m 94 11).toInt) from by omega) (show qFL aa nz.toInt (m 94 12) (m 94 11).toInt v8.toInt (m7 94 84).toInt l2.toInt l3.toInt (aFt aa nz.toInt) from by first | (exact FL_of r_QI r_RB (by omega) p1_m7 (by rw [Ft_2 (by rw [RB_fo r_RB]; assumption) (by rw [RB_fo r_RB]; assumption), RB_fo r_RB]; rfl)) | (exact FL_y r_QI r_RB (by omega) (by omega) r_FL (by omega) (Or.inl (by omega)) (by omega) (by omega) p1_m7) | (exact FL_y r_QI r_RB (by omega) (by omega) r_FL (by omega) (Or.inr (Or.inl ⟨by assumption, by omega⟩)) (by omega) (by omega) p1_m7) | (exact FL_y r_QI r_RB (by omega) (by omega) r_FL (by omega) (Or.inr (Or.inr ⟨by assumption, by omega⟩)) (by omega) (by omega) p1_m7) | (exact FL_n r_QI r_RB (by omega) (by omega) r_FL (Or.inl (by omega)) (by omega) p1_m7) | (exact FL_n r_QI r_RB (by omega) (by omega) r_FL (Or.inr ⟨by omega, Or.inl ⟨by assumption, by omega⟩⟩) (by omega) p1_m7) | (exact FL_n r_QI r_RB (by omega) (by omega) r_FL (Or.inr ⟨by omega, Or.inr ⟨by assumption, by omega⟩⟩) (by omega) p1_m7) | (exfalso; omega; done) | (exfalso; contradiction; done)) r_RB r_QI r_OW
theorem sp_224r {X : Nat × (Nat → Int32)} {P : Option ma_V → (Nat → Nat → Int32) → Prop} {aa : Nat→Nat→Int32} {m : Nat → Nat → Int32} (nz : Int32) (hV : zV m) (r_RB : qRB (m 99) (m 100) (m 98) (m 101) (m 102) (m 103) (m 107) (m 108) (m 109) (m 111) (m 112) (m 113) (m 114) (m 94 55) (m 94 46) (m 94 11) (m 94 12) (m 94 62) (m 94 17) (m 94 9) aa) (r_QI : qI aa) (r_OW : zOw (m 99) (m 103) (m 111)) (KZ : ∀ v m₉, zV (zov wr_224 m m₉) → (-1 ≤ v.toInt ∧ v.toInt ≤ 1500) → (qEq v.toInt (aFt aa nz.toInt)) → P (some (.inl v)) (zov wr_224 m m₉)) : zm X 3 69 224 0 [(0, .inr (.inr (some 94))), (1, .inl nz)] m P := by
  have K : ∀ v m₉, zF wr_224 m m₉ → zV m₉ → (-1 ≤ v.toInt ∧ v.toInt ≤ 1500) → (qEq v.toInt (aFt aa nz.toInt)) → P (some (.inl v)) m₉ := by
    intro v m₉ hf z q0 q1
    have e := zov_eq hf
    rw [e] at z ⊢
    try rw [e] at q0
    try rw [e] at q1
    exact KZ v m₉ z q0 q1
  refine g_224_0 nz ?_
  have b1 := i_bd (m 94 12)
  have li2 : (0 : Int32).toInt = 0 := rfl
  refine zd (fun (h3 : (m 94 12) = (0 : Int32)) => ?_) (fun (h3 : ¬ (m 94 12) = (0 : Int32)) => ?_)
  · skip
    have g4 := i_eq h3
    have b5 := i_bd nz
    have f6 : 0 ≤ (m 94 11).toInt ∧ (m 94 11).toInt ≤ 1500 := rs_94_11 (m := m) hV
    try have r2 := congrArg Int32.toInt (RB_le r_RB)
    try have r0 := congrArg Int32.toInt (RB_ro r_RB)
    try have i4 := r_QI.2.2.2.1.2.2.2.1
    refine sp_225r (aa := aa) (nz) ((0 : Int32)) ((m 94 11)) hV (show 0 ≤ (0 : Int32).toInt ∧ (0 : Int32).toInt ≤ (m 94 11).toInt from by omega) (show (m 94 11).toInt = (m 94 11).toInt from by omega) (show qGd aa (0 : Int32).toInt from by first | (exact Gd_0 r_QI) | (exact Gd_c r_QI.2.2.2.1.2.2.2.2.1 (by omega)) | (exfalso; omega; done) | (exfalso; contradiction; done)) r_RB r_QI r_OW (fun v10 m9 hV_m9 p0_m9 p1_m9 => zmi_n ?_)
    have p0_m9 : -1 ≤ v10.toInt ∧ v10.toInt ≤ 1500 := p0_m9
    have p1_m9 : v10.toInt = aFf aa nz.toInt (m 94 11).toInt 4500 (aN aa (0 : Int32).toInt) := p1_m9
    try have r2 := congrArg Int32.toInt (RB_le r_RB)
    try have r0 := congrArg Int32.toInt (RB_ro r_RB)
    try have i4 := r_QI.2.2.2.1.2.2.2.1
    have b7 := i_bd v10
    exact K (v10) _ (zF_zov zF_rfl ws_225_224) hV_m9 (show -1 ≤ v10.toInt ∧ v10.toInt ≤ 1500 from by omega) (show qEq v10.toInt (aFt aa nz.toInt) from by first | (rw [Ft_0 (by rw [RB_fo r_RB]; assumption) (congrArg Int32.toInt (RB_ro r_RB)).symm]; exact p1_m9; done) | (rw [Ft_1 (by rw [RB_fo r_RB]; assumption)]; exact Fx_y r_RB (by omega) p1_m9 (by omega); done) | (exfalso; omega; done) | (exfalso; contradiction; done))
  · skip
    have g8 := i_ne h3
    have li9 : (1 : Int32).toInt = 1 := rfl
    refine zd (fun (h10 : (m 94 12) = (1 : Int32)) => ?_) (fun (h10 : ¬ (m 94 12) = (1 : Int32)) => ?_)
    · skip
      have g11 := i_eq h10
      have f12 : 0 ≤ (m 94 62).toInt ∧ (m 94 62).toInt ≤ 4600 := rs_94_62 (m := m) hV
      try have r2 := congrArg Int32.toInt (RB_le r_RB)
      try have r0 := congrArg Int32.toInt (RB_ro r_RB)
      try have i4 := r_QI.2.2.2.1.2.2.2.1
      have f13 : 0 ≤ (m 94 11).toInt ∧ (m 94 11).toInt ≤ 1500 := rs_94_11 (m := m) hV
      refine sp_227r (aa := aa) ((m 94 62)) hV (by omega) (show (m 94 62).toInt ≤ (m 94 11).toInt from by omega) (show qGd aa (m 94 62).toInt from by first | (exact Gd_c r_QI.2.2.2.1.2.2.2.2.1 (by omega)) | (exfalso; omega; done) | (exfalso; contradiction; done)) r_RB r_QI r_OW (fun v4 m3 hV_m3 p0_m3 => zmi_n ?_)
      have p0_m3 : v4.toInt = (m 94 62).toInt := p0_m3
      have b14 := i_bd nz
      have b15 := i_bd v4
      try have r2 := congrArg Int32.toInt (RB_le r_RB)
      try have r0 := congrArg Int32.toInt (RB_ro r_RB)
      try have i4 := r_QI.2.2.2.1.2.2.2.1
      refine sp_225r (aa := aa) (nz) (v4) ((m 94 11)) hV_m3 (show 0 ≤ v4.toInt ∧ v4.toInt ≤ (m 94 11).toInt from by omega) (show (m 94 11).toInt = (m 94 11).toInt from by omega) (show qGd aa v4.toInt from by first | (exact Gd_0 r_QI) | (exact Gd_c r_QI.2.2.2.1.2.2.2.2.1 (by omega)) | (exfalso; omega; done) | (exfalso; contradiction; done)) r_RB r_QI r_OW (fun v6 m5 hV_m5 p0_m5 p1_m5 => zmi_n ?_)
      have p0_m5 : -1 ≤ v6.toInt ∧ v6.toInt ≤ 1500 := p0_m5
      have p1_m5 : v6.toInt = aFf aa nz.toInt (m 94 11).toInt 4500 (aN aa v4.toInt) := p1_m5
      have b16 := i_bd v6
      refine zd (fun (h17 : v6 < (0 : Int32)) => ?_) (fun (h17 : ¬ v6 < (0 : Int32)) => ?_)
      · skip
        have g18 := i_lt h17
        try have r2 := congrArg Int32.toInt (RB_le r_RB)
        try have r0 := congrArg Int32.toInt (RB_ro r_RB)
        try have i4 := r_QI.2.2.2.1.2.2.2.1
        refine sp_228r (aa := aa) (nz) (v4) hV_m5 (show v4.toInt ≤ (m 94 11).toInt from by omega) r_RB r_QI r_OW (fun v8 m7 hV_m7 p0_m7 p1_m7 => zmi_n ?_)
        have p0_m7 : -1 ≤ v8.toInt ∧ v8.toInt ≤ 1500 := p0_m7
        have p1_m7 : v8.toInt = aFf aa nz.toInt v4.toInt 4500 (aN aa 0) := p1_m7
        try have r2 := congrArg Int32.toInt (RB_le r_RB)
        try have r0 := congrArg Int32.toInt (RB_ro r_RB)
        try have i4 := r_QI.2.2.2.1.2.2.2.1
        have b19 := i_bd v8
        exact K (v8) _ (zF_zov (zF_zov (zF_zov zF_rfl ws_227_224) ws_225_224) ws_228_224) hV_m7 (show -1 ≤ v8.toInt ∧ v8.toInt ≤ 1500 from by omega) (show qEq v8.toInt (aFt aa nz.toInt) from by first | (rw [Ft_0 (by rw [RB_fo r_RB]; assumption) (congrArg Int32.toInt (RB_ro r_RB)).symm]; exact p1_m5; done) | (rw [Ft_1 (by rw [RB_fo r_RB]; assumption)]; exact Fx_y r_RB (by omega) p1_m5 (by omega); done) | (rw [Ft_1 (by rw [RB_fo r_RB]; assumption)]; exact Fx_n r_RB (by omega) p1_m5 p1_m7 (by omega) (by omega); done) | (exfalso; omega; done) | (exfalso; contradiction; done))
      · skip
        have g20 := i_nlt h17
        try have r2 := congrArg Int32.toInt (RB_le r_RB)
        try have r0 := congrArg Int32.toInt (RB_ro r_RB)
        try have i4 := r_QI.2.2.2.1.2.2.2.1
        exact K (v6) _ (zF_zov (zF_zov zF_rfl ws_227_224) ws_225_224) hV_m5 (show -1 ≤ v6.toInt ∧ v6.toInt ≤ 1500 from by omega) (show qEq v6.toInt (aFt aa nz.toInt) from by first | (rw [Ft_0 (by rw [RB_fo r_RB]; assumption) (congrArg Int32.toInt (RB_ro r_RB)).symm]; exact p1_m5; done) | (rw [Ft_1 (by rw [RB_fo r_RB]; assumption)]; exact Fx_y r_RB (by omega) p1_m5 (by omega); done) | (exfalso; omega; done) | (exfalso; contradiction; done))
    · skip
      have g21 := i_ne h10
      have f22 : 0 ≤ (m 94 11).toInt ∧ (m 94 11).toInt ≤ 1500 := rs_94_11 (m := m) hV
      try have r2 := congrArg Int32.toInt (RB_le r_RB)
      try have r0 := congrArg Int32.toInt (RB_ro r_RB)
      try have i4 := r_QI.2.2.2.1.2.2.2.1
      refine sp_226r (aa := aa) ((0 : Int32)) ((m 94 11)) hV (show 0 ≤ (0 : Int32).toInt ∧ (0 : Int32).toInt ≤ (m 94 11).toInt from by omega) (show (m 94 11).toInt = (m 94 11).toInt from by omega) (show qGd aa (0 : Int32).toInt from by first | (exact Gd_0 r_QI) | (exact Gd_c r_QI.2.2.2.1.2.2.2.2.1 (by omega)) | (exfalso; omega; done) | (exfalso; contradiction; done)) r_RB r_QI r_OW (fun v2 m1 hV_m1 p0_m1 p1_m1 => zmi_n ?_)
      have p0_m1 : v2.toInt = -1 ∨ ((0 : Int32).toInt ≤ v2.toInt ∧ v2.toInt < (m 94 11).toInt ∧ 1 ≤ (m1 94 84).toInt ∧ v2.toInt + (m1 94 84).toInt ≤ (m 94 11).toInt) := p0_m1
      have p1_m1 : qBF aa (0 : Int32).toInt (m 94 11).toInt v2.toInt (m1 94 84).toInt := p1_m1
      have f23 : 0 ≤ (m1 94 84).toInt ∧ (m1 94 84).toInt ≤ 4600 := rs_94_84 (m := (zov wr_226 m m1)) hV_m1
      try have r2 := congrArg Int32.toInt (RB_le r_RB)
      try have r0 := congrArg Int32.toInt (RB_ro r_RB)
      try have i4 := r_QI.2.2.2.1.2.2.2.1
      have b24 := i_bd nz
      have li25 : (-1 : Int32).toInt = -1 := rfl
      have b26 := i_bd v2
      exact lp_224r_76 (nz := nz) hV K _ _ (nz) ((-1 : Int32)) ((0 : Int32)) (v2) rfl (zF_zov zF_rfl ws_226_224) hV_m1 (by omega) (by omega) (by omega) (show v2.toInt = -1 ∨ (0 ≤ v2.toInt ∧ v2.toInt < (m 94 11).toInt ∧ 1 ≤ (m1 94 84).toInt ∧ v2.toInt + (m1 94 84).toInt ≤ (m 94 11).toInt) from by omega) (show qFL aa nz.toInt (m 94 12) (m 94 11).toInt v2.toInt (m1 94 84).toInt (-1 : Int32).toInt (0 : Int32).toInt (aFt aa nz.toInt) from by first | (exact FL_of r_QI r_RB (by omega) p1_m1 (by rw [Ft_2 (by rw [RB_fo r_RB]; assumption) (by rw [RB_fo r_RB]; assumption), RB_fo r_RB]; rfl)) | (exfalso; omega; done) | (exfalso; contradiction; done)) r_RB r_QI r_OW

