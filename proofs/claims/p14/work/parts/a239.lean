/-! from 95.r11 -/
/-! the reference where it moves (written by wip/tools/gen15r.py) -/
/-! ANSWERS -/
section G0
variable {a : Nat → Nat → Int32} {us nr kr kd ws at₉ ho wd wi ow rt wk wl : Nat → Int32} {wm nu ro fo le ra pi o hp th v s : Int32}
end G0
theorem lp_204rm_4 {X : Nat × (Nat → Int32)} {P : Option ma_V → (Nat → Nat → Int32) → Prop} {aa : Nat→Nat→Int32} {ro : Int32} {lim : Int32} {m0 : Nat → Nat → Int32} (h0 : zV m0) (K : ∀ v m₉, zF wr_204 m0 m₉ → zV m₉ → (zOw (m₉ 99) (m₉ 103) (m₉ 111)) → (qRB (m₉ 99) (m₉ 100) (m₉ 98) (m₉ 101) (m₉ 102) (m₉ 103) (m₉ 107) (m₉ 108) (m₉ 109) (m₉ 111) (m₉ 112) (m₉ 113) (m₉ 114) (m₉ 94 55) (m₉ 94 46) ro 0 0 0 1 (zSd aa lim.toInt 0 0).1) → (qEq v.toInt (zSd aa lim.toInt 0 0).2 ∧ ∃ p, lim.toInt ≤ p ∧ qJs (zSd aa lim.toInt 0 0).1 p v.toInt) → (0 ≤ v.toInt ∧ v.toInt ≤ 1600) → P (some (.inl v)) m₉) : ∀ (n : Nat) (m : Nat → Nat → Int32) (l1 : Int32) (l2 : Int32) (l3 : Int32), (1500 - l3.toInt).toNat = n → zF wr_204 m0 m → zV m → (0 ≤ l2.toInt) → (l2.toInt ≤ l3.toInt) → (l3.toInt ≤ 1600) → (l1.toInt = lim.toInt) → (lim.toInt ≤ 1500) → (zOw (m 99) (m 103) (m 111)) → (qSl (m 99) (m 100) (m 98) (m 101) (m 102) (m 103) (m 107) (m 108) (m 109) (m 111) (m 112) (m 113) (m 114) (m 94 55) (m 94 46) ro 0 0 0 1 aa lim.toInt l3.toInt l2.toInt) → zm X 2 43 204 4 [(0, .inr (.inr (some 94))), (1, .inl l1), (2, .inl l2), (3, .inl l3)] m P := by
  intro n
  induction n using Nat.strongRecOn with
  | _ n IH =>
    intro m l1 l2 l3 hmu hF hV hi0 hi1 hi2 hi3 hi4 r_OW r_SL
    refine g_204_4 l1 l2 l3 ?_
    have b1 := i_bd l1
    have b2 := i_bd l3
    refine zd (fun (h3 : l1 ≤ l3) => ?_) (fun (h3 : ¬ l1 ≤ l3) => ?_)
    · skip
      have g4 := i_le h3
      try have slp := Sl_p r_SL
      have b5 := i_bd l2
      exact K (l2) _ hF hV r_OW (show qRB (m 99) (m 100) (m 98) (m 101) (m 102) (m 103) (m 107) (m 108) (m 109) (m 111) (m 112) (m 113) (m 114) (m 94 55) (m 94 46) ro 0 0 0 1 (zSd aa lim.toInt 0 0).1 from by first | (exact (Sl_end r_SL (by omega)).1) | (exfalso; omega; done) | (exfalso; contradiction; done)) (show qEq l2.toInt (zSd aa lim.toInt 0 0).2 ∧ ∃ p, lim.toInt ≤ p ∧ qJs (zSd aa lim.toInt 0 0).1 p l2.toInt from by first | (exact (Sl_end r_SL (by omega)).2) | (exfalso; omega; done) | (exfalso; contradiction; done)) (show 0 ≤ l2.toInt ∧ l2.toInt ≤ 1600 from by omega)
    · skip
      have g6 := i_nle h3
      have hg7 : (0 ≤ l3 ∧ l3.toNatClampNeg < 4600) := i_ix (by omega) (by omega)
      refine ⟨hg7, ?_⟩
      have li8 : (0 : Int32).toInt = 0 := rfl
      first | have f9 : -1 ≤ (m 111 l3.toNatClampNeg).toInt ∧ (m 111 l3.toNatClampNeg).toInt ≤ 3099 := ra_111 (m := m) hV (k := l3.toNatClampNeg) (i_ix (n := 4600) (by omega) (by omega)).2 | have b10 := i_bd (m 111 l3.toNatClampNeg)
      refine zd (fun (h11 : (0 : Int32) ≤ (m 111 l3.toNatClampNeg)) => ?_) (fun (h11 : ¬ (0 : Int32) ≤ (m 111 l3.toNatClampNeg)) => ?_)
      · skip
        have g12 := i_le h11
        try have tc3 := tn_cast (x := l3) (by omega)
        try have ow3 := r_OW l3.toNatClampNeg (by omega) (by omega)
        have hg13 : (0 ≤ (m 111 l3.toNatClampNeg) ∧ (m 111 l3.toNatClampNeg).toNatClampNeg < 3100) := i_ix (by omega) (by omega)
        refine ⟨hg13, ?_⟩
        have hg14 : (0 ≤ (m 111 l3.toNatClampNeg) ∧ (m 111 l3.toNatClampNeg).toNatClampNeg < 3100) := i_ix (by omega) (by omega)
        refine ⟨hg14, ?_⟩
        have b15 := i_bd (m 107 (m 111 l3.toNatClampNeg).toNatClampNeg)
        refine zd (fun (h16 : (m 107 (m 111 l3.toNatClampNeg).toNatClampNeg) = (0 : Int32)) => ?_) (fun (h16 : ¬ (m 107 (m 111 l3.toNatClampNeg).toNatClampNeg) = (0 : Int32)) => ?_)
        · skip
          have g17 := i_eq h16
          have b18 := i_bd l2
          try have slp := Sl_p r_SL
          refine sp_205 ((m 111 l3.toNatClampNeg)) (l2) hV (by omega) (by omega) (by omega) (by omega) (show (m 99) (m 111 l3.toNatClampNeg).toNatClampNeg ≠ 0 from by first | (assumption; done) | (exact ow5.1) | (exact ow3.1) | (exfalso; omega; done) | (exfalso; contradiction; done)) r_OW (fun m1 hV_m1 p0_m1 p1_m1 => zmv_n ?_)
          have p0_m1 : zOw (m 99) (m1 103) (m1 111) := p0_m1
          have p1_m1 : zmov (m 111 l3.toNatClampNeg) l2 (m 103) (m 111) (m1 103) (m1 111) := p1_m1
          try have mvs := mv_s p1_m1
          have hg19 : (0 ≤ (m 111 l3.toNatClampNeg) ∧ (m 111 l3.toNatClampNeg).toNatClampNeg < 3100) := i_ix (by omega) (by omega)
          refine ⟨hg19, ?_⟩
          try have tc3 := tn_cast (x := l3) (by omega)
          try have ow3 := p0_m1 l3.toNatClampNeg (by omega) (by omega)
          have hg20 : (0 ≤ (m 111 l3.toNatClampNeg) ∧ (m 111 l3.toNatClampNeg).toNatClampNeg < 3100) := i_ix (by omega) (by omega)
          refine ⟨hg20, ?_⟩
          try have slp := Sl_p r_SL
          first | have f21 : 0 ≤ (m1 103 (m 111 l3.toNatClampNeg).toNatClampNeg).toInt ∧ (m1 103 (m 111 l3.toNatClampNeg).toNatClampNeg).toInt ≤ 4599 := ra_103 (m := (zov wr_205 m m1)) hV_m1 (k := (m 111 l3.toNatClampNeg).toNatClampNeg) (i_ix (n := 3100) (by omega) (by omega)).2 | have b22 := i_bd (m1 103 (m 111 l3.toNatClampNeg).toNatClampNeg)
          first | have f23 : 0 ≤ (m 102 (m 111 l3.toNatClampNeg).toNatClampNeg).toInt ∧ (m 102 (m 111 l3.toNatClampNeg).toNatClampNeg).toInt ≤ 60 := ra_102 (m := m) hV (k := (m 111 l3.toNatClampNeg).toNatClampNeg) (i_ix (n := 3100) (by omega) (by omega)).2 | have b24 := i_bd (m 102 (m 111 l3.toNatClampNeg).toNatClampNeg)
          first | have e25 : ((m 102 (m 111 l3.toNatClampNeg).toNatClampNeg) + (1 : Int32)).toInt = (m 102 (m 111 l3.toNatClampNeg).toNatClampNeg).toInt + (1) := i_addk rfl (by omega) (by omega) | have b26 := i_bd ((m 102 (m 111 l3.toNatClampNeg).toNatClampNeg) + (1 : Int32))
          first | have e27 : ((m1 103 (m 111 l3.toNatClampNeg).toNatClampNeg) + ((m 102 (m 111 l3.toNatClampNeg).toNatClampNeg) + (1 : Int32))).toInt = (m1 103 (m 111 l3.toNatClampNeg).toNatClampNeg).toInt + ((m 102 (m 111 l3.toNatClampNeg).toNatClampNeg) + (1 : Int32)).toInt := i_add (by omega) (by omega) | have b28 := i_bd ((m1 103 (m 111 l3.toNatClampNeg).toNatClampNeg) + ((m 102 (m 111 l3.toNatClampNeg).toNatClampNeg) + (1 : Int32)))
          first | have e29 : (l3 + ((m 102 (m 111 l3.toNatClampNeg).toNatClampNeg) + (1 : Int32))).toInt = l3.toInt + ((m 102 (m 111 l3.toNatClampNeg).toNatClampNeg) + (1 : Int32)).toInt := i_add (by omega) (by omega) | have b30 := i_bd (l3 + ((m 102 (m 111 l3.toNatClampNeg).toNatClampNeg) + (1 : Int32)))
          exact IH (1500 - (l3 + ((m 102 (m 111 l3.toNatClampNeg).toNatClampNeg) + (1 : Int32))).toInt).toNat (by omega) _ (l1) (((m1 103 (m 111 l3.toNatClampNeg).toNatClampNeg) + ((m 102 (m 111 l3.toNatClampNeg).toNatClampNeg) + (1 : Int32)))) ((l3 + ((m 102 (m 111 l3.toNatClampNeg).toNatClampNeg) + (1 : Int32)))) rfl (zF_zov hF ws_205_204) hV_m1 (by omega) (by omega) (by omega) (by omega) (by omega) p0_m1 (show qSl (m 99) (m 100) (m 98) (m 101) (m 102) (m1 103) (m 107) (m 108) (m 109) (m1 111) (m 112) (m 113) (m 114) (m 94 55) (m 94 46) ro 0 0 0 1 aa lim.toInt (l3 + ((m 102 (m 111 l3.toNatClampNeg).toNatClampNeg) + (1 : Int32))).toInt ((m1 103 (m 111 l3.toNatClampNeg).toNatClampNeg) + ((m 102 (m 111 l3.toNatClampNeg).toNatClampNeg) + (1 : Int32))).toInt from by first | (exact Sl_mv r_SL r_OW (s := (m 111 l3.toNatClampNeg)) (by omega) (by omega) (by omega) rfl (by omega) (by omega) (i_zer (by omega)) p1_m1 (by omega) (by omega)) | (exfalso; omega; done) | (exfalso; contradiction; done))
        · skip
          have g31 := i_ne h16
          have hg32 : (0 ≤ (m 111 l3.toNatClampNeg) ∧ (m 111 l3.toNatClampNeg).toNatClampNeg < 3100) := i_ix (by omega) (by omega)
          refine ⟨hg32, ?_⟩
          try have tc3 := tn_cast (x := l3) (by omega)
          try have ow3 := r_OW l3.toNatClampNeg (by omega) (by omega)
          have hg33 : (0 ≤ (m 111 l3.toNatClampNeg) ∧ (m 111 l3.toNatClampNeg).toNatClampNeg < 3100) := i_ix (by omega) (by omega)
          refine ⟨hg33, ?_⟩
          try have slp := Sl_p r_SL
          first | have f34 : 0 ≤ (m 103 (m 111 l3.toNatClampNeg).toNatClampNeg).toInt ∧ (m 103 (m 111 l3.toNatClampNeg).toNatClampNeg).toInt ≤ 4599 := ra_103 (m := m) hV (k := (m 111 l3.toNatClampNeg).toNatClampNeg) (i_ix (n := 3100) (by omega) (by omega)).2 | have b35 := i_bd (m 103 (m 111 l3.toNatClampNeg).toNatClampNeg)
          first | have f36 : 0 ≤ (m 102 (m 111 l3.toNatClampNeg).toNatClampNeg).toInt ∧ (m 102 (m 111 l3.toNatClampNeg).toNatClampNeg).toInt ≤ 60 := ra_102 (m := m) hV (k := (m 111 l3.toNatClampNeg).toNatClampNeg) (i_ix (n := 3100) (by omega) (by omega)).2 | have b37 := i_bd (m 102 (m 111 l3.toNatClampNeg).toNatClampNeg)
          first | have e38 : ((m 102 (m 111 l3.toNatClampNeg).toNatClampNeg) + (1 : Int32)).toInt = (m 102 (m 111 l3.toNatClampNeg).toNatClampNeg).toInt + (1) := i_addk rfl (by omega) (by omega) | have b39 := i_bd ((m 102 (m 111 l3.toNatClampNeg).toNatClampNeg) + (1 : Int32))
          first | have e40 : ((m 103 (m 111 l3.toNatClampNeg).toNatClampNeg) + ((m 102 (m 111 l3.toNatClampNeg).toNatClampNeg) + (1 : Int32))).toInt = (m 103 (m 111 l3.toNatClampNeg).toNatClampNeg).toInt + ((m 102 (m 111 l3.toNatClampNeg).toNatClampNeg) + (1 : Int32)).toInt := i_add (by omega) (by omega) | have b41 := i_bd ((m 103 (m 111 l3.toNatClampNeg).toNatClampNeg) + ((m 102 (m 111 l3.toNatClampNeg).toNatClampNeg) + (1 : Int32)))
          first | have e42 : (l3 + ((m 102 (m 111 l3.toNatClampNeg).toNatClampNeg) + (1 : Int32))).toInt = l3.toInt + ((m 102 (m 111 l3.toNatClampNeg).toNatClampNeg) + (1 : Int32)).toInt := i_add (by omega) (by omega) | have b43 := i_bd (l3 + ((m 102 (m 111 l3.toNatClampNeg).toNatClampNeg) + (1 : Int32)))
          exact IH (1500 - (l3 + ((m 102 (m 111 l3.toNatClampNeg).toNatClampNeg) + (1 : Int32))).toInt).toNat (by omega) _ (l1) (((m 103 (m 111 l3.toNatClampNeg).toNatClampNeg) + ((m 102 (m 111 l3.toNatClampNeg).toNatClampNeg) + (1 : Int32)))) ((l3 + ((m 102 (m 111 l3.toNatClampNeg).toNatClampNeg) + (1 : Int32)))) rfl hF hV (by omega) (by omega) (by omega) (by omega) (by omega) r_OW (show qSl (m 99) (m 100) (m 98) (m 101) (m 102) (m 103) (m 107) (m 108) (m 109) (m 111) (m 112) (m 113) (m 114) (m 94 55) (m 94 46) ro 0 0 0 1 aa lim.toInt (l3 + ((m 102 (m 111 l3.toNatClampNeg).toNatClampNeg) + (1 : Int32))).toInt ((m 103 (m 111 l3.toNatClampNeg).toNatClampNeg) + ((m 102 (m 111 l3.toNatClampNeg).toNatClampNeg) + (1 : Int32))).toInt from by first | (exact Sl_fr r_SL (by omega) (by omega) (by omega) (by omega) (by omega)) | (exact Sl_ho r_SL r_OW (s := (m 111 l3.toNatClampNeg)) (by omega) (by omega) (by omega) rfl (by omega) (by omega) (i_nz2 (by omega)) (by omega) (by omega)) | (exfalso; omega; done) | (exfalso; contradiction; done))
      · skip
        have g44 := i_nle h11
        try have slp := Sl_p r_SL
        have b45 := i_bd l2
        first | have e46 : (l3 + (1 : Int32)).toInt = l3.toInt + (1) := i_addk rfl (by omega) (by omega) | have b47 := i_bd (l3 + (1 : Int32))
        exact IH (1500 - (l3 + (1 : Int32)).toInt).toNat (by omega) _ (l1) (l2) ((l3 + (1 : Int32))) rfl hF hV (by omega) (by omega) (by omega) (by omega) (by omega) r_OW (show qSl (m 99) (m 100) (m 98) (m 101) (m 102) (m 103) (m 107) (m 108) (m 109) (m 111) (m 112) (m 113) (m 114) (m 94 55) (m 94 46) ro 0 0 0 1 aa lim.toInt (l3 + (1 : Int32)).toInt l2.toInt from by first | (exact Sl_fr r_SL (by omega) (by omega) (by omega) (by omega) (by omega)) | (exact Sl_ho r_SL r_OW (s := (m 111 l3.toNatClampNeg)) (by omega) (by omega) (by omega) rfl (by omega) (by omega) (i_nz2 (by omega)) (by omega) (by omega)) | (exfalso; omega; done) | (exfalso; contradiction; done))
theorem sp_204rm {X : Nat × (Nat → Int32)} {P : Option ma_V → (Nat → Nat → Int32) → Prop} {aa : Nat→Nat→Int32} {ro : Int32} {m : Nat → Nat → Int32} (lim : Int32) (hV : zV m) (hpre0 : 0 ≤ lim.toInt) (hpre1 : lim.toInt ≤ 1500) (r_OW : zOw (m 99) (m 103) (m 111)) (r_RB : qRB (m 99) (m 100) (m 98) (m 101) (m 102) (m 103) (m 107) (m 108) (m 109) (m 111) (m 112) (m 113) (m 114) (m 94 55) (m 94 46) ro 0 0 0 1 aa) (r_QI : qI aa) (KZ : ∀ v m₉, zV (zov wr_204 m m₉) → (zOw (m 99) (m₉ 103) (m₉ 111)) → (qRB (m 99) (m 100) (m 98) (m 101) (m 102) (m₉ 103) (m 107) (m 108) (m 109) (m₉ 111) (m 112) (m 113) (m 114) (m 94 55) (m 94 46) ro 0 0 0 1 (zSd aa lim.toInt 0 0).1) → (qEq v.toInt (zSd aa lim.toInt 0 0).2 ∧ ∃ p, lim.toInt ≤ p ∧ qJs (zSd aa lim.toInt 0 0).1 p v.toInt) → (0 ≤ v.toInt ∧ v.toInt ≤ 1600) → P (some (.inl v)) (zov wr_204 m m₉)) : zm X 2 43 204 0 [(0, .inr (.inr (some 94))), (1, .inl lim)] m P := by
  have K : ∀ v m₉, zF wr_204 m m₉ → zV m₉ → (zOw (m₉ 99) (m₉ 103) (m₉ 111)) → (qRB (m₉ 99) (m₉ 100) (m₉ 98) (m₉ 101) (m₉ 102) (m₉ 103) (m₉ 107) (m₉ 108) (m₉ 109) (m₉ 111) (m₉ 112) (m₉ 113) (m₉ 114) (m₉ 94 55) (m₉ 94 46) ro 0 0 0 1 (zSd aa lim.toInt 0 0).1) → (qEq v.toInt (zSd aa lim.toInt 0 0).2 ∧ ∃ p, lim.toInt ≤ p ∧ qJs (zSd aa lim.toInt 0 0).1 p v.toInt) → (0 ≤ v.toInt ∧ v.toInt ≤ 1600) → P (some (.inl v)) m₉ := by
    intro v m₉ hf z q0 q1 q2 q3
    have e := zov_eq hf
    rw [e] at z ⊢
    try rw [e] at q0
    try rw [e] at q1
    try rw [e] at q2
    try rw [e] at q3
    exact KZ v m₉ z q0 q1 q2 q3
  refine g_204_0 lim ?_
  have b1 := i_bd lim
  have li2 : (0 : Int32).toInt = 0 := rfl
  exact lp_204rm_4 (lim := lim) hV K _ _ (lim) ((0 : Int32)) ((0 : Int32)) rfl zF_rfl hV (by omega) (by omega) (by omega) (by omega) (by omega) r_OW (show qSl (m 99) (m 100) (m 98) (m 101) (m 102) (m 103) (m 107) (m 108) (m 109) (m 111) (m 112) (m 113) (m 114) (m 94 55) (m 94 46) ro 0 0 0 1 aa lim.toInt (0 : Int32).toInt (0 : Int32).toInt from by first | (exact Sl_0 r_RB r_QI) | (exfalso; omega; done) | (exfalso; contradiction; done))
theorem sp_186rl {X : Nat × (Nat → Int32)} {P : Option ma_V → (Nat → Nat → Int32) → Prop} {T : Nat} {aa : Nat→Nat→Int32} {m : Nat → Nat → Int32}  (hV : zV m) (hpre0 : T ≤ 512) (r_W : zW (m 94 7) (m 98) (m 101) (m 102) (m 108)) (r_GW : zGW T (m 94 55) (m 109)) (r_GU : zGU T (m 94 46) (m 99)) (r_OW : zOw (m 99) (m 103) (m 111)) (hpre5 : (m 94 10).toInt = 1 ∧ (m 94 58).toInt = 0) (r_RB : qRB (m 99) (m 100) (m 98) (m 101) (m 102) (m 103) (m 107) (m 108) (m 109) (m 111) (m 112) (m 113) (m 114) (m 94 55) (m 94 46) (m 94 11) 0 (m 94 59) 0 1 aa) (r_QI : qI aa) (r_WTS : (m 94 45).toInt = sm (zbU (m 99)) (m 102) 3100) (KZ : ∀ v m₉, zV (zov wr_186 m m₉) → (zGW T (m₉ 94 55) (m₉ 109)) → (zGU T (m 94 46) (m₉ 99)) → (zOw (m₉ 99) (m₉ 103) (m₉ 111)) → (qRB (m₉ 99) (m 100) (m 98) (m 101) (m 102) (m₉ 103) (m 107) (m 108) (m₉ 109) (m₉ 111) (m 112) (m₉ 113) (m₉ 114) (m₉ 94 55) (m 94 46) (m 94 11) 0 (m₉ 94 59) 0 1 (lCl aa)) → (qI (lCl aa)) → (qTp (lCl aa)) → ((m₉ 94 45).toInt = sm (zbU (m₉ 99)) (m 102) 3100) → P (some (.inl v)) (zov wr_186 m m₉)) : zm X 5 108 186 0 [(0, .inr (.inr (some 94)))] m P := by
  have K : ∀ v m₉, zF wr_186 m m₉ → zV m₉ → (zGW T (m₉ 94 55) (m₉ 109)) → (zGU T (m₉ 94 46) (m₉ 99)) → (zOw (m₉ 99) (m₉ 103) (m₉ 111)) → (qRB (m₉ 99) (m₉ 100) (m₉ 98) (m₉ 101) (m₉ 102) (m₉ 103) (m₉ 107) (m₉ 108) (m₉ 109) (m₉ 111) (m₉ 112) (m₉ 113) (m₉ 114) (m₉ 94 55) (m₉ 94 46) (m₉ 94 11) 0 (m₉ 94 59) 0 1 (lCl aa)) → (qI (lCl aa)) → (qTp (lCl aa)) → ((m₉ 94 45).toInt = sm (zbU (m₉ 99)) (m₉ 102) 3100) → P (some (.inl v)) m₉ := by
    intro v m₉ hf z q0 q1 q2 q3 q4 q5 q6
    have e := zov_eq hf
    rw [e] at z ⊢
    try rw [e] at q0
    try rw [e] at q1
    try rw [e] at q2
    try rw [e] at q3
    try rw [e] at q4
    try rw [e] at q5
    try rw [e] at q6
    exact KZ v m₉ z q0 q1 q2 q3 q4 q5 q6
  refine g_186_0  ?_
  have f1 : 0 ≤ (m 94 10).toInt ∧ (m 94 10).toInt ≤ 6 := rs_94_10 (m := m) hV
  have f2 : 0 ≤ (m 94 58).toInt ∧ (m 94 58).toInt ≤ 1 := rs_94_58 (m := m) hV
  refine sp_187rm (aa := aa)  hV (by omega) r_W r_GW r_GU r_OW (show (m 94 10).toInt ≠ 4 from by omega) r_RB r_QI r_WTS (fun v2 m1 hV_m1 p0_m1 p1_m1 p2_m1 p3_m1 p4_m1 p5_m1 => zmi_n ?_)
  have p0_m1 : zGW T (m1 94 55) (m1 109) := p0_m1
  have p1_m1 : zGU T (m 94 46) (m1 99) := p1_m1
  have p2_m1 : zOw (m1 99) (m 103) (m1 111) := p2_m1
  have p3_m1 : qRB (m1 99) (m 100) (m 98) (m 101) (m 102) (m 103) (m 107) (m 108) (m1 109) (m1 111) (m 112) (m1 113) (m1 114) (m1 94 55) (m 94 46) (m 94 11) 0 (m 94 59) 0 1 (aSw aa) := p3_m1
  have p4_m1 : qI (aSw aa) := p4_m1
  have p5_m1 : (m1 94 45).toInt = sm (zbU (m1 99)) (m 102) 3100 := p5_m1
  have f3 : 0 ≤ (m 94 11).toInt ∧ (m 94 11).toInt ≤ 1500 := rs_94_11 (m := m) hV
  refine sp_204rm (aa := (ma_u (aSw aa) 87 2 0)) (ro := (m 94 11)) ((m 94 11)) hV_m1 (by omega) (by omega) p2_m1 (show qRB (m1 99) (m 100) (m 98) (m 101) (m 102) (m 103) (m 107) (m 108) (m1 109) (m1 111) (m 112) (m1 113) (m1 114) (m1 94 55) (m 94 46) (m 94 11) 0 0 0 1 (ma_u (aSw aa) 87 2 0) from by first | (exact RB_872 p3_m1) | (exfalso; omega; done) | (exfalso; contradiction; done)) (show qI (ma_u (aSw aa) 87 2 0) from by first | (exact I_s0 r_QI) | (exfalso; omega; done) | (exfalso; contradiction; done)) (fun v4 m3 hV_m3 p0_m3 p1_m3 p2_m3 p3_m3 => zmi_n ?_)
  have p0_m3 : zOw (m1 99) (m3 103) (m3 111) := p0_m3
  have p1_m3 : qRB (m1 99) (m 100) (m 98) (m 101) (m 102) (m3 103) (m 107) (m 108) (m1 109) (m3 111) (m 112) (m1 113) (m1 114) (m1 94 55) (m 94 46) (m 94 11) 0 0 0 1 (zSd (ma_u (aSw aa) 87 2 0) (m 94 11).toInt 0 0).1 := p1_m3
  have p2_m3 : qEq v4.toInt (zSd (ma_u (aSw aa) 87 2 0) (m 94 11).toInt 0 0).2 ∧ ∃ p, (m 94 11).toInt ≤ p ∧ qJs (zSd (ma_u (aSw aa) 87 2 0) (m 94 11).toInt 0 0).1 p v4.toInt := p2_m3
  have p3_m3 : 0 ≤ v4.toInt ∧ v4.toInt ≤ 1600 := p3_m3
  have b5 := i_bd v4
  have hV4 : zV (ma_u (zov wr_204 (zov wr_187 m m1) m3) 94 59 v4) := us_94_59 hV_m3 (by omega) (by omega)
  have b6 := i_bd v2
  exact K (v2) _ (zF_u (zF_zov (zF_zov zF_rfl ws_187_186) ws_204_186) rfl) hV4 p0_m1 p1_m1 p0_m3 (show qRB (m1 99) (m 100) (m 98) (m 101) (m 102) (m3 103) (m 107) (m 108) (m1 109) (m3 111) (m 112) (m1 113) (m1 114) (m1 94 55) (m 94 46) (m 94 11) 0 v4 0 1 (lCl aa) from by first | (rw [(lCl_e (show aSw aa 87 0 = m 94 11 from sw_87.trans r_RB.2.2.2.2.2.2.2.2.1) p2_m3.1)]; exact RB_872 p1_m3; done) | (exfalso; omega; done) | (exfalso; contradiction; done)) (show qI (lCl aa) from by first | (rw [(lCl_e (show aSw aa 87 0 = m 94 11 from sw_87.trans r_RB.2.2.2.2.2.2.2.2.1) p2_m3.1)]; exact (Cl_J (by obtain ⟨p, hp, hJ⟩ := p2_m3.2; exact ⟨p, by rw [p1_m3.2.2.2.2.2.2.2.2.1]; exact hp, hJ⟩)).1; done) | (exfalso; omega; done) | (exfalso; contradiction; done)) (show qTp (lCl aa) from by first | (rw [(lCl_e (show aSw aa 87 0 = m 94 11 from sw_87.trans r_RB.2.2.2.2.2.2.2.2.1) p2_m3.1)]; exact (Cl_J (by obtain ⟨p, hp, hJ⟩ := p2_m3.2; exact ⟨p, by rw [p1_m3.2.2.2.2.2.2.2.2.1]; exact hp, hJ⟩)).2; done) | (exfalso; omega; done) | (exfalso; contradiction; done)) p5_m1

/-! from 95.r12 -/
/-! the reference where it moves (written by wip/tools/gen15r.py) -/
set_option maxHeartbeats 8000000 in
theorem sp_184rl {X : Nat × (Nat → Int32)} {P : Option ma_V → (Nat → Nat → Int32) → Prop} {T : Nat} {aa : Nat→Nat→Int32} {m : Nat → Nat → Int32} (nz : Int32) (hV : zV m) (hpre0 : 1 ≤ nz.toInt) (hpre1 : nz.toInt ≤ 61) (hpre2 : T ≤ 512) (r_W : zW (m 94 7) (m 98) (m 101) (m 102) (m 108)) (r_GW : zGW T (m 94 55) (m 109)) (r_GU : zGU T (m 94 46) (m 99)) (r_OW : zOw (m 99) (m 103) (m 111)) (r_GG : zGG (m 94 58) (m 94 56) (m 94 57) (m 106)) (hpre8 : (m 94 10).toInt = 1 ∧ (m 94 58).toInt = 0) (r_RB : qRB (m 99) (m 100) (m 98) (m 101) (m 102) (m 103) (m 107) (m 108) (m 109) (m 111) (m 112) (m 113) (m 114) (m 94 55) (m 94 46) (m 94 11) 0 (m 94 59) 0 1 aa) (r_QI : qI aa) (r_TP : qTp aa) (r_MG : qMG (m 94 58) (m 106) (m 115) (m 94 57) (m 94 56) (m 99) (m 100) aa) (r_MK : aa 87 8 = (m 94 58)) (r_WTS : (m 94 45).toInt = sm (zbU (m 99)) (m 102) 3100) (KZ : ∀ v m₉, zV (zov wr_184 m m₉) → (zGW T (m₉ 94 55) (m₉ 109)) → (zGU T (m 94 46) (m₉ 99)) → (zOw (m₉ 99) (m₉ 103) (m₉ 111)) → (zGG (m₉ 94 58) (m₉ 94 56) (m₉ 94 57) (m₉ 106)) → (-1 ≤ v.toInt ∧ v.toInt ≤ 1500) → (qRB (m₉ 99) (m 100) (m 98) (m 101) (m 102) (m₉ 103) (m 107) (m 108) (m₉ 109) (m₉ 111) (m 112) (m₉ 113) (m₉ 114) (m₉ 94 55) (m 94 46) (m 94 11) 0 (m₉ 94 59) 0 1 (lFt aa nz v)) → (qI (lFt aa nz v)) → (qMG (m₉ 94 58) (m₉ 106) (m₉ 115) (m₉ 94 57) (m₉ 94 56) (m₉ 99) (m 100) (lFt aa nz v)) → ((lFt aa nz v) 87 8 = (m₉ 94 58)) → ((m₉ 94 45).toInt = sm (zbU (m₉ 99)) (m 102) 3100) → (qEq v.toInt (lRp aa nz.toInt)) → (qI (lRs aa nz.toInt)) → (qTp (lRs aa nz.toInt)) → ((m₉ 94 58).toInt = 0) → P (some (.inl v)) (zov wr_184 m m₉)) : zm X 8 175 184 0 [(0, .inr (.inr (some 94))), (1, .inl nz)] m P := by
  have K : ∀ v m₉, zF wr_184 m m₉ → zV m₉ → (zGW T (m₉ 94 55) (m₉ 109)) → (zGU T (m₉ 94 46) (m₉ 99)) → (zOw (m₉ 99) (m₉ 103) (m₉ 111)) → (zGG (m₉ 94 58) (m₉ 94 56) (m₉ 94 57) (m₉ 106)) → (-1 ≤ v.toInt ∧ v.toInt ≤ 1500) → (qRB (m₉ 99) (m₉ 100) (m₉ 98) (m₉ 101) (m₉ 102) (m₉ 103) (m₉ 107) (m₉ 108) (m₉ 109) (m₉ 111) (m₉ 112) (m₉ 113) (m₉ 114) (m₉ 94 55) (m₉ 94 46) (m₉ 94 11) 0 (m₉ 94 59) 0 1 (lFt aa nz v)) → (qI (lFt aa nz v)) → (qMG (m₉ 94 58) (m₉ 106) (m₉ 115) (m₉ 94 57) (m₉ 94 56) (m₉ 99) (m₉ 100) (lFt aa nz v)) → ((lFt aa nz v) 87 8 = (m₉ 94 58)) → ((m₉ 94 45).toInt = sm (zbU (m₉ 99)) (m₉ 102) 3100) → (qEq v.toInt (lRp aa nz.toInt)) → (qI (lRs aa nz.toInt)) → (qTp (lRs aa nz.toInt)) → ((m₉ 94 58).toInt = 0) → P (some (.inl v)) m₉ := by
    intro v m₉ hf z q0 q1 q2 q3 q4 q5 q6 q7 q8 q9 q10 q11 q12 q13
    have e := zov_eq hf
    rw [e] at z ⊢
    try rw [e] at q0
    try rw [e] at q1
    try rw [e] at q2
    try rw [e] at q3
    try rw [e] at q4
    try rw [e] at q5
    try rw [e] at q6
    try rw [e] at q7
    try rw [e] at q8
    try rw [e] at q9
    try rw [e] at q10
    try rw [e] at q11
    try rw [e] at q12
    try rw [e] at q13
    exact KZ v m₉ z q0 q1 q2 q3 q4 q5 q6 q7 q8 q9 q10 q11 q12 q13
  refine g_184_0 nz ?_
  have f1 : 0 ≤ (m 94 10).toInt ∧ (m 94 10).toInt ≤ 6 := rs_94_10 (m := m) hV
  have f2 : 0 ≤ (m 94 58).toInt ∧ (m 94 58).toInt ≤ 1 := rs_94_58 (m := m) hV
  have li3 : (1 : Int32).toInt = 1 := rfl
  refine zd (fun (h4 : (m 94 10) = (1 : Int32)) => ?_) (fun (h4 : ¬ (m 94 10) = (1 : Int32)) => ?_)
  · skip
    have g5 := i_eq h4
    have f6 : 0 ≤ (m 94 59).toInt ∧ (m 94 59).toInt ≤ 4600 := rs_94_59 (m := m) hV
    have b7 := i_bd nz
    first | have e8 : ((m 94 59) + nz).toInt = (m 94 59).toInt + nz.toInt := i_add (by omega) (by omega) | have b9 := i_bd ((m 94 59) + nz)
    have f10 : 0 ≤ (m 94 11).toInt ∧ (m 94 11).toInt ≤ 1500 := rs_94_11 (m := m) hV
    refine zd (fun (h11 : ((m 94 59) + nz) ≤ (m 94 11)) => ?_) (fun (h11 : ¬ ((m 94 59) + nz) ≤ (m 94 11)) => ?_)
    · skip
      have g12 := i_le h11
      have li13 : (0 : Int32).toInt = 0 := rfl
      refine zd (fun (h14 : (m 94 59) < (0 : Int32)) => ?_) (fun (h14 : ¬ (m 94 59) < (0 : Int32)) => ?_)
      · skip
        have g15 := i_lt h14
        have hV16 : zV (ma_u m 94 59 ((m 94 59) + nz)) := us_94_59 hV (by omega) (by omega)
        refine sp_186rl (aa := aa)  hV16 (by omega) r_W r_GW r_GU r_OW (show (m 94 10).toInt = 1 ∧ (m 94 58).toInt = 0 from by omega) (show qRB (m 99) (m 100) (m 98) (m 101) (m 102) (m 103) (m 107) (m 108) (m 109) (m 111) (m 112) (m 113) (m 114) (m 94 55) (m 94 46) (m 94 11) 0 ((m 94 59) + nz) 0 1 aa from by first | (exact r_RB) | (exfalso; omega; done) | (exfalso; contradiction; done)) r_QI r_WTS (fun v2 m1 hV_m1 p0_m1 p1_m1 p2_m1 p3_m1 p4_m1 p5_m1 p6_m1 => zmi_n ?_)
        have p0_m1 : zGW T (m1 94 55) (m1 109) := p0_m1
        have p1_m1 : zGU T (m 94 46) (m1 99) := p1_m1
        have p2_m1 : zOw (m1 99) (m1 103) (m1 111) := p2_m1
        have p3_m1 : qRB (m1 99) (m 100) (m 98) (m 101) (m 102) (m1 103) (m 107) (m 108) (m1 109) (m1 111) (m 112) (m1 113) (m1 114) (m1 94 55) (m 94 46) (m 94 11) 0 (m1 94 59) 0 1 (lCl aa) := p3_m1
        have p4_m1 : qI (lCl aa) := p4_m1
        have p5_m1 : qTp (lCl aa) := p5_m1
        have p6_m1 : (m1 94 45).toInt = sm (zbU (m1 99)) (m 102) 3100 := p6_m1
        have f17 : 0 ≤ (m1 94 59).toInt ∧ (m1 94 59).toInt ≤ 4600 := rs_94_59 (m := (zov wr_186 (ma_u m 94 59 ((m 94 59) + nz)) m1)) hV_m1
        first | have e18 : ((m1 94 59) + nz).toInt = (m1 94 59).toInt + nz.toInt := i_add (by omega) (by omega) | have b19 := i_bd ((m1 94 59) + nz)
        refine zd (fun (h20 : ((m1 94 59) + nz) ≤ (m 94 11)) => ?_) (fun (h20 : ¬ ((m1 94 59) + nz) ≤ (m 94 11)) => ?_)
        · skip
          have g21 := i_le h20
          have hV22 : zV (ma_u (zov wr_186 (ma_u m 94 59 ((m 94 59) + nz)) m1) 94 59 ((m1 94 59) + nz)) := us_94_59 hV_m1 (by omega) (by omega)
          exact K ((m1 94 59)) _ (zF_u (zF_zov (zF_u zF_rfl rfl) ws_186_184) rfl) hV22 p0_m1 p1_m1 p2_m1 r_GG (show -1 ≤ (m1 94 59).toInt ∧ (m1 94 59).toInt ≤ 1500 from by omega) (show qRB (m1 99) (m 100) (m 98) (m 101) (m 102) (m1 103) (m 107) (m 108) (m1 109) (m1 111) (m 112) (m1 113) (m1 114) (m1 94 55) (m 94 46) (m 94 11) 0 ((m1 94 59) + nz) 0 1 (lFt aa nz (m1 94 59)) from by first | (have r0 := congrArg Int32.toInt r_RB.2.2.2.2.2.2.2.2.1; have r2 := congrArg Int32.toInt r_RB.2.2.2.2.2.2.2.2.2.2.1; have E := lRs_2 (a := aa) (z := nz.toInt) (by omega); have c0 := congrArg Int32.toInt p3_m1.2.2.2.2.2.2.2.2.1; have c2 := congrArg Int32.toInt p3_m1.2.2.2.2.2.2.2.2.2.2.1; have RP : qEq (m1 94 59).toInt (lRp aa nz.toInt) := (by unfold qEq; rw [lRp_2 E (by omega)]; omega); rw [lFt_y (by omega), E]; exact RB_872 p3_m1; done) | (exfalso; omega; done) | (exfalso; contradiction; done)) (show qI (lFt aa nz (m1 94 59)) from by first | (have r0 := congrArg Int32.toInt r_RB.2.2.2.2.2.2.2.2.1; have r2 := congrArg Int32.toInt r_RB.2.2.2.2.2.2.2.2.2.2.1; have E := lRs_2 (a := aa) (z := nz.toInt) (by omega); have c0 := congrArg Int32.toInt p3_m1.2.2.2.2.2.2.2.2.1; have c2 := congrArg Int32.toInt p3_m1.2.2.2.2.2.2.2.2.2.2.1; have RP : qEq (m1 94 59).toInt (lRp aa nz.toInt) := (by unfold qEq; rw [lRp_2 E (by omega)]; omega); rw [lFt_y (by omega)]; exact (Ft_I (by rw [E]; exact p4_m1) (by rw [E]; exact p5_m1) RP (by omega) (by omega) (by omega)).1; done) | (exfalso; omega; done) | (exfalso; contradiction; done)) (show qMG (m 94 58) (m 106) (m 115) (m 94 57) (m 94 56) (m1 99) (m 100) (lFt aa nz (m1 94 59)) from by first | (exact fun z => absurd (by omega) z) | (exfalso; omega; done) | (exfalso; contradiction; done)) (show (lFt aa nz (m1 94 59)) 87 8 = (m 94 58) from by first | (rw [Ft_87 (by decide)]; exact r_MK; done) | (exfalso; omega; done) | (exfalso; contradiction; done)) p6_m1 (show qEq (m1 94 59).toInt (lRp aa nz.toInt) from by first | (have r0 := congrArg Int32.toInt r_RB.2.2.2.2.2.2.2.2.1; have r2 := congrArg Int32.toInt r_RB.2.2.2.2.2.2.2.2.2.2.1; have E := lRs_2 (a := aa) (z := nz.toInt) (by omega); have c0 := congrArg Int32.toInt p3_m1.2.2.2.2.2.2.2.2.1; have c2 := congrArg Int32.toInt p3_m1.2.2.2.2.2.2.2.2.2.2.1; have RP : qEq (m1 94 59).toInt (lRp aa nz.toInt) := (by unfold qEq; rw [lRp_2 E (by omega)]; omega); exact RP; done) | (exfalso; omega; done) | (exfalso; contradiction; done)) (show qI (lRs aa nz.toInt) from by first | (have r0 := congrArg Int32.toInt r_RB.2.2.2.2.2.2.2.2.1; have r2 := congrArg Int32.toInt r_RB.2.2.2.2.2.2.2.2.2.2.1; have E := lRs_2 (a := aa) (z := nz.toInt) (by omega); have c0 := congrArg Int32.toInt p3_m1.2.2.2.2.2.2.2.2.1; have c2 := congrArg Int32.toInt p3_m1.2.2.2.2.2.2.2.2.2.2.1; have RP : qEq (m1 94 59).toInt (lRp aa nz.toInt) := (by unfold qEq; rw [lRp_2 E (by omega)]; omega); rw [E]; exact p4_m1; done) | (exfalso; omega; done) | (exfalso; contradiction; done)) (show qTp (lRs aa nz.toInt) from by first | (have r0 := congrArg Int32.toInt r_RB.2.2.2.2.2.2.2.2.1; have r2 := congrArg Int32.toInt r_RB.2.2.2.2.2.2.2.2.2.2.1; have E := lRs_2 (a := aa) (z := nz.toInt) (by omega); have c0 := congrArg Int32.toInt p3_m1.2.2.2.2.2.2.2.2.1; have c2 := congrArg Int32.toInt p3_m1.2.2.2.2.2.2.2.2.2.2.1; have RP : qEq (m1 94 59).toInt (lRp aa nz.toInt) := (by unfold qEq; rw [lRp_2 E (by omega)]; omega); rw [E]; exact p5_m1; done) | (exfalso; omega; done) | (exfalso; contradiction; done)) (show (m 94 58).toInt = 0 from by omega)
        · skip
          have g23 := i_nle h20
          have li24 : (-1 : Int32).toInt = -1 := rfl
          exact K ((-1 : Int32)) _ (zF_zov (zF_u zF_rfl rfl) ws_186_184) hV_m1 p0_m1 p1_m1 p2_m1 r_GG (show -1 ≤ (-1 : Int32).toInt ∧ (-1 : Int32).toInt ≤ 1500 from by omega) (show qRB (m1 99) (m 100) (m 98) (m 101) (m 102) (m1 103) (m 107) (m 108) (m1 109) (m1 111) (m 112) (m1 113) (m1 114) (m1 94 55) (m 94 46) (m 94 11) 0 (m1 94 59) 0 1 (lFt aa nz (-1 : Int32)) from by first | (have r0 := congrArg Int32.toInt r_RB.2.2.2.2.2.2.2.2.1; have r2 := congrArg Int32.toInt r_RB.2.2.2.2.2.2.2.2.2.2.1; have E := lRs_2 (a := aa) (z := nz.toInt) (by omega); have c0 := congrArg Int32.toInt p3_m1.2.2.2.2.2.2.2.2.1; have c2 := congrArg Int32.toInt p3_m1.2.2.2.2.2.2.2.2.2.2.1; have RP : qEq (-1 : Int32).toInt (lRp aa nz.toInt) := (by unfold qEq; rw [lRp_1 E (by omega)]; rfl); rw [lFt_n (by decide), E]; exact p3_m1; done) | (exfalso; omega; done) | (exfalso; contradiction; done)) (show qI (lFt aa nz (-1 : Int32)) from by first | (have r0 := congrArg Int32.toInt r_RB.2.2.2.2.2.2.2.2.1; have r2 := congrArg Int32.toInt r_RB.2.2.2.2.2.2.2.2.2.2.1; have E := lRs_2 (a := aa) (z := nz.toInt) (by omega); have c0 := congrArg Int32.toInt p3_m1.2.2.2.2.2.2.2.2.1; have c2 := congrArg Int32.toInt p3_m1.2.2.2.2.2.2.2.2.2.2.1; have RP : qEq (-1 : Int32).toInt (lRp aa nz.toInt) := (by unfold qEq; rw [lRp_1 E (by omega)]; rfl); rw [lFt_n (by decide), E]; exact p4_m1; done) | (exfalso; omega; done) | (exfalso; contradiction; done)) (show qMG (m 94 58) (m 106) (m 115) (m 94 57) (m 94 56) (m1 99) (m 100) (lFt aa nz (-1 : Int32)) from by first | (exact fun z => absurd (by omega) z) | (exfalso; omega; done) | (exfalso; contradiction; done)) (show (lFt aa nz (-1 : Int32)) 87 8 = (m 94 58) from by first | (rw [Ft_87 (by decide)]; exact r_MK; done) | (exfalso; omega; done) | (exfalso; contradiction; done)) p6_m1 (show qEq (-1 : Int32).toInt (lRp aa nz.toInt) from by first | (have r0 := congrArg Int32.toInt r_RB.2.2.2.2.2.2.2.2.1; have r2 := congrArg Int32.toInt r_RB.2.2.2.2.2.2.2.2.2.2.1; have E := lRs_2 (a := aa) (z := nz.toInt) (by omega); have c0 := congrArg Int32.toInt p3_m1.2.2.2.2.2.2.2.2.1; have c2 := congrArg Int32.toInt p3_m1.2.2.2.2.2.2.2.2.2.2.1; have RP : qEq (-1 : Int32).toInt (lRp aa nz.toInt) := (by unfold qEq; rw [lRp_1 E (by omega)]; rfl); exact RP; done) | (exfalso; omega; done) | (exfalso; contradiction; done)) (show qI (lRs aa nz.toInt) from by first | (have r0 := congrArg Int32.toInt r_RB.2.2.2.2.2.2.2.2.1; have r2 := congrArg Int32.toInt r_RB.2.2.2.2.2.2.2.2.2.2.1; have E := lRs_2 (a := aa) (z := nz.toInt) (by omega); have c0 := congrArg Int32.toInt p3_m1.2.2.2.2.2.2.2.2.1; have c2 := congrArg Int32.toInt p3_m1.2.2.2.2.2.2.2.2.2.2.1; have RP : qEq (-1 : Int32).toInt (lRp aa nz.toInt) := (by unfold qEq; rw [lRp_1 E (by omega)]; rfl); rw [E]; exact p4_m1; done) | (exfalso; omega; done) | (exfalso; contradiction; done)) (show qTp (lRs aa nz.toInt) from by first | (have r0 := congrArg Int32.toInt r_RB.2.2.2.2.2.2.2.2.1; have r2 := congrArg Int32.toInt r_RB.2.2.2.2.2.2.2.2.2.2.1; have E := lRs_2 (a := aa) (z := nz.toInt) (by omega); have c0 := congrArg Int32.toInt p3_m1.2.2.2.2.2.2.2.2.1; have c2 := congrArg Int32.toInt p3_m1.2.2.2.2.2.2.2.2.2.2.1; have RP : qEq (-1 : Int32).toInt (lRp aa nz.toInt) := (by unfold qEq; rw [lRp_1 E (by omega)]; rfl); rw [E]; exact p5_m1; done) | (exfalso; omega; done) | (exfalso; contradiction; done)) (show (m 94 58).toInt = 0 from by omega)
      · skip
        have g25 := i_nlt h14
        have hV26 : zV (ma_u m 94 59 ((m 94 59) + nz)) := us_94_59 hV (by omega) (by omega)
        exact K ((m 94 59)) _ (zF_u zF_rfl rfl) hV26 r_GW r_GU r_OW r_GG (show -1 ≤ (m 94 59).toInt ∧ (m 94 59).toInt ≤ 1500 from by omega) (show qRB (m 99) (m 100) (m 98) (m 101) (m 102) (m 103) (m 107) (m 108) (m 109) (m 111) (m 112) (m 113) (m 114) (m 94 55) (m 94 46) (m 94 11) 0 ((m 94 59) + nz) 0 1 (lFt aa nz (m 94 59)) from by first | (have r0 := congrArg Int32.toInt r_RB.2.2.2.2.2.2.2.2.1; have r2 := congrArg Int32.toInt r_RB.2.2.2.2.2.2.2.2.2.2.1; have E := lRs_1 (a := aa) (z := nz.toInt) (by omega); have RP : qEq (m 94 59).toInt (lRp aa nz.toInt) := (by unfold qEq; rw [lRp_2 E (by omega)]; omega); rw [lFt_y (by omega), E]; exact RB_872 r_RB; done) | (exfalso; omega; done) | (exfalso; contradiction; done)) (show qI (lFt aa nz (m 94 59)) from by first | (have r0 := congrArg Int32.toInt r_RB.2.2.2.2.2.2.2.2.1; have r2 := congrArg Int32.toInt r_RB.2.2.2.2.2.2.2.2.2.2.1; have E := lRs_1 (a := aa) (z := nz.toInt) (by omega); have RP : qEq (m 94 59).toInt (lRp aa nz.toInt) := (by unfold qEq; rw [lRp_2 E (by omega)]; omega); rw [lFt_y (by omega)]; exact (Ft_I (by rw [E]; exact r_QI) (by rw [E]; exact r_TP) RP (by omega) (by omega) (by omega)).1; done) | (exfalso; omega; done) | (exfalso; contradiction; done)) (show qMG (m 94 58) (m 106) (m 115) (m 94 57) (m 94 56) (m 99) (m 100) (lFt aa nz (m 94 59)) from by first | (exact fun z => absurd (by omega) z) | (exfalso; omega; done) | (exfalso; contradiction; done)) (show (lFt aa nz (m 94 59)) 87 8 = (m 94 58) from by first | (rw [Ft_87 (by decide)]; exact r_MK; done) | (exfalso; omega; done) | (exfalso; contradiction; done)) r_WTS (show qEq (m 94 59).toInt (lRp aa nz.toInt) from by first | (have r0 := congrArg Int32.toInt r_RB.2.2.2.2.2.2.2.2.1; have r2 := congrArg Int32.toInt r_RB.2.2.2.2.2.2.2.2.2.2.1; have E := lRs_1 (a := aa) (z := nz.toInt) (by omega); have RP : qEq (m 94 59).toInt (lRp aa nz.toInt) := (by unfold qEq; rw [lRp_2 E (by omega)]; omega); exact RP; done) | (exfalso; omega; done) | (exfalso; contradiction; done)) (show qI (lRs aa nz.toInt) from by first | (have r0 := congrArg Int32.toInt r_RB.2.2.2.2.2.2.2.2.1; have r2 := congrArg Int32.toInt r_RB.2.2.2.2.2.2.2.2.2.2.1; have E := lRs_1 (a := aa) (z := nz.toInt) (by omega); have RP : qEq (m 94 59).toInt (lRp aa nz.toInt) := (by unfold qEq; rw [lRp_2 E (by omega)]; omega); rw [E]; exact r_QI; done) | (exfalso; omega; done) | (exfalso; contradiction; done)) (show qTp (lRs aa nz.toInt) from by first | (have r0 := congrArg Int32.toInt r_RB.2.2.2.2.2.2.2.2.1; have r2 := congrArg Int32.toInt r_RB.2.2.2.2.2.2.2.2.2.2.1; have E := lRs_1 (a := aa) (z := nz.toInt) (by omega); have RP : qEq (m 94 59).toInt (lRp aa nz.toInt) := (by unfold qEq; rw [lRp_2 E (by omega)]; omega); rw [E]; exact r_TP; done) | (exfalso; omega; done) | (exfalso; contradiction; done)) (show (m 94 58).toInt = 0 from by omega)
    · skip
      have g27 := i_nle h11
      refine sp_186rl (aa := aa)  hV (by omega) r_W r_GW r_GU r_OW (show (m 94 10).toInt = 1 ∧ (m 94 58).toInt = 0 from by omega) r_RB r_QI r_WTS (fun v4 m3 hV_m3 p0_m3 p1_m3 p2_m3 p3_m3 p4_m3 p5_m3 p6_m3 => zmi_n ?_)
      have p0_m3 : zGW T (m3 94 55) (m3 109) := p0_m3
      have p1_m3 : zGU T (m 94 46) (m3 99) := p1_m3
      have p2_m3 : zOw (m3 99) (m3 103) (m3 111) := p2_m3
      have p3_m3 : qRB (m3 99) (m 100) (m 98) (m 101) (m 102) (m3 103) (m 107) (m 108) (m3 109) (m3 111) (m 112) (m3 113) (m3 114) (m3 94 55) (m 94 46) (m 94 11) 0 (m3 94 59) 0 1 (lCl aa) := p3_m3
      have p4_m3 : qI (lCl aa) := p4_m3
      have p5_m3 : qTp (lCl aa) := p5_m3
      have p6_m3 : (m3 94 45).toInt = sm (zbU (m3 99)) (m 102) 3100 := p6_m3
      have f28 : 0 ≤ (m3 94 59).toInt ∧ (m3 94 59).toInt ≤ 4600 := rs_94_59 (m := (zov wr_186 m m3)) hV_m3
      first | have e29 : ((m3 94 59) + nz).toInt = (m3 94 59).toInt + nz.toInt := i_add (by omega) (by omega) | have b30 := i_bd ((m3 94 59) + nz)
      refine zd (fun (h31 : ((m3 94 59) + nz) ≤ (m 94 11)) => ?_) (fun (h31 : ¬ ((m3 94 59) + nz) ≤ (m 94 11)) => ?_)
      · skip
        have g32 := i_le h31
        have hV33 : zV (ma_u (zov wr_186 m m3) 94 59 ((m3 94 59) + nz)) := us_94_59 hV_m3 (by omega) (by omega)
        exact K ((m3 94 59)) _ (zF_u (zF_zov zF_rfl ws_186_184) rfl) hV33 p0_m3 p1_m3 p2_m3 r_GG (show -1 ≤ (m3 94 59).toInt ∧ (m3 94 59).toInt ≤ 1500 from by omega) (show qRB (m3 99) (m 100) (m 98) (m 101) (m 102) (m3 103) (m 107) (m 108) (m3 109) (m3 111) (m 112) (m3 113) (m3 114) (m3 94 55) (m 94 46) (m 94 11) 0 ((m3 94 59) + nz) 0 1 (lFt aa nz (m3 94 59)) from by first | (have r0 := congrArg Int32.toInt r_RB.2.2.2.2.2.2.2.2.1; have r2 := congrArg Int32.toInt r_RB.2.2.2.2.2.2.2.2.2.2.1; have E := lRs_2 (a := aa) (z := nz.toInt) (by omega); have c0 := congrArg Int32.toInt p3_m3.2.2.2.2.2.2.2.2.1; have c2 := congrArg Int32.toInt p3_m3.2.2.2.2.2.2.2.2.2.2.1; have RP : qEq (m3 94 59).toInt (lRp aa nz.toInt) := (by unfold qEq; rw [lRp_2 E (by omega)]; omega); rw [lFt_y (by omega), E]; exact RB_872 p3_m3; done) | (exfalso; omega; done) | (exfalso; contradiction; done)) (show qI (lFt aa nz (m3 94 59)) from by first | (have r0 := congrArg Int32.toInt r_RB.2.2.2.2.2.2.2.2.1; have r2 := congrArg Int32.toInt r_RB.2.2.2.2.2.2.2.2.2.2.1; have E := lRs_2 (a := aa) (z := nz.toInt) (by omega); have c0 := congrArg Int32.toInt p3_m3.2.2.2.2.2.2.2.2.1; have c2 := congrArg Int32.toInt p3_m3.2.2.2.2.2.2.2.2.2.2.1; have RP : qEq (m3 94 59).toInt (lRp aa nz.toInt) := (by unfold qEq; rw [lRp_2 E (by omega)]; omega); rw [lFt_y (by omega)]; exact (Ft_I (by rw [E]; exact p4_m3) (by rw [E]; exact p5_m3) RP (by omega) (by omega) (by omega)).1; done) | (exfalso; omega; done) | (exfalso; contradiction; done)) (show qMG (m 94 58) (m 106) (m 115) (m 94 57) (m 94 56) (m3 99) (m 100) (lFt aa nz (m3 94 59)) from by first | (exact fun z => absurd (by omega) z) | (exfalso; omega; done) | (exfalso; contradiction; done)) (show (lFt aa nz (m3 94 59)) 87 8 = (m 94 58) from by first | (rw [Ft_87 (by decide)]; exact r_MK; done) | (exfalso; omega; done) | (exfalso; contradiction; done)) p6_m3 (show qEq (m3 94 59).toInt (lRp aa nz.toInt) from by first | (have r0 := congrArg Int32.toInt r_RB.2.2.2.2.2.2.2.2.1; have r2 := congrArg Int32.toInt r_RB.2.2.2.2.2.2.2.2.2.2.1; have E := lRs_2 (a := aa) (z := nz.toInt) (by omega); have c0 := congrArg Int32.toInt p3_m3.2.2.2.2.2.2.2.2.1; have c2 := congrArg Int32.toInt p3_m3.2.2.2.2.2.2.2.2.2.2.1; have RP : qEq (m3 94 59).toInt (lRp aa nz.toInt) := (by unfold qEq; rw [lRp_2 E (by omega)]; omega); exact RP; done) | (exfalso; omega; done) | (exfalso; contradiction; done)) (show qI (lRs aa nz.toInt) from by first | (have r0 := congrArg Int32.toInt r_RB.2.2.2.2.2.2.2.2.1; have r2 := congrArg Int32.toInt r_RB.2.2.2.2.2.2.2.2.2.2.1; have E := lRs_2 (a := aa) (z := nz.toInt) (by omega); have c0 := congrArg Int32.toInt p3_m3.2.2.2.2.2.2.2.2.1; have c2 := congrArg Int32.toInt p3_m3.2.2.2.2.2.2.2.2.2.2.1; have RP : qEq (m3 94 59).toInt (lRp aa nz.toInt) := (by unfold qEq; rw [lRp_2 E (by omega)]; omega); rw [E]; exact p4_m3; done) | (exfalso; omega; done) | (exfalso; contradiction; done)) (show qTp (lRs aa nz.toInt) from by first | (have r0 := congrArg Int32.toInt r_RB.2.2.2.2.2.2.2.2.1; have r2 := congrArg Int32.toInt r_RB.2.2.2.2.2.2.2.2.2.2.1; have E := lRs_2 (a := aa) (z := nz.toInt) (by omega); have c0 := congrArg Int32.toInt p3_m3.2.2.2.2.2.2.2.2.1; have c2 := congrArg Int32.toInt p3_m3.2.2.2.2.2.2.2.2.2.2.1; have RP : qEq (m3 94 59).toInt (lRp aa nz.toInt) := (by unfold qEq; rw [lRp_2 E (by omega)]; omega); rw [E]; exact p5_m3; done) | (exfalso; omega; done) | (exfalso; contradiction; done)) (show (m 94 58).toInt = 0 from by omega)
      · skip
        have g34 := i_nle h31
        have li35 : (-1 : Int32).toInt = -1 := rfl
        exact K ((-1 : Int32)) _ (zF_zov zF_rfl ws_186_184) hV_m3 p0_m3 p1_m3 p2_m3 r_GG (show -1 ≤ (-1 : Int32).toInt ∧ (-1 : Int32).toInt ≤ 1500 from by omega) (show qRB (m3 99) (m 100) (m 98) (m 101) (m 102) (m3 103) (m 107) (m 108) (m3 109) (m3 111) (m 112) (m3 113) (m3 114) (m3 94 55) (m 94 46) (m 94 11) 0 (m3 94 59) 0 1 (lFt aa nz (-1 : Int32)) from by first | (have r0 := congrArg Int32.toInt r_RB.2.2.2.2.2.2.2.2.1; have r2 := congrArg Int32.toInt r_RB.2.2.2.2.2.2.2.2.2.2.1; have E := lRs_2 (a := aa) (z := nz.toInt) (by omega); have c0 := congrArg Int32.toInt p3_m3.2.2.2.2.2.2.2.2.1; have c2 := congrArg Int32.toInt p3_m3.2.2.2.2.2.2.2.2.2.2.1; have RP : qEq (-1 : Int32).toInt (lRp aa nz.toInt) := (by unfold qEq; rw [lRp_1 E (by omega)]; rfl); rw [lFt_n (by decide), E]; exact p3_m3; done) | (exfalso; omega; done) | (exfalso; contradiction; done)) (show qI (lFt aa nz (-1 : Int32)) from by first | (have r0 := congrArg Int32.toInt r_RB.2.2.2.2.2.2.2.2.1; have r2 := congrArg Int32.toInt r_RB.2.2.2.2.2.2.2.2.2.2.1; have E := lRs_2 (a := aa) (z := nz.toInt) (by omega); have c0 := congrArg Int32.toInt p3_m3.2.2.2.2.2.2.2.2.1; have c2 := congrArg Int32.toInt p3_m3.2.2.2.2.2.2.2.2.2.2.1; have RP : qEq (-1 : Int32).toInt (lRp aa nz.toInt) := (by unfold qEq; rw [lRp_1 E (by omega)]; rfl); rw [lFt_n (by decide), E]; exact p4_m3; done) | (exfalso; omega; done) | (exfalso; contradiction; done)) (show qMG (m 94 58) (m 106) (m 115) (m 94 57) (m 94 56) (m3 99) (m 100) (lFt aa nz (-1 : Int32)) from by first | (exact fun z => absurd (by omega) z) | (exfalso; omega; done) | (exfalso; contradiction; done)) (show (lFt aa nz (-1 : Int32)) 87 8 = (m 94 58) from by first | (rw [Ft_87 (by decide)]; exact r_MK; done) | (exfalso; omega; done) | (exfalso; contradiction; done)) p6_m3 (show qEq (-1 : Int32).toInt (lRp aa nz.toInt) from by first | (have r0 := congrArg Int32.toInt r_RB.2.2.2.2.2.2.2.2.1; have r2 := congrArg Int32.toInt r_RB.2.2.2.2.2.2.2.2.2.2.1; have E := lRs_2 (a := aa) (z := nz.toInt) (by omega); have c0 := congrArg Int32.toInt p3_m3.2.2.2.2.2.2.2.2.1; have c2 := congrArg Int32.toInt p3_m3.2.2.2.2.2.2.2.2.2.2.1; have RP : qEq (-1 : Int32).toInt (lRp aa nz.toInt) := (by unfold qEq; rw [lRp_1 E (by omega)]; rfl); exact RP; done) | (exfalso; omega; done) | (exfalso; contradiction; done)) (show qI (lRs aa nz.toInt) from by first | (have r0 := congrArg Int32.toInt r_RB.2.2.2.2.2.2.2.2.1; have r2 := congrArg Int32.toInt r_RB.2.2.2.2.2.2.2.2.2.2.1; have E := lRs_2 (a := aa) (z := nz.toInt) (by omega); have c0 := congrArg Int32.toInt p3_m3.2.2.2.2.2.2.2.2.1; have c2 := congrArg Int32.toInt p3_m3.2.2.2.2.2.2.2.2.2.2.1; have RP : qEq (-1 : Int32).toInt (lRp aa nz.toInt) := (by unfold qEq; rw [lRp_1 E (by omega)]; rfl); rw [E]; exact p4_m3; done) | (exfalso; omega; done) | (exfalso; contradiction; done)) (show qTp (lRs aa nz.toInt) from by first | (have r0 := congrArg Int32.toInt r_RB.2.2.2.2.2.2.2.2.1; have r2 := congrArg Int32.toInt r_RB.2.2.2.2.2.2.2.2.2.2.1; have E := lRs_2 (a := aa) (z := nz.toInt) (by omega); have c0 := congrArg Int32.toInt p3_m3.2.2.2.2.2.2.2.2.1; have c2 := congrArg Int32.toInt p3_m3.2.2.2.2.2.2.2.2.2.2.1; have RP : qEq (-1 : Int32).toInt (lRp aa nz.toInt) := (by unfold qEq; rw [lRp_1 E (by omega)]; rfl); rw [E]; exact p5_m3; done) | (exfalso; omega; done) | (exfalso; contradiction; done)) (show (m 94 58).toInt = 0 from by omega)
  · skip
    have g36 := i_ne h4
    exfalso; omega
set_option maxHeartbeats 8000000 in
theorem sp_256rl {X : Nat × (Nat → Int32)} {P : Option ma_V → (Nat → Nat → Int32) → Prop} {T : Nat} {aa : Nat→Nat→Int32} {m : Nat → Nat → Int32}  (hV : zV m) (hpre0 : T ≤ 512) (r_W : zW (m 94 7) (m 98) (m 101) (m 102) (m 108)) (r_GW : zGW T (m 94 55) (m 109)) (r_GU : zGU T (m 94 46) (m 99)) (r_OW : zOw (m 99) (m 103) (m 111)) (r_GG : zGG (m 94 58) (m 94 56) (m 94 57) (m 106)) (hpre6 : (m 94 10).toInt = 1 ∧ (m 94 58).toInt = 0) (hpre7 : (m 94 8).toInt = 1) (r_RB : qRB (m 99) (m 100) (m 98) (m 101) (m 102) (m 103) (m 107) (m 108) (m 109) (m 111) (m 112) (m 113) (m 114) (m 94 55) (m 94 46) (m 94 11) 0 (m 94 59) 0 1 aa) (r_QI : qI aa) (r_MG : qMG (m 94 58) (m 106) (m 115) (m 94 57) (m 94 56) (m 99) (m 100) aa) (r_MK : aa 87 8 = (m 94 58)) (r_WTS : (m 94 45).toInt = sm (zbU (m 99)) (m 102) 3100) (KZ : ∀ v m₉, zV (zov wr_256 m m₉) → (zW (m 94 7) (m 98) (m 101) (m 102) (m 108)) → (zGW T (m₉ 94 55) (m₉ 109)) → (zGU T (m 94 46) (m₉ 99)) → (zOw (m₉ 99) (m₉ 103) (m₉ 111)) → (zGG (m₉ 94 58) (m₉ 94 56) (m₉ 94 57) (m₉ 106)) → (qRB (m₉ 99) (m 100) (m 98) (m 101) (m 102) (m₉ 103) (m 107) (m 108) (m₉ 109) (m₉ 111) (m 112) (m₉ 113) (m₉ 114) (m₉ 94 55) (m 94 46) (m 94 11) 0 (m₉ 94 59) 0 1 (lCl aa)) → (qI (lCl aa)) → (qMG (m₉ 94 58) (m₉ 106) (m₉ 115) (m₉ 94 57) (m₉ 94 56) (m₉ 99) (m 100) (lCl aa)) → ((lCl aa) 87 8 = (m₉ 94 58)) → ((m₉ 94 45).toInt = sm (zbU (m₉ 99)) (m 102) 3100) → (qTp (lCl aa)) → ((m₉ 94 58).toInt = 0) → P (some (.inl v)) (zov wr_256 m m₉)) : zm X 7 152 256 0 [(0, .inr (.inr (some 94)))] m P := by
  have K : ∀ v m₉, zF wr_256 m m₉ → zV m₉ → (zW (m₉ 94 7) (m₉ 98) (m₉ 101) (m₉ 102) (m₉ 108)) → (zGW T (m₉ 94 55) (m₉ 109)) → (zGU T (m₉ 94 46) (m₉ 99)) → (zOw (m₉ 99) (m₉ 103) (m₉ 111)) → (zGG (m₉ 94 58) (m₉ 94 56) (m₉ 94 57) (m₉ 106)) → (qRB (m₉ 99) (m₉ 100) (m₉ 98) (m₉ 101) (m₉ 102) (m₉ 103) (m₉ 107) (m₉ 108) (m₉ 109) (m₉ 111) (m₉ 112) (m₉ 113) (m₉ 114) (m₉ 94 55) (m₉ 94 46) (m₉ 94 11) 0 (m₉ 94 59) 0 1 (lCl aa)) → (qI (lCl aa)) → (qMG (m₉ 94 58) (m₉ 106) (m₉ 115) (m₉ 94 57) (m₉ 94 56) (m₉ 99) (m₉ 100) (lCl aa)) → ((lCl aa) 87 8 = (m₉ 94 58)) → ((m₉ 94 45).toInt = sm (zbU (m₉ 99)) (m₉ 102) 3100) → (qTp (lCl aa)) → ((m₉ 94 58).toInt = 0) → P (some (.inl v)) m₉ := by
    intro v m₉ hf z q0 q1 q2 q3 q4 q5 q6 q7 q8 q9 q10 q11
    have e := zov_eq hf
    rw [e] at z ⊢
    try rw [e] at q0
    try rw [e] at q1
    try rw [e] at q2
    try rw [e] at q3
    try rw [e] at q4
    try rw [e] at q5
    try rw [e] at q6
    try rw [e] at q7
    try rw [e] at q8
    try rw [e] at q9
    try rw [e] at q10
    try rw [e] at q11
    exact KZ v m₉ z q0 q1 q2 q3 q4 q5 q6 q7 q8 q9 q10 q11
  refine g_256_0  ?_
  have f1 : 0 ≤ (m 94 10).toInt ∧ (m 94 10).toInt ≤ 6 := rs_94_10 (m := m) hV
  have f2 : 0 ≤ (m 94 58).toInt ∧ (m 94 58).toInt ≤ 1 := rs_94_58 (m := m) hV
  have f3 : 0 ≤ (m 94 8).toInt ∧ (m 94 8).toInt ≤ 1 := rs_94_8 (m := m) hV
  have li4 : (0 : Int32).toInt = 0 := rfl
  refine zd (fun (h5 : (m 94 8) = (0 : Int32)) => ?_) (fun (h5 : ¬ (m 94 8) = (0 : Int32)) => ?_)
  · skip
    have g6 := i_eq h5
    exfalso; omega
  · skip
    have g7 := i_ne h5
    have li8 : (1 : Int32).toInt = 1 := rfl
    refine zd (fun (h9 : (m 94 10) = (1 : Int32)) => ?_) (fun (h9 : ¬ (m 94 10) = (1 : Int32)) => ?_)
    · skip
      have g10 := i_eq h9
      have hV11 : zV (ma_u m 94 0 (0 : Int32)) := uf_94_0 hV
      refine sp_186rl (aa := aa)  hV11 (by omega) r_W r_GW r_GU r_OW (show (m 94 10).toInt = 1 ∧ (m 94 58).toInt = 0 from by omega) r_RB r_QI r_WTS (fun v2 m1 hV_m1 p0_m1 p1_m1 p2_m1 p3_m1 p4_m1 p5_m1 p6_m1 => zmi_n ?_)
      have p0_m1 : zGW T (m1 94 55) (m1 109) := p0_m1
      have p1_m1 : zGU T (m 94 46) (m1 99) := p1_m1
      have p2_m1 : zOw (m1 99) (m1 103) (m1 111) := p2_m1
      have p3_m1 : qRB (m1 99) (m 100) (m 98) (m 101) (m 102) (m1 103) (m 107) (m 108) (m1 109) (m1 111) (m 112) (m1 113) (m1 114) (m1 94 55) (m 94 46) (m 94 11) 0 (m1 94 59) 0 1 (lCl aa) := p3_m1
      have p4_m1 : qI (lCl aa) := p4_m1
      have p5_m1 : qTp (lCl aa) := p5_m1
      have p6_m1 : (m1 94 45).toInt = sm (zbU (m1 99)) (m 102) 3100 := p6_m1
      have b12 := i_bd v2
      exact K (v2) _ (zF_zov (zF_u zF_rfl rfl) ws_186_256) hV_m1 r_W p0_m1 p1_m1 p2_m1 r_GG p3_m1 p4_m1 (show qMG (m 94 58) (m 106) (m 115) (m 94 57) (m 94 56) (m1 99) (m 100) (lCl aa) from by first | (exact fun z => absurd (by omega) z) | (exfalso; omega; done) | (exfalso; contradiction; done)) (show (lCl aa) 87 8 = (m 94 58) from by first | (rw [lC_87 (by decide)]; exact r_MK; done) | (exfalso; omega; done) | (exfalso; contradiction; done)) p6_m1 p5_m1 (show (m 94 58).toInt = 0 from by omega)
    · skip
      have g13 := i_ne h9
      exfalso; omega

