/-! from 95.r18 -/
/-! the reference where it moves (written by wip/tools/gen15r.py) -/
theorem lp_208rv_33 {X : Nat × (Nat → Int32)} {P : Option ma_V → (Nat → Nat → Int32) → Prop} {aa : Nat→Nat→Int32} {AT : Nat→Int32} {OW : Nat→Int32} {ro : Int32} {st : Int} {ot : Int} {rr : Int} {m0 : Nat → Nat → Int32} (h0 : zV m0) (K : ∀ m₉, zF wr_208 m0 m₉ → zV m₉ → (zOw (m₉ 99) (m₉ 103) (m₉ 111)) → (qHB (m₉ 99) (m₉ 100) (m₉ 98) (m₉ 101) (m₉ 102) AT (m₉ 107) (m₉ 108) (m₉ 109) OW (m₉ 112) (m₉ 113) (m₉ 114) (m₉ 94 55) (m₉ 94 46) ro 0 0 0 1 (m₉ 110) (m₉ 119) (m₉ 94 76) (m₉ 94 75) (m₉ 103) (m₉ 111) (m₉ 94 77) st ot rr (aSp 512 aa)) → ((m₉ 94 75).toInt ≤ (m₉ 94 76).toInt) → P none m₉) {n0 : Nat} (OUT0 : ∀ (m₉ : Nat → Nat → Int32) , (3101 - (m₉ 94 76).toInt).toNat < n0 → zF wr_208 m0 m₉ → zV m₉ → ((m₉ 94 10).toInt = 2) → (zW (m₉ 94 7) (m₉ 98) (m₉ 101) (m₉ 102) (m₉ 108)) → (zOw (m₉ 99) (m₉ 103) (m₉ 111)) → (qHS (m₉ 99) (m₉ 100) (m₉ 98) (m₉ 101) (m₉ 102) AT (m₉ 107) (m₉ 108) (m₉ 109) OW (m₉ 112) (m₉ 113) (m₉ 114) (m₉ 94 55) (m₉ 94 46) ro 0 0 0 1 (m₉ 110) (m₉ 119) (m₉ 94 76) (m₉ 94 75) (m₉ 103) (m₉ 111) (m₉ 94 77) st ot rr (aSp 512 aa)) → zm X 3 64 208 0 [(0, .inr (.inr (some 94)))] m₉ P) : ∀ (n : Nat) (m : Nat → Nat → Int32) (l1 : Int32) (l2 : Int32), (61 - l2.toInt).toNat = n → zF wr_208 m0 m → zV m → (0 ≤ l1.toInt) → (l1.toInt ≤ 3099) → (0 ≤ l2.toInt) → ((3101 - (m 94 76).toInt).toNat < n0) → ((m 94 10).toInt = 2) → (zW (m 94 7) (m 98) (m 101) (m 102) (m 108)) → (zOw (m 99) (m 103) (m 111)) → (qHW (m 99) (m 100) (m 98) (m 101) (m 102) AT (m 107) (m 108) (m 109) OW (m 112) (m 113) (m 114) (m 94 55) (m 94 46) ro 0 0 0 1 (m 110) (m 119) (m 94 76) (m 94 75) (m 103) (m 111) (m 94 77) st ot rr l1 l2 (aSp 512 aa)) → zm X 3 64 208 33 [(0, .inr (.inr (some 94))), (1, .inl l1), (2, .inl l2)] m P := by
  intro n
  induction n using Nat.strongRecOn with
  | _ n IH =>
    intro m l1 l2 hmu hF hV hi0 hi1 hi2 hi3 hi4 r_W r_OW r_HW
    refine g_208_33 l1 l2 ?_
    have f1 : 0 ≤ (m 94 76).toInt ∧ (m 94 76).toInt ≤ 3100 := rs_94_76 (m := m) hV
    have f2 : 0 ≤ (m 94 10).toInt ∧ (m 94 10).toInt ≤ 6 := rs_94_10 (m := m) hV
    obtain ⟨c, f, ⟨hB, hT, hf⟩, w0, w3, wu⟩ := r_HW
    have b3 := i_bd l1
    have hg4 : (0 ≤ l1 ∧ l1.toNatClampNeg < 3100) := i_ix (by omega) (by omega)
    refine ⟨hg4, ?_⟩
    first | have f5 : 0 ≤ (m 102 l1.toNatClampNeg).toInt ∧ (m 102 l1.toNatClampNeg).toInt ≤ 60 := ra_102 (m := m) hV (k := l1.toNatClampNeg) (i_ix (n := 3100) (by omega) (by omega)).2 | have b6 := i_bd (m 102 l1.toNatClampNeg)
    have b7 := i_bd l2
    refine zd (fun (h8 : (m 102 l1.toNatClampNeg) ≤ l2) => ?_) (fun (h8 : ¬ (m 102 l1.toNatClampNeg) ≤ l2) => ?_)
    · skip
      have g9 := i_le h8
      exact OUT0 _  (show (3101 - (m 94 76).toInt).toNat < n0 from by omega) hF hV (show (m 94 10).toInt = 2 from by omega) r_W r_OW (show qHS (m 99) (m 100) (m 98) (m 101) (m 102) AT (m 107) (m 108) (m 109) OW (m 112) (m 113) (m 114) (m 94 55) (m 94 46) ro 0 0 0 1 (m 110) (m 119) (m 94 76) (m 94 75) (m 103) (m 111) (m 94 77) st ot rr (aSp 512 aa) from by first | (exact HW_end ⟨c, f, ⟨hB, hT, hf⟩, w0, w3, wu⟩ (by omega) (by omega)) | (exfalso; omega; done) | (exfalso; contradiction; done))
    · skip
      have g10 := i_nle h8
      refine sp_192 (l1) (l2) hV (by omega) (by omega) (by omega) (show l2.toInt < (m 102 l1.toNatClampNeg).toInt from by omega) (fun v2 m1 hV_m1 p0_m1 => zmi_n ?_)
      have p0_m1 : v2 = zrf (m 98) (m 101) (m 108) l1.toNatClampNeg l2.toNatClampNeg := p0_m1
      try have := W_ref r_W (by omega) (by omega) (by omega) (by omega) p0_m1
      have b11 := i_bd v2
      refine sp_207rv (aa := c) (v2) hV_m1 (by omega) (by omega) (show (m 94 10).toInt = 2 from by omega) (show qU (m 99) v2 from by first | (exact (HW_rf hB w0 w3 wu (by omega) (by omega) p0_m1.symm).1) | (exfalso; omega; done) | (exfalso; contradiction; done)) r_OW hB (fun m3 hV_m3 p0_m3 p1_m3 => zmv_n ?_)
      have p0_m3 : zOw (m 99) (m3 103) (m3 111) := p0_m3
      have p1_m3 : qHB (m 99) (m 100) (m 98) (m 101) (m 102) AT (m 107) (m 108) (m 109) OW (m 112) (m 113) (m 114) (m 94 55) (m 94 46) ro 0 0 0 1 (m3 110) (m3 119) (m 94 76) (m3 94 75) (m3 103) (m3 111) (m3 94 77) st ot rr (aCm c (qNo (m 100) v2)) := p1_m3
      first | have e12 : (l2 + (1 : Int32)).toInt = l2.toInt + (1) := i_addk rfl (by omega) (by omega) | have b13 := i_bd (l2 + (1 : Int32))
      exact IH (61 - (l2 + (1 : Int32)).toInt).toNat (by omega) _ (l1) ((l2 + (1 : Int32))) rfl (zF_zov (zF_zov hF ws_192_208) ws_207_208) hV_m3 (by omega) (by omega) (by omega) (show (3101 - (m 94 76).toInt).toNat < n0 from by omega) (show (m 94 10).toInt = 2 from by omega) r_W p0_m3 (show qHW (m 99) (m 100) (m 98) (m 101) (m 102) AT (m 107) (m 108) (m 109) OW (m 112) (m 113) (m 114) (m 94 55) (m 94 46) ro 0 0 0 1 (m3 110) (m3 119) (m 94 76) (m3 94 75) (m3 103) (m3 111) (m3 94 77) st ot rr l1 (l2 + (1 : Int32)) (aSp 512 aa) from by first | (exact ⟨_, f, ⟨p1_m3, (congrArg (aSp f) (HW_rf hB w0 w3 wu (by omega) (by omega) p0_m1.symm).2).symm.trans hT, hf⟩, w0, w3, wu⟩) | (exfalso; omega; done) | (exfalso; contradiction; done))
theorem lp_208rv_0 {X : Nat × (Nat → Int32)} {P : Option ma_V → (Nat → Nat → Int32) → Prop} {aa : Nat→Nat→Int32} {AT : Nat→Int32} {OW : Nat→Int32} {ro : Int32} {st : Int} {ot : Int} {rr : Int} {m0 : Nat → Nat → Int32} (h0 : zV m0) (K : ∀ m₉, zF wr_208 m0 m₉ → zV m₉ → (zOw (m₉ 99) (m₉ 103) (m₉ 111)) → (qHB (m₉ 99) (m₉ 100) (m₉ 98) (m₉ 101) (m₉ 102) AT (m₉ 107) (m₉ 108) (m₉ 109) OW (m₉ 112) (m₉ 113) (m₉ 114) (m₉ 94 55) (m₉ 94 46) ro 0 0 0 1 (m₉ 110) (m₉ 119) (m₉ 94 76) (m₉ 94 75) (m₉ 103) (m₉ 111) (m₉ 94 77) st ot rr (aSp 512 aa)) → ((m₉ 94 75).toInt ≤ (m₉ 94 76).toInt) → P none m₉) : ∀ (n : Nat) (m : Nat → Nat → Int32) , (3101 - (m 94 76).toInt).toNat = n → zF wr_208 m0 m → zV m → ((m 94 10).toInt = 2) → (zW (m 94 7) (m 98) (m 101) (m 102) (m 108)) → (zOw (m 99) (m 103) (m 111)) → (qHS (m 99) (m 100) (m 98) (m 101) (m 102) AT (m 107) (m 108) (m 109) OW (m 112) (m 113) (m 114) (m 94 55) (m 94 46) ro 0 0 0 1 (m 110) (m 119) (m 94 76) (m 94 75) (m 103) (m 111) (m 94 77) st ot rr (aSp 512 aa)) → zm X 3 64 208 0 [(0, .inr (.inr (some 94)))] m P := by
  intro n
  induction n using Nat.strongRecOn with
  | _ n IH =>
    intro m  hmu hF hV hi0 r_W r_OW r_HS
    refine g_208_0  ?_
    have f1 : 0 ≤ (m 94 10).toInt ∧ (m 94 10).toInt ≤ 6 := rs_94_10 (m := m) hV
    have f2 : 0 ≤ (m 94 75).toInt ∧ (m 94 75).toInt ≤ 3100 := rs_94_75 (m := m) hV
    have f3 : 0 ≤ (m 94 76).toInt ∧ (m 94 76).toInt ≤ 3100 := rs_94_76 (m := m) hV
    refine zd (fun (h4 : (m 94 75) ≤ (m 94 76)) => ?_) (fun (h4 : ¬ (m 94 75) ≤ (m 94 76)) => ?_)
    · skip
      have g5 := i_le h4
      try have hb := (HS_b r_HS).1
      exact K _ hF hV r_OW (show qHB (m 99) (m 100) (m 98) (m 101) (m 102) AT (m 107) (m 108) (m 109) OW (m 112) (m 113) (m 114) (m 94 55) (m 94 46) ro 0 0 0 1 (m 110) (m 119) (m 94 76) (m 94 75) (m 103) (m 111) (m 94 77) st ot rr (aSp 512 aa) from by first | (exact HS_end r_HS (by omega)) | (exfalso; omega; done) | (exfalso; contradiction; done)) (show (m 94 75).toInt ≤ (m 94 76).toInt from by omega)
    · skip
      have g6 := i_nle h4
      try have hb := (HS_b r_HS).1
      have hg7 : (0 ≤ (m 94 76) ∧ (m 94 76).toNatClampNeg < 3100) := i_ix (by omega) (by omega)
      refine ⟨hg7, ?_⟩
      try have hb := (HS_b r_HS).1
      first | have e9 : ((m 94 76) + (1 : Int32)).toInt = (m 94 76).toInt + (1) := i_addk rfl (by omega) (by omega) | have b10 := i_bd ((m 94 76) + (1 : Int32))
      have hV8 : zV (ma_u m 94 76 ((m 94 76) + (1 : Int32))) := us_94_76 hV (by omega) (by omega)
      first | have f11 : 0 ≤ (m 119 (m 94 76).toNatClampNeg).toInt ∧ (m 119 (m 94 76).toNatClampNeg).toInt ≤ 3099 := ra_119 (m := m) hV (k := (m 94 76).toNatClampNeg) (i_ix (n := 3100) (by omega) (by omega)).2 | have b12 := i_bd (m 119 (m 94 76).toNatClampNeg)
      have li13 : (0 : Int32).toInt = 0 := rfl
      exact lp_208rv_33 h0 K (fun _  z1 z2 z3 y0 y1 y2 y3 => IH _ z1 _  rfl z2 z3 y0 y1 y2 y3) _ _ ((m 119 (m 94 76).toNatClampNeg)) ((0 : Int32)) rfl (zF_u hF rfl) hV8 (by omega) (by omega) (by omega) (show (3101 - ((m 94 76) + (1 : Int32)).toInt).toNat < n from by omega) (show (m 94 10).toInt = 2 from by omega) r_W r_OW (show qHW (m 99) (m 100) (m 98) (m 101) (m 102) AT (m 107) (m 108) (m 109) OW (m 112) (m 113) (m 114) (m 94 55) (m 94 46) ro 0 0 0 1 (m 110) (m 119) ((m 94 76) + (1 : Int32)) (m 94 75) (m 103) (m 111) (m 94 77) st ot rr (m 119 (m 94 76).toNatClampNeg) (0 : Int32) (aSp 512 aa) from by first | (exact HS_go r_HS (by omega) rfl rfl) | (exfalso; omega; done) | (exfalso; contradiction; done))
theorem sp_208rv {X : Nat × (Nat → Int32)} {P : Option ma_V → (Nat → Nat → Int32) → Prop} {aa : Nat→Nat→Int32} {AT : Nat→Int32} {OW : Nat→Int32} {ro : Int32} {st : Int} {ot : Int} {rr : Int} {m : Nat → Nat → Int32}  (hV : zV m) (hpre0 : (m 94 10).toInt = 2) (r_W : zW (m 94 7) (m 98) (m 101) (m 102) (m 108)) (r_OW : zOw (m 99) (m 103) (m 111)) (r_HB : qHB (m 99) (m 100) (m 98) (m 101) (m 102) AT (m 107) (m 108) (m 109) OW (m 112) (m 113) (m 114) (m 94 55) (m 94 46) ro 0 0 0 1 (m 110) (m 119) (m 94 76) (m 94 75) (m 103) (m 111) (m 94 77) st ot rr aa) (KZ : ∀ m₉, zV (zov wr_208 m m₉) → (zOw (m 99) (m₉ 103) (m₉ 111)) → (qHB (m 99) (m 100) (m 98) (m 101) (m 102) AT (m 107) (m 108) (m 109) OW (m 112) (m 113) (m 114) (m 94 55) (m 94 46) ro 0 0 0 1 (m₉ 110) (m₉ 119) (m₉ 94 76) (m₉ 94 75) (m₉ 103) (m₉ 111) (m₉ 94 77) st ot rr (aSp 512 aa)) → ((m₉ 94 75).toInt ≤ (m₉ 94 76).toInt) → P none (zov wr_208 m m₉)) : zm X 3 64 208 0 [(0, .inr (.inr (some 94)))] m P := by
  have K : ∀ m₉, zF wr_208 m m₉ → zV m₉ → (zOw (m₉ 99) (m₉ 103) (m₉ 111)) → (qHB (m₉ 99) (m₉ 100) (m₉ 98) (m₉ 101) (m₉ 102) AT (m₉ 107) (m₉ 108) (m₉ 109) OW (m₉ 112) (m₉ 113) (m₉ 114) (m₉ 94 55) (m₉ 94 46) ro 0 0 0 1 (m₉ 110) (m₉ 119) (m₉ 94 76) (m₉ 94 75) (m₉ 103) (m₉ 111) (m₉ 94 77) st ot rr (aSp 512 aa)) → ((m₉ 94 75).toInt ≤ (m₉ 94 76).toInt) → P none m₉ := by
    intro m₉ hf z q0 q1 q2
    have e := zov_eq hf
    rw [e] at z ⊢
    try rw [e] at q0
    try rw [e] at q1
    try rw [e] at q2
    exact KZ m₉ z q0 q1 q2
  have f1 : 0 ≤ (m 94 10).toInt ∧ (m 94 10).toInt ≤ 6 := rs_94_10 (m := m) hV
  have f2 : 0 ≤ (m 94 76).toInt ∧ (m 94 76).toInt ≤ 3100 := rs_94_76 (m := m) hV
  exact lp_208rv_0 hV K _ _  rfl zF_rfl hV (show (m 94 10).toInt = 2 from by omega) r_W r_OW (show qHS (m 99) (m 100) (m 98) (m 101) (m 102) AT (m 107) (m 108) (m 109) OW (m 112) (m 113) (m 114) (m 94 55) (m 94 46) ro 0 0 0 1 (m 110) (m 119) (m 94 76) (m 94 75) (m 103) (m 111) (m 94 77) st ot rr (aSp 512 aa) from by first | (exact HS_0 r_HB) | (exfalso; omega; done) | (exfalso; contradiction; done))
set_option maxHeartbeats 8000000 in
theorem lp_209rv_9 {X : Nat × (Nat → Int32)} {P : Option ma_V → (Nat → Nat → Int32) → Prop} {T : Nat} {aa : Nat→Nat→Int32} {AT : Nat→Int32} {OW : Nat→Int32} {ro : Int32} {st : Int} {ot : Int} {rr : Int} {yo : Int32} {m0 : Nat → Nat → Int32} (h0 : zV m0) (K : ∀ m₉, zF wr_209 m0 m₉ → zV m₉ → (zGW T (m₉ 94 55) (m₉ 109)) → (zuw (m0 113) (m₉ 113)) → (zOw (m₉ 99) (m₉ 103) (m₉ 111)) → (qHB (m₉ 99) (m₉ 100) (m₉ 98) (m₉ 101) (m₉ 102) AT (m₉ 107) (m₉ 108) (m₉ 109) OW (m₉ 112) (m₉ 113) (m₉ 114) (m₉ 94 55) (m₉ 94 46) ro 0 0 0 1 (m₉ 110) (m₉ 119) (m₉ 94 76) (m₉ 94 75) (m₉ 103) (m₉ 111) (m₉ 94 77) st ot rr (aGw aa 0)) → (qE0 (aGw aa 0)) → (qCl (aGw aa 0)) → P none m₉) : ∀ (n : Nat) (m : Nat → Nat → Int32) (l1 : Int32) (l3 : Int32), ((zmg (m 100) l3 : Int)).toNat = n → zF wr_209 m0 m → zV m → (l1.toInt = 0) → (T ≤ 512) → ((m 94 10).toInt = 2) → (zWS (m 100) (m 99) (m 110) (m 109) (-1 : Int32) l3) → (zW (m 94 7) (m 98) (m 101) (m 102) (m 108)) → (zGW T (m 94 55) (m 109)) → (zuw (m0 113) (m 113)) → (zOw (m 99) (m 103) (m 111)) → (qHG (m 99) (m 100) (m 98) (m 101) (m 102) AT (m 107) (m 108) (m 109) OW (m 112) (m 113) (m 114) (m 94 55) (m 94 46) ro 0 0 0 1 (m 110) (m 119) (m 94 76) (m 94 75) (m 103) (m 111) (m 94 77) st ot rr l3 (aGw aa 0)) → zm X 4 86 209 9 [(0, .inr (.inr (some 94))), (1, .inl l1), (3, .inl l3)] m P := by
  intro n
  induction n using Nat.strongRecOn with
  | _ n IH =>
    intro m l1 l3 hmu hF hV hi0 hi1 hi2 r_WS r_W r_GW r_UW r_OW r_HG
    refine g_209_9 l1 l3 ?_
    have f1 : 0 ≤ (m 94 10).toInt ∧ (m 94 10).toInt ≤ 6 := rs_94_10 (m := m) hV
    obtain ⟨b, lst, gHB, gE0, gCL, gl, gMn, gT⟩ := r_HG
    have b2 := i_bd l3
    have li3 : (0 : Int32).toInt = 0 := rfl
    refine zd (fun (h4 : l3 < (0 : Int32)) => ?_) (fun (h4 : ¬ l3 < (0 : Int32)) => ?_)
    · skip
      have g5 := i_lt h4
      try have gw := GW_room r_GW
      try have ws0 := WS_ge r_WS (by omega)
      exact K _ hF hV r_GW r_UW r_OW (show qHB (m 99) (m 100) (m 98) (m 101) (m 102) AT (m 107) (m 108) (m 109) OW (m 112) (m 113) (m 114) (m 94 55) (m 94 46) ro 0 0 0 1 (m 110) (m 119) (m 94 76) (m 94 75) (m 103) (m 111) (m 94 77) st ot rr (aGw aa 0) from by first | (exact (HG_end ⟨b, lst, gHB, gE0, gCL, gl, gMn, gT⟩ (by omega)).1) | (exact gHB) | (exfalso; omega; done) | (exfalso; contradiction; done)) (show qE0 (aGw aa 0) from by first | (exact (HG_end ⟨b, lst, gHB, gE0, gCL, gl, gMn, gT⟩ (by omega)).2.1) | (exfalso; omega; done) | (exfalso; contradiction; done)) (show qCl (aGw aa 0) from by first | (exact (HG_end ⟨b, lst, gHB, gE0, gCL, gl, gMn, gT⟩ (by omega)).2.2) | (exfalso; omega; done) | (exfalso; contradiction; done))
    · skip
      have g6 := i_nlt h4
      try obtain ⟨ws1, ws2, ws3, ws4, ws5, ws6⟩ := WS_ge r_WS (by omega)
      have hg7 : (0 ≤ l3 ∧ l3.toNatClampNeg < 3100) := i_ix (by omega) (by omega)
      refine ⟨hg7, ?_⟩
      try have ws0 := WS_ge r_WS (by omega)
      refine sp_197rv (aa := b) (l3) hV (by omega) (by omega) (by omega) (show (m 94 10).toInt ≠ 4 from by omega) (show (m 109) l3.toNatClampNeg ≠ 0 from by first | (exact ws5) | (exact ws0.2.2.2.2.1) | (assumption; done) | (exfalso; omega; done) | (exfalso; contradiction; done)) (show (m 99) l3.toNatClampNeg ≠ 0 from by first | (exact ws3) | (exact ws0.2.2.1) | (assumption; done) | (exact ws3) | (exfalso; omega; done) | (exfalso; contradiction; done)) r_GW gHB.1 gHB.2.1 (fun m1 hV_m1 p0_m1 p1_m1 p2_m1 p3_m1 p4_m1 p5_m1 => zmv_n ?_)
      have p0_m1 : zGW T (m1 94 55) (m1 109) := p0_m1
      have p1_m1 : zuw (m 113) (m1 113) := p1_m1
      have p2_m1 : zwx (m 114) (m1 114) (m 94 55) l3 := p2_m1
      have p3_m1 : (m1 94 55).toInt = (m 94 55).toInt + 1 := p3_m1
      have p4_m1 : qRB (m 99) (m 100) (m 98) (m 101) (m 102) AT (m 107) (m 108) (m1 109) OW (m 112) (m1 113) (m1 114) (m1 94 55) (m 94 46) ro 0 0 0 1 (aGr b ((m 100) l3.toNatClampNeg)) := p4_m1
      have p5_m1 : qI (aGr b ((m 100) l3.toNatClampNeg)) := p5_m1
      have f8 : 0 ≤ (m1 94 55).toInt ∧ (m1 94 55).toInt ≤ 3100 := rs_94_55 (m := (zov wr_197 m m1)) hV_m1
      have f9 : 0 ≤ (m 94 55).toInt ∧ (m 94 55).toInt ≤ 3100 := rs_94_55 (m := m) hV
      try have ws0 := WS_ge r_WS (by omega)
      refine sp_207rv (aa := (aGr b (m 100 l3.toNatClampNeg))) (l3) hV_m1 (by omega) (by omega) (show (m 94 10).toInt = 2 from by omega) (show qU (m 99) l3 from by first | (exact Or.inr ⟨by omega, ws0.2.2.1⟩) | (exfalso; omega; done) | (exfalso; contradiction; done)) r_OW (show qHB (m 99) (m 100) (m 98) (m 101) (m 102) AT (m 107) (m 108) (m1 109) OW (m 112) (m1 113) (m1 114) (m1 94 55) (m 94 46) ro 0 0 0 1 (m 110) (m 119) (m 94 76) (m 94 75) (m 103) (m 111) (m 94 77) st ot rr (aGr b (m 100 l3.toNatClampNeg)) from by first | (exact HB_gr p4_m1 p5_m1 gHB) | (exact gHB) | (exfalso; omega; done) | (exfalso; contradiction; done)) (fun m3 hV_m3 p0_m3 p1_m3 => zmv_n ?_)
      have p0_m3 : zOw (m 99) (m3 103) (m3 111) := p0_m3
      have p1_m3 : qHB (m 99) (m 100) (m 98) (m 101) (m 102) AT (m 107) (m 108) (m1 109) OW (m 112) (m1 113) (m1 114) (m1 94 55) (m 94 46) ro 0 0 0 1 (m3 110) (m3 119) (m 94 76) (m3 94 75) (m3 103) (m3 111) (m3 94 77) st ot rr (aCm (aGr b (m 100 l3.toNatClampNeg)) (qNo (m 100) l3)) := p1_m3
      try have ws0 := WS_ge r_WS (by omega)
      refine sp_208rv (aa := (aCm (aGr b (m 100 l3.toNatClampNeg)) (qNo (m 100) l3)))  hV_m3 (show (m 94 10).toInt = 2 from by omega) r_W p0_m3 p1_m3 (fun m5 hV_m5 p0_m5 p1_m5 p2_m5 => zmv_n ?_)
      have p0_m5 : zOw (m 99) (m5 103) (m5 111) := p0_m5
      have p1_m5 : qHB (m 99) (m 100) (m 98) (m 101) (m 102) AT (m 107) (m 108) (m1 109) OW (m 112) (m1 113) (m1 114) (m1 94 55) (m 94 46) ro 0 0 0 1 (m5 110) (m5 119) (m5 94 76) (m5 94 75) (m5 103) (m5 111) (m5 94 77) st ot rr (aSp 512 (aCm (aGr b (m 100 l3.toNatClampNeg)) (qNo (m 100) l3))) := p1_m5
      have p2_m5 : (m5 94 75).toInt ≤ (m5 94 76).toInt := p2_m5
      have f10 : 0 ≤ (m5 94 75).toInt ∧ (m5 94 75).toInt ≤ 3100 := rs_94_75 (m := (zov wr_208 (zov wr_207 (zov wr_197 m m1) m3) m5)) hV_m5
      have f11 : 0 ≤ (m5 94 76).toInt ∧ (m5 94 76).toInt ≤ 3100 := rs_94_76 (m := (zov wr_208 (zov wr_207 (zov wr_197 m m1) m3) m5)) hV_m5
      first | have f12 : 0 ≤ (m 100 l3.toNatClampNeg).toInt ∧ (m 100 l3.toNatClampNeg).toInt ≤ 100000 := ra_100 (m := m) hV (k := l3.toNatClampNeg) (i_ix (n := 3100) (by omega) (by omega)).2 | have b13 := i_bd (m 100 l3.toNatClampNeg)
      have b14 := i_bd l1
      try have ws0 := WS_ge r_WS (by omega)
      refine sp_195r ((m 100 l3.toNatClampNeg)) (l1) hV_m5 (by omega) (fun v8 m7 hV_m7 p0_m7 p1_m7 => zmi_n ?_)
      have p0_m7 : zWS (m 100) (m 99) (m5 110) (m1 109) (m 100 l3.toNatClampNeg) v8 := p0_m7
      have p1_m7 : qMin (qCw (m 99) (m5 110) (m1 109) (m 100) (m 100 l3.toNatClampNeg)) (m 100) v8 3100 := p1_m7
      try have gw := GW_room p0_m1
      try have ws0 := WS_ge r_WS (by omega)
      have b15 := i_bd v8
      exact IH ((zmg (m 100) v8 : Int)).toNat (by have zq := zmg_lt (s := l3) (by omega) p0_m7 rfl (by omega) (by omega); omega) _ (l1) (v8) rfl (zF_zov (zF_zov (zF_zov (zF_zov hF ws_197_209) ws_207_209) ws_208_209) ws_195_209) hV_m7 (by omega) (by omega) (show (m 94 10).toInt = 2 from by omega) (show zWS (m 100) (m 99) (m5 110) (m1 109) (-1 : Int32) v8 from by first | (exact WS_weak p0_m7 (by omega)) | (exact p0_m7) | (exact Or.inl (by decide)) | (exact Or.inr ⟨by omega, by omega, by assumption, by assumption, by assumption, by omega⟩) | (exfalso; omega; done) | (exfalso; contradiction; done)) r_W p0_m1 (show zuw (m0 113) (m1 113) from by first | (exact zuw_tr r_UW p1_m1) | (exact zuw_rfl) | (exfalso; omega; done) | (exfalso; contradiction; done)) p0_m5 (show qHG (m 99) (m 100) (m 98) (m 101) (m 102) AT (m 107) (m 108) (m1 109) OW (m 112) (m1 113) (m1 114) (m1 94 55) (m 94 46) ro 0 0 0 1 (m5 110) (m5 119) (m5 94 76) (m5 94 75) (m5 103) (m5 111) (m5 94 77) st ot rr v8 (aGw aa 0) from by first | (exact HG_nx gHB gE0 gCL gl gMn gT (by omega) ws0.2.2.1 (by omega) (GW_512 r_GW ws0.2.2.2.2.1 (by omega) (by omega) (by omega)) p1_m5 p1_m7) | (exfalso; omega; done) | (exfalso; contradiction; done))
set_option maxHeartbeats 8000000 in
theorem sp_209rv {X : Nat × (Nat → Int32)} {P : Option ma_V → (Nat → Nat → Int32) → Prop} {T : Nat} {aa : Nat→Nat→Int32} {AT : Nat→Int32} {OW : Nat→Int32} {ro : Int32} {st : Int} {ot : Int} {rr : Int} {m : Nat → Nat → Int32} (yo : Int32) (hV : zV m) (hpre0 : yo.toInt = 0) (hpre1 : T ≤ 512) (hpre2 : (m 94 10).toInt = 2) (r_W : zW (m 94 7) (m 98) (m 101) (m 102) (m 108)) (r_GW : zGW T (m 94 55) (m 109)) (r_OW : zOw (m 99) (m 103) (m 111)) (r_HB : qHB (m 99) (m 100) (m 98) (m 101) (m 102) AT (m 107) (m 108) (m 109) OW (m 112) (m 113) (m 114) (m 94 55) (m 94 46) ro 0 0 0 1 (m 110) (m 119) (m 94 76) (m 94 75) (m 103) (m 111) (m 94 77) st ot rr aa) (r_E0 : qE0 aa) (r_CLr : qCl aa) (KZ : ∀ m₉, zV (zov wr_209 m m₉) → (zGW T (m₉ 94 55) (m₉ 109)) → (zuw (m 113) (m₉ 113)) → (zOw (m 99) (m₉ 103) (m₉ 111)) → (qHB (m 99) (m 100) (m 98) (m 101) (m 102) AT (m 107) (m 108) (m₉ 109) OW (m 112) (m₉ 113) (m₉ 114) (m₉ 94 55) (m 94 46) ro 0 0 0 1 (m₉ 110) (m₉ 119) (m₉ 94 76) (m₉ 94 75) (m₉ 103) (m₉ 111) (m₉ 94 77) st ot rr (aGw aa 0)) → (qE0 (aGw aa 0)) → (qCl (aGw aa 0)) → P none (zov wr_209 m m₉)) : zm X 4 86 209 0 [(0, .inr (.inr (some 94))), (1, .inl yo)] m P := by
  have K : ∀ m₉, zF wr_209 m m₉ → zV m₉ → (zGW T (m₉ 94 55) (m₉ 109)) → (zuw (m 113) (m₉ 113)) → (zOw (m₉ 99) (m₉ 103) (m₉ 111)) → (qHB (m₉ 99) (m₉ 100) (m₉ 98) (m₉ 101) (m₉ 102) AT (m₉ 107) (m₉ 108) (m₉ 109) OW (m₉ 112) (m₉ 113) (m₉ 114) (m₉ 94 55) (m₉ 94 46) ro 0 0 0 1 (m₉ 110) (m₉ 119) (m₉ 94 76) (m₉ 94 75) (m₉ 103) (m₉ 111) (m₉ 94 77) st ot rr (aGw aa 0)) → (qE0 (aGw aa 0)) → (qCl (aGw aa 0)) → P none m₉ := by
    intro m₉ hf z q0 q1 q2 q3 q4 q5
    have e := zov_eq hf
    rw [e] at z ⊢
    try rw [e] at q0
    try rw [e] at q1
    try rw [e] at q2
    try rw [e] at q3
    try rw [e] at q4
    try rw [e] at q5
    exact KZ m₉ z q0 q1 q2 q3 q4 q5
  refine g_209_0 yo ?_
  have f1 : 0 ≤ (m 94 10).toInt ∧ (m 94 10).toInt ≤ 6 := rs_94_10 (m := m) hV
  have li2 : (-1 : Int32).toInt = -1 := rfl
  have b3 := i_bd yo
  try have ws0 := WS_ge r_WS (by omega)
  refine sp_195r ((-1 : Int32)) (yo) hV (by omega) (fun v2 m1 hV_m1 p0_m1 p1_m1 => zmi_n ?_)
  have p0_m1 : zWS (m 100) (m 99) (m 110) (m 109) (-1 : Int32) v2 := p0_m1
  have p1_m1 : qMin (qCw (m 99) (m 110) (m 109) (m 100) (-1 : Int32)) (m 100) v2 3100 := p1_m1
  try have gw := GW_room r_GW
  try have ws0 := WS_ge r_WS (by omega)
  have b4 := i_bd v2
  exact lp_209rv_9 (yo := yo) hV K _ _ (yo) (v2) rfl (zF_zov zF_rfl ws_195_209) hV_m1 (by omega) (by omega) (show (m 94 10).toInt = 2 from by omega) p0_m1 r_W r_GW (show zuw (m 113) (m 113) from by first | (exact zuw_rfl) | (exact zuw_rfl) | (exfalso; omega; done) | (exfalso; contradiction; done)) r_OW (show qHG (m 99) (m 100) (m 98) (m 101) (m 102) AT (m 107) (m 108) (m 109) OW (m 112) (m 113) (m 114) (m 94 55) (m 94 46) ro 0 0 0 1 (m 110) (m 119) (m 94 76) (m 94 75) (m 103) (m 111) (m 94 77) st ot rr v2 (aGw aa 0) from by first | (exact HG_0 r_HB r_E0 r_CLr p1_m1) | (exfalso; omega; done) | (exfalso; contradiction; done))

/-! from 95.r19 -/
/-! the reference where it moves (written by wip/tools/gen15r.py) -/
set_option maxHeartbeats 8000000 in
theorem lp_206rv_73 {X : Nat × (Nat → Int32)} {P : Option ma_V → (Nat → Nat → Int32) → Prop} {T : Nat} {aa : Nat→Nat→Int32} {ro : Int32} {m0 : Nat → Nat → Int32} (h0 : zV m0) (K : ∀ v m₉, zF wr_206 m0 m₉ → zV m₉ → (zGW T (m₉ 94 55) (m₉ 109)) → (zGU T (m₉ 94 46) (m₉ 99)) → (zOw (m₉ 99) (m₉ 103) (m₉ 111)) → (qRB (m₉ 99) (m₉ 100) (m₉ 98) (m₉ 101) (m₉ 102) (m₉ 103) (m₉ 107) (m₉ 108) (m₉ 109) (m₉ 111) (m₉ 112) (m₉ 113) (m₉ 114) (m₉ 94 55) (m₉ 94 46) ro 0 0 0 1 (hCl aa)) → (qHv (hCl aa)) → (qHL (hCl aa) (m₉ 94 11) (m₉ 94 61) (m₉ 94 59)) → ((m₉ 94 45).toInt = sm (zbU (m₉ 99)) (m₉ 102) 3100) → P (some (.inl v)) m₉) : ∀ (n : Nat) (m : Nat → Nat → Int32) (l1 : Int32), (3100 - l1.toInt).toNat = n → zF wr_206 m0 m → zV m → (0 ≤ l1.toInt) → (T ≤ 512) → (zW (m 94 7) (m 98) (m 101) (m 102) (m 108)) → (zGW T (m 94 55) (m 109)) → (zGU T (m 94 46) (m 99)) → (zOw (m 99) (m 103) (m 111)) → ((m 94 10).toInt = 2) → (qHv aa) → (qHL aa (m 94 11) (m0 94 61) (aa 87 4)) → (∀ s, s < 3100 → (m 99) s ≠ 0 → (m 107) s = 0) → ((m 94 45).toInt = sm (zbU (m 99)) (m 102) 3100) → ((m 94 61).toInt = 1 - (m0 94 61).toInt) → (qHX (m 99) (m 100) (m 98) (m 101) (m 102) (m0 103) (m 107) (m 108) (m 109) (m0 111) (m 112) (m 113) (m 114) (m 94 55) (m 94 46) ro 0 0 0 1 (m 110) (m 119) (m 94 76) (m 94 75) (m 103) (m 111) (m 94 77) (aa 87 5 - aa 87 3).toInt (aa 87 3).toInt (aa 87 5).toInt l1 (aRo (aWh aa 0) 0)) → zm X 5 109 206 73 [(0, .inr (.inr (some 94))), (1, .inl l1)] m P := by
  intro n
  induction n using Nat.strongRecOn with
  | _ n IH =>
    intro m l1 hmu hF hV hi0 hi1 r_W r_GW r_GU r_OW hi6 r_HV r_HLo r_HOo r_WTS hi11 r_HX
    refine g_206_73 l1 ?_
    have f1 : 0 ≤ (m 94 10).toInt ∧ (m 94 10).toInt ≤ 6 := rs_94_10 (m := m) hV
    have f2 : 0 ≤ (m 94 61).toInt ∧ (m 94 61).toInt ≤ 1 := rs_94_61 (m := m) hV
    have f3 : 0 ≤ (m0 94 61).toInt ∧ (m0 94 61).toInt ≤ 1 := rs_94_61 (m := m0) h0
    obtain ⟨c, hB, hT⟩ := r_HX
    have f4 : 0 ≤ (m 94 55).toInt ∧ (m 94 55).toInt ≤ 3100 := rs_94_55 (m := m) hV
    have b5 := i_bd l1
    refine zd (fun (h6 : (m 94 55) ≤ l1) => ?_) (fun (h6 : ¬ (m 94 55) ≤ l1) => ?_)
    · skip
      have g7 := i_le h6
      refine sp_208rv (aa := (aRo (aWh aa 0) 0)) (AT := (m0 103)) (OW := (m0 111)) (st := (aa 87 5 - aa 87 3).toInt) (ot := (aa 87 3).toInt) (rr := (aa 87 5).toInt)  hV (show (m 94 10).toInt = 2 from by omega) r_W r_OW (show qHB (m 99) (m 100) (m 98) (m 101) (m 102) (m0 103) (m 107) (m 108) (m 109) (m0 111) (m 112) (m 113) (m 114) (m 94 55) (m 94 46) ro 0 0 0 1 (m 110) (m 119) (m 94 76) (m 94 75) (m 103) (m 111) (m 94 77) (aa 87 5 - aa 87 3).toInt (aa 87 3).toInt (aa 87 5).toInt (aRo (aWh aa 0) 0) from by first | (exact HX_end ⟨c, hB, hT⟩ (by omega) r_HOo) | (exact hB) | (exact hB) | (exfalso; omega; done) | (exfalso; contradiction; done)) (fun m1 hV_m1 p0_m1 p1_m1 p2_m1 => zmv_n ?_)
      have p0_m1 : zOw (m 99) (m1 103) (m1 111) := p0_m1
      have p1_m1 : qHB (m 99) (m 100) (m 98) (m 101) (m 102) (m0 103) (m 107) (m 108) (m 109) (m0 111) (m 112) (m 113) (m 114) (m 94 55) (m 94 46) ro 0 0 0 1 (m1 110) (m1 119) (m1 94 76) (m1 94 75) (m1 103) (m1 111) (m1 94 77) (aa 87 5 - aa 87 3).toInt (aa 87 3).toInt (aa 87 5).toInt (aSp 512 (aRo (aWh aa 0) 0)) := p1_m1
      have p2_m1 : (m1 94 75).toInt ≤ (m1 94 76).toInt := p2_m1
      have f8 : 0 ≤ (m1 94 75).toInt ∧ (m1 94 75).toInt ≤ 3100 := rs_94_75 (m := (zov wr_208 m m1)) hV_m1
      have f9 : 0 ≤ (m1 94 76).toInt ∧ (m1 94 76).toInt ≤ 3100 := rs_94_76 (m := (zov wr_208 m m1)) hV_m1
      have li10 : (0 : Int32).toInt = 0 := rfl
      refine sp_209rv (aa := (aRA aa)) (AT := (m0 103)) (OW := (m0 111)) (st := (aa 87 5 - aa 87 3).toInt) (ot := (aa 87 3).toInt) (rr := (aa 87 5).toInt) ((0 : Int32)) hV_m1 (by omega) (by omega) (show (m 94 10).toInt = 2 from by omega) r_W r_GW p0_m1 (show qHB (m 99) (m 100) (m 98) (m 101) (m 102) (m0 103) (m 107) (m 108) (m 109) (m0 111) (m 112) (m 113) (m 114) (m 94 55) (m 94 46) ro 0 0 0 1 (m1 110) (m1 119) (m1 94 76) (m1 94 75) (m1 103) (m1 111) (m1 94 77) (aa 87 5 - aa 87 3).toInt (aa 87 3).toInt (aa 87 5).toInt (aRA aa) from by first | (exact p1_m1) | (exact p1_m1) | (exfalso; omega; done) | (exfalso; contradiction; done)) (show qE0 (aRA aa) from by first | (exact E0_ra r_HV.1) | (exfalso; omega; done) | (exfalso; contradiction; done)) (show qCl (aRA aa) from by first | (exact Cl_ra r_HV.1) | (exfalso; omega; done) | (exfalso; contradiction; done)) (fun m3 hV_m3 p0_m3 p1_m3 p2_m3 p3_m3 p4_m3 p5_m3 => zmv_n ?_)
      have p0_m3 : zGW T (m3 94 55) (m3 109) := p0_m3
      have p1_m3 : zuw (m 113) (m3 113) := p1_m3
      have p2_m3 : zOw (m 99) (m3 103) (m3 111) := p2_m3
      have p3_m3 : qHB (m 99) (m 100) (m 98) (m 101) (m 102) (m0 103) (m 107) (m 108) (m3 109) (m0 111) (m 112) (m3 113) (m3 114) (m3 94 55) (m 94 46) ro 0 0 0 1 (m3 110) (m3 119) (m3 94 76) (m3 94 75) (m3 103) (m3 111) (m3 94 77) (aa 87 5 - aa 87 3).toInt (aa 87 3).toInt (aa 87 5).toInt (aGw (aRA aa) 0) := p3_m3
      have p4_m3 : qE0 (aGw (aRA aa) 0) := p4_m3
      have p5_m3 : qCl (aGw (aRA aa) 0) := p5_m3
      refine sp_199r  hV_m3  (fun m5 hV_m5 p0_m5 p1_m5 => zmv_n ?_)
      have p0_m5 : zuw (m3 113) (m5 113) := p0_m5
      have p1_m5 : qUr (m3 113) (m5 113) (m3 110) 16 := p1_m5
      have f12 : 0 ≤ (m3 94 77).toInt ∧ (m3 94 77).toInt ≤ 4600 := rs_94_77 (m := (zov wr_209 (zov wr_208 m m1) m3)) hV_m3
      have hV11 : zV (ma_u (zov wr_199 (zov wr_209 (zov wr_208 m m1) m3) m5) 94 59 (m3 94 77)) := us_94_59 hV_m5 (by omega) (by omega)
      refine sp_200rn  hV11 (show (m 94 10).toInt ≠ 4 from by omega) r_W r_GU p2_m3 r_WTS (fun v8 m7 hV_m7 p0_m7 p1_m7 p2_m7 p3_m7 p4_m7 => zmi_n ?_)
      have p0_m7 : zrm (m 99) (m7 99) (m3 110) 3100 := p0_m7
      have p1_m7 : zowr (m3 111) (m7 111) (m 99) (m3 110) (m3 103) := p1_m7
      have p2_m7 : zGU T (m 94 46) (m7 99) := p2_m7
      have p3_m7 : zOw (m7 99) (m3 103) (m7 111) := p3_m7
      have p4_m7 : (m7 94 45).toInt = sm (zbU (m7 99)) (m 102) 3100 := p4_m7
      try have gw := GW_room p0_m3
      have b13 := i_bd v8
      exact K (v8) _ (zF_zov (zF_u (zF_zov (zF_zov (zF_zov hF ws_208_206) ws_209_206) ws_199_206) rfl) ws_200_206) hV_m7 p0_m3 p2_m7 p3_m7 (show qRB (m7 99) (m 100) (m 98) (m 101) (m 102) (m3 103) (m 107) (m 108) (m3 109) (m7 111) (m 112) (m5 113) (m3 114) (m3 94 55) (m 94 46) ro 0 0 0 1 (hCl aa) from by first | (exact RB_hcl (HB_fin p3_m3 p4_m3 p5_m3 r_HV p1_m5 p0_m7 p1_m7)) | (exfalso; omega; done) | (exfalso; contradiction; done)) (show qHv (hCl aa) from by first | (exact Hv_cl r_HV) | (exact r_HV) | (exfalso; omega; done) | (exfalso; contradiction; done)) (show qHL (hCl aa) (m 94 11) (m 94 61) (m3 94 77) from by first | (exact HL_cl r_HLo r_HV (HB_fin p3_m3 p4_m3 p5_m3 r_HV p1_m5 p0_m7 p1_m7).2 (by omega)) | (exfalso; omega; done) | (exfalso; contradiction; done)) p4_m7
    · skip
      have g14 := i_nle h6
      have hg15 : (0 ≤ l1 ∧ l1.toNatClampNeg < 3100) := i_ix (by omega) (by omega)
      refine ⟨hg15, ?_⟩
      first | have f16 : 0 ≤ (m 114 l1.toNatClampNeg).toInt ∧ (m 114 l1.toNatClampNeg).toInt ≤ 3099 := ra_114 (m := m) hV (k := l1.toNatClampNeg) (i_ix (n := 3100) (by omega) (by omega)).2 | have b17 := i_bd (m 114 l1.toNatClampNeg)
      refine sp_207rv (aa := c) (AT := (m0 103)) (OW := (m0 111)) (st := (aa 87 5 - aa 87 3).toInt) (ot := (aa 87 3).toInt) (rr := (aa 87 5).toInt) ((m 114 l1.toNatClampNeg)) hV (by omega) (by omega) (show (m 94 10).toInt = 2 from by omega) (show qU (m 99) (m 114 l1.toNatClampNeg) from by first | (exact (HX_wl hB (by omega) (by omega) rfl).1.2) | (exfalso; omega; done) | (exfalso; contradiction; done)) r_OW hB (fun m9 hV_m9 p0_m9 p1_m9 => zmv_n ?_)
      have p0_m9 : zOw (m 99) (m9 103) (m9 111) := p0_m9
      have p1_m9 : qHB (m 99) (m 100) (m 98) (m 101) (m 102) (m0 103) (m 107) (m 108) (m 109) (m0 111) (m 112) (m 113) (m 114) (m 94 55) (m 94 46) ro 0 0 0 1 (m9 110) (m9 119) (m 94 76) (m9 94 75) (m9 103) (m9 111) (m9 94 77) (aa 87 5 - aa 87 3).toInt (aa 87 3).toInt (aa 87 5).toInt (aCm c (qNo (m 100) (m 114 l1.toNatClampNeg))) := p1_m9
      try have gw := GW_room r_GW
      first | have e18 : (l1 + (1 : Int32)).toInt = l1.toInt + (1) := i_addk rfl (by omega) (by omega) | have b19 := i_bd (l1 + (1 : Int32))
      exact IH (3100 - (l1 + (1 : Int32)).toInt).toNat (by omega) _ ((l1 + (1 : Int32))) rfl (zF_zov hF ws_207_206) hV_m9 (by omega) (by omega) r_W r_GW r_GU p0_m9 (show (m 94 10).toInt = 2 from by omega) r_HV r_HLo r_HOo r_WTS (show (m 94 61).toInt = 1 - (m0 94 61).toInt from by omega) (show qHX (m 99) (m 100) (m 98) (m 101) (m 102) (m0 103) (m 107) (m 108) (m 109) (m0 111) (m 112) (m 113) (m 114) (m 94 55) (m 94 46) ro 0 0 0 1 (m9 110) (m9 119) (m 94 76) (m9 94 75) (m9 103) (m9 111) (m9 94 77) (aa 87 5 - aa 87 3).toInt (aa 87 3).toInt (aa 87 5).toInt (l1 + (1 : Int32)) (aRo (aWh aa 0) 0) from by first | (exact ⟨_, p1_m9, (HX_wl hB (by omega) (by omega) rfl).2.symm.trans hT⟩) | (exfalso; omega; done) | (exfalso; contradiction; done))
set_option maxHeartbeats 8000000 in
theorem lp_206rv_49 {X : Nat × (Nat → Int32)} {P : Option ma_V → (Nat → Nat → Int32) → Prop} {T : Nat} {aa : Nat→Nat→Int32} {ro : Int32} {m0 : Nat → Nat → Int32} (h0 : zV m0) (K : ∀ v m₉, zF wr_206 m0 m₉ → zV m₉ → (zGW T (m₉ 94 55) (m₉ 109)) → (zGU T (m₉ 94 46) (m₉ 99)) → (zOw (m₉ 99) (m₉ 103) (m₉ 111)) → (qRB (m₉ 99) (m₉ 100) (m₉ 98) (m₉ 101) (m₉ 102) (m₉ 103) (m₉ 107) (m₉ 108) (m₉ 109) (m₉ 111) (m₉ 112) (m₉ 113) (m₉ 114) (m₉ 94 55) (m₉ 94 46) ro 0 0 0 1 (hCl aa)) → (qHv (hCl aa)) → (qHL (hCl aa) (m₉ 94 11) (m₉ 94 61) (m₉ 94 59)) → ((m₉ 94 45).toInt = sm (zbU (m₉ 99)) (m₉ 102) 3100) → P (some (.inl v)) m₉) : ∀ (n : Nat) (m : Nat → Nat → Int32) (l1 : Int32), (16 - l1.toInt).toNat = n → zF wr_206 m0 m → zV m → (0 ≤ l1.toInt) → (T ≤ 512) → (zW (m 94 7) (m 98) (m 101) (m 102) (m 108)) → (zGW T (m 94 55) (m 109)) → (zGU T (m 94 46) (m 99)) → (zOw (m 99) (m 103) (m 111)) → ((m 94 10).toInt = 2) → (qHv aa) → (qHL aa (m 94 11) (m0 94 61) (aa 87 4)) → (∀ s, s < 3100 → (m 99) s ≠ 0 → (m 107) s = 0) → ((m 94 45).toInt = sm (zbU (m 99)) (m 102) 3100) → ((m 94 61).toInt = 1 - (m0 94 61).toInt) → (qHR (m 99) (m 100) (m 98) (m 101) (m 102) (m0 103) (m 107) (m 108) (m 109) (m0 111) (m 112) (m 113) (m 114) (m 94 55) (m 94 46) ro 0 0 0 1 (m 110) (m 119) (m 94 76) (m 94 75) (m 103) (m 111) (m 94 77) (aa 87 5 - aa 87 3).toInt (aa 87 3).toInt (aa 87 5).toInt l1 (aRo (aWh aa 0) 0)) → zm X 5 109 206 49 [(0, .inr (.inr (some 94))), (1, .inl l1)] m P := by
  intro n
  induction n using Nat.strongRecOn with
  | _ n IH =>
    intro m l1 hmu hF hV hi0 hi1 r_W r_GW r_GU r_OW hi6 r_HV r_HLo r_HOo r_WTS hi11 r_HR
    refine g_206_49 l1 ?_
    have f1 : 0 ≤ (m 94 10).toInt ∧ (m 94 10).toInt ≤ 6 := rs_94_10 (m := m) hV
    have f2 : 0 ≤ (m 94 61).toInt ∧ (m 94 61).toInt ≤ 1 := rs_94_61 (m := m) hV
    have f3 : 0 ≤ (m0 94 61).toInt ∧ (m0 94 61).toInt ≤ 1 := rs_94_61 (m := m0) h0
    obtain ⟨c, hB, hT⟩ := r_HR
    have li4 : (16 : Int32).toInt = 16 := rfl
    have b5 := i_bd l1
    refine zd (fun (h6 : (16 : Int32) ≤ l1) => ?_) (fun (h6 : ¬ (16 : Int32) ≤ l1) => ?_)
    · skip
      have g7 := i_le h6
      try have gw := GW_room r_GW
      have li8 : (0 : Int32).toInt = 0 := rfl
      exact lp_206rv_73 h0 K _ _ ((0 : Int32)) rfl hF hV (by omega) (by omega) r_W r_GW r_GU r_OW (show (m 94 10).toInt = 2 from by omega) r_HV r_HLo r_HOo r_WTS (show (m 94 61).toInt = 1 - (m0 94 61).toInt from by omega) (show qHX (m 99) (m 100) (m 98) (m 101) (m 102) (m0 103) (m 107) (m 108) (m 109) (m0 111) (m 112) (m 113) (m 114) (m 94 55) (m 94 46) ro 0 0 0 1 (m 110) (m 119) (m 94 76) (m 94 75) (m 103) (m 111) (m 94 77) (aa 87 5 - aa 87 3).toInt (aa 87 3).toInt (aa 87 5).toInt (0 : Int32) (aRo (aWh aa 0) 0) from by first | (exact HR_end ⟨c, hB, hT⟩ (by omega) (by omega)) | (exfalso; omega; done) | (exfalso; contradiction; done))
    · skip
      have g9 := i_nle h6
      have hg10 : (0 ≤ l1 ∧ l1.toNatClampNeg < 16) := i_ix (by omega) (by omega)
      refine ⟨hg10, ?_⟩
      first | have f11 : -1 ≤ (m 112 l1.toNatClampNeg).toInt ∧ (m 112 l1.toNatClampNeg).toInt ≤ 3099 := ra_112 (m := m) hV (k := l1.toNatClampNeg) (i_ix (n := 16) (by omega) (by omega)).2 | have b12 := i_bd (m 112 l1.toNatClampNeg)
      refine sp_207rv (aa := c) (AT := (m0 103)) (OW := (m0 111)) (st := (aa 87 5 - aa 87 3).toInt) (ot := (aa 87 3).toInt) (rr := (aa 87 5).toInt) ((m 112 l1.toNatClampNeg)) hV (by omega) (by omega) (show (m 94 10).toInt = 2 from by omega) (show qU (m 99) (m 112 l1.toNatClampNeg) from by first | (exact (HR_rt hB (by omega) (by omega) rfl).1) | (exfalso; omega; done) | (exfalso; contradiction; done)) r_OW hB (fun m1 hV_m1 p0_m1 p1_m1 => zmv_n ?_)
      have p0_m1 : zOw (m 99) (m1 103) (m1 111) := p0_m1
      have p1_m1 : qHB (m 99) (m 100) (m 98) (m 101) (m 102) (m0 103) (m 107) (m 108) (m 109) (m0 111) (m 112) (m 113) (m 114) (m 94 55) (m 94 46) ro 0 0 0 1 (m1 110) (m1 119) (m 94 76) (m1 94 75) (m1 103) (m1 111) (m1 94 77) (aa 87 5 - aa 87 3).toInt (aa 87 3).toInt (aa 87 5).toInt (aCm c (qNo (m 100) (m 112 l1.toNatClampNeg))) := p1_m1
      try have gw := GW_room r_GW
      first | have e13 : (l1 + (1 : Int32)).toInt = l1.toInt + (1) := i_addk rfl (by omega) (by omega) | have b14 := i_bd (l1 + (1 : Int32))
      exact IH (16 - (l1 + (1 : Int32)).toInt).toNat (by omega) _ ((l1 + (1 : Int32))) rfl (zF_zov hF ws_207_206) hV_m1 (by omega) (by omega) r_W r_GW r_GU p0_m1 (show (m 94 10).toInt = 2 from by omega) r_HV r_HLo r_HOo r_WTS (show (m 94 61).toInt = 1 - (m0 94 61).toInt from by omega) (show qHR (m 99) (m 100) (m 98) (m 101) (m 102) (m0 103) (m 107) (m 108) (m 109) (m0 111) (m 112) (m 113) (m 114) (m 94 55) (m 94 46) ro 0 0 0 1 (m1 110) (m1 119) (m 94 76) (m1 94 75) (m1 103) (m1 111) (m1 94 77) (aa 87 5 - aa 87 3).toInt (aa 87 3).toInt (aa 87 5).toInt (l1 + (1 : Int32)) (aRo (aWh aa 0) 0) from by first | (exact ⟨_, p1_m1, (HR_rt hB (by omega) (by omega) rfl).2.symm.trans hT⟩) | (exfalso; omega; done) | (exfalso; contradiction; done))
set_option maxHeartbeats 8000000 in
theorem sp_206rv {X : Nat × (Nat → Int32)} {P : Option ma_V → (Nat → Nat → Int32) → Prop} {T : Nat} {aa : Nat→Nat→Int32} {ro : Int32} {m : Nat → Nat → Int32}  (hV : zV m) (hpre0 : T ≤ 512) (r_W : zW (m 94 7) (m 98) (m 101) (m 102) (m 108)) (r_GW : zGW T (m 94 55) (m 109)) (r_GU : zGU T (m 94 46) (m 99)) (r_OW : zOw (m 99) (m 103) (m 111)) (hpre5 : (m 94 10).toInt = 2) (r_RB : qRB (m 99) (m 100) (m 98) (m 101) (m 102) (m 103) (m 107) (m 108) (m 109) (m 111) (m 112) (m 113) (m 114) (m 94 55) (m 94 46) ro 0 0 0 1 aa) (r_HV : qHv aa) (r_HL : qHL aa (m 94 11) (m 94 61) (m 94 59)) (r_WTS : (m 94 45).toInt = sm (zbU (m 99)) (m 102) 3100) (KZ : ∀ v m₉, zV (zov wr_206 m m₉) → (zGW T (m₉ 94 55) (m₉ 109)) → (zGU T (m 94 46) (m₉ 99)) → (zOw (m₉ 99) (m₉ 103) (m₉ 111)) → (qRB (m₉ 99) (m 100) (m 98) (m 101) (m 102) (m₉ 103) (m 107) (m 108) (m₉ 109) (m₉ 111) (m 112) (m₉ 113) (m₉ 114) (m₉ 94 55) (m 94 46) ro 0 0 0 1 (hCl aa)) → (qHv (hCl aa)) → (qHL (hCl aa) (m 94 11) (m₉ 94 61) (m₉ 94 59)) → ((m₉ 94 45).toInt = sm (zbU (m₉ 99)) (m 102) 3100) → P (some (.inl v)) (zov wr_206 m m₉)) : zm X 5 109 206 0 [(0, .inr (.inr (some 94)))] m P := by
  have K : ∀ v m₉, zF wr_206 m m₉ → zV m₉ → (zGW T (m₉ 94 55) (m₉ 109)) → (zGU T (m₉ 94 46) (m₉ 99)) → (zOw (m₉ 99) (m₉ 103) (m₉ 111)) → (qRB (m₉ 99) (m₉ 100) (m₉ 98) (m₉ 101) (m₉ 102) (m₉ 103) (m₉ 107) (m₉ 108) (m₉ 109) (m₉ 111) (m₉ 112) (m₉ 113) (m₉ 114) (m₉ 94 55) (m₉ 94 46) ro 0 0 0 1 (hCl aa)) → (qHv (hCl aa)) → (qHL (hCl aa) (m₉ 94 11) (m₉ 94 61) (m₉ 94 59)) → ((m₉ 94 45).toInt = sm (zbU (m₉ 99)) (m₉ 102) 3100) → P (some (.inl v)) m₉ := by
    intro v m₉ hf z q0 q1 q2 q3 q4 q5 q6
    have e := zov_eq hf
    rw [e] at z ⊢
    try rw [e] at q0
    try rw [e] at q1
    try rw [e] at q2
    try rw [e] at q3
    try rw [e] at q4
    try rw [e] at q5
    try rw [e] at q6
    exact KZ v m₉ z q0 q1 q2 q3 q4 q5 q6
  refine g_206_0  ?_
  have f1 : 0 ≤ (m 94 10).toInt ∧ (m 94 10).toInt ≤ 6 := rs_94_10 (m := m) hV
  have hV2 : zV (ma_u m 94 47 ((m 94 47) + (1 : Int32))) := uf_94_47 hV
  refine sp_189  hV2  (fun m1 hV_m1 p0_m1 => zmv_n ?_)
  have p0_m1 : ∀ s : Nat, s < 3100 → (m1 110) s = 0 := p0_m1
  try have gw := GW_room r_GW
  have li4 : (0 : Int32).toInt = 0 := rfl
  have hV3 : zV (ma_u (zov wr_189 (ma_u m 94 47 ((m 94 47) + (1 : Int32))) m1) 94 75 (0 : Int32)) := us_94_75 hV_m1 (by omega) (by omega)
  have hV5 : zV (ma_u (ma_u (zov wr_189 (ma_u m 94 47 ((m 94 47) + (1 : Int32))) m1) 94 75 (0 : Int32)) 94 76 (0 : Int32)) := us_94_76 hV3 (by omega) (by omega)
  have li7 : (1 : Int32).toInt = 1 := rfl
  have f8 : 0 ≤ (m 94 61).toInt ∧ (m 94 61).toInt ≤ 1 := rs_94_61 (m := m) hV
  first | have e9 : ((1 : Int32) - (m 94 61)).toInt = (1 : Int32).toInt - (m 94 61).toInt := i_sub (by omega) (by omega) | have b10 := i_bd ((1 : Int32) - (m 94 61))
  have hV6 : zV (ma_u (ma_u (ma_u (zov wr_189 (ma_u m 94 47 ((m 94 47) + (1 : Int32))) m1) 94 75 (0 : Int32)) 94 76 (0 : Int32)) 94 61 ((1 : Int32) - (m 94 61))) := us_94_61 hV5 (by omega) (by omega)
  have f12 : 0 ≤ (m 94 11).toInt ∧ (m 94 11).toInt ≤ 1500 := rs_94_11 (m := m) hV
  first | have f13 := i_mul01 (x := ((1 : Int32) - (m 94 61))) (y := (m 94 11)) (by omega) (by omega) (by omega) (by omega) | have b14 := i_bd (((1 : Int32) - (m 94 61)) * (m 94 11))
  have hV11 : zV (ma_u (ma_u (ma_u (ma_u (zov wr_189 (ma_u m 94 47 ((m 94 47) + (1 : Int32))) m1) 94 75 (0 : Int32)) 94 76 (0 : Int32)) 94 61 ((1 : Int32) - (m 94 61))) 94 77 (((1 : Int32) - (m 94 61)) * (m 94 11))) := us_94_77 hV6 (by omega) (by omega)
  exact lp_206rv_49 hV K _ _ ((0 : Int32)) rfl (zF_u (zF_u (zF_u (zF_u (zF_zov (zF_u zF_rfl rfl) ws_189_206) rfl) rfl) rfl) rfl) hV11 (by omega) (by omega) r_W r_GW r_GU r_OW (show (m 94 10).toInt = 2 from by omega) r_HV (show qHL aa (m 94 11) (m 94 61) (aa 87 4) from by first | (exact HL_tp r_HL) | (exfalso; omega; done) | (exfalso; contradiction; done)) (show ∀ s, s < 3100 → (m 99) s ≠ 0 → (m 107) s = 0 from by first | (exact HV_ho r_HV r_RB) | (exfalso; omega; done) | (exfalso; contradiction; done)) r_WTS (show ((1 : Int32) - (m 94 61)).toInt = 1 - (m 94 61).toInt from by omega) (show qHR (m 99) (m 100) (m 98) (m 101) (m 102) (m 103) (m 107) (m 108) (m 109) (m 111) (m 112) (m 113) (m 114) (m 94 55) (m 94 46) ro 0 0 0 1 (m1 110) (m 119) (0 : Int32) (0 : Int32) (m 103) (m 111) (((1 : Int32) - (m 94 61)) * (m 94 11)) (aa 87 5 - aa 87 3).toInt (aa 87 3).toInt (aa 87 5).toInt (0 : Int32) (aRo (aWh aa 0) 0) from by first | (exact HR_0 (HB_wh r_RB r_HV p0_m1 (by omega) (by omega) (HL_to r_HL r_HV ⟨fun _ => by omega, fun _ => by omega⟩)) (by omega)) | (exfalso; omega; done) | (exfalso; contradiction; done))

