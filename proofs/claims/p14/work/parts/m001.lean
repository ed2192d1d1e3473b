/-! from 95.za7 -/
/-! the reference answers (written by wip/tools/gen15a.py) -/
theorem sp_253av {X : Nat × (Nat → Int32)} {P : Option ma_V → (Nat → Nat → Int32) → Prop} {T : Nat} {m : Nat → Nat → Int32} (ob : Int32) (on : Int32) (hV : zV m) (hpre0 : (m 94 8).toInt = 0) (KZ : ∀ v m₉, zV (zov wr_253 m m₉) → ((m₉ 94 0).toInt = 1) → P (some (.inl v)) (zov wr_253 m m₉)) : zm X 5 109 253 0 [(0, .inr (.inr (some 94))), (1, .inl ob), (2, .inl on)] m P := by
  have K : ∀ v m₉, zF wr_253 m m₉ → zV m₉ → ((m₉ 94 0).toInt = 1) → P (some (.inl v)) m₉ := by
    intro v m₉ hf z q0
    have e := zov_eq hf
    rw [e] at z ⊢
    try rw [e] at q0
    exact KZ v m₉ z q0
  refine g_253_0 ob on ?_
  have f1 : 0 ≤ (m 94 8).toInt ∧ (m 94 8).toInt ≤ 1 := rs_94_8 (m := m) hV
  have li2 : (0 : Int32).toInt = 0 := rfl
  refine zd (fun (h3 : (m 94 8) = (0 : Int32)) => ?_) (fun (h3 : ¬ (m 94 8) = (0 : Int32)) => ?_)
  · skip
    have g4 := i_eq h3
    have hV5 : zV (ma_u m 94 0 (1 : Int32)) := uf_94_0 hV
    have li6 : (1 : Int32).toInt = 1 := rfl
    exact K ((0 : Int32)) _ (zF_u zF_rfl rfl) hV5 (show (1 : Int32).toInt = 1 from by omega)
  · skip
    have g7 := i_ne h3
    have b8 := i_bd ob
    have hV9 : zV (ma_u m 94 0 (0 : Int32)) := uf_94_0 hV
    refine sp_245 (ob) hV9 (show zW (m 94 7) (m 98) (m 101) (m 102) (m 108) from by first | (exfalso; omega; done) | (exfalso; contradiction; done)) (show zDX (m 94 10) (m 99) (m 112) (m 113) (m 114) (m 94 55) (m 98) (m 101) (m 102) (m 108) from by first | (exfalso; omega; done) | (exfalso; contradiction; done)) (fun v2 m1 hV_m1 p0_m1 p1_m1 => zmi_n ?_)
    have p0_m1 : -1 ≤ v2.toInt ∧ v2.toInt ≤ 3099 := p0_m1
    have p1_m1 : v2.toInt < 0 ∨ (m 99) v2.toNatClampNeg ≠ 0 := p1_m1
    have b10 := i_bd v2
    refine zd (fun (h11 : (0 : Int32) ≤ v2) => ?_) (fun (h11 : ¬ (0 : Int32) ≤ v2) => ?_)
    · skip
      have g12 := i_le h11
      have f13 : 0 ≤ (m 94 10).toInt ∧ (m 94 10).toInt ≤ 6 := rs_94_10 (m := m) hV
      have li14 : (2 : Int32).toInt = 2 := rfl
      refine zd (fun (h15 : (m 94 10) = (2 : Int32)) => ?_) (fun (h15 : ¬ (m 94 10) = (2 : Int32)) => ?_)
      · skip
        have g16 := i_eq h15
        have hV17 : zV (ma_u (zov wr_245 (ma_u m 94 0 (0 : Int32)) m1) 94 0 (3 : Int32)) := uf_94_0 hV_m1
        have li18 : (3 : Int32).toInt = 3 := rfl
        exact K ((0 : Int32)) _ (zF_u (zF_zov (zF_u zF_rfl rfl) ws_245_253) rfl) hV17 (show (3 : Int32).toInt = 1 from by omega)
      · skip
        have g19 := i_ne h15
        have li20 : (3 : Int32).toInt = 3 := rfl
        refine zd (fun (h21 : (m 94 10) = (3 : Int32)) => ?_) (fun (h21 : ¬ (m 94 10) = (3 : Int32)) => ?_)
        · skip
          have g22 := i_eq h21
          have hg23 : (0 ≤ v2 ∧ v2.toNatClampNeg < 3100) := i_ix (by omega) (by omega)
          refine ⟨hg23, ?_⟩
          have f24 : 0 ≤ (m 94 14).toInt ∧ (m 94 14).toInt ≤ 1500 := rs_94_14 (m := m) hV
          first | have f25 : 0 ≤ (m 103 v2.toNatClampNeg).toInt ∧ (m 103 v2.toNatClampNeg).toInt ≤ 4599 := ra_103 (m := m) hV (k := v2.toNatClampNeg) (i_ix (n := 3100) (by omega) (by omega)).2 | have b26 := i_bd (m 103 v2.toNatClampNeg)
          refine zd (fun (h27 : (m 94 14) ≤ (m 103 v2.toNatClampNeg)) => ?_) (fun (h27 : ¬ (m 94 14) ≤ (m 103 v2.toNatClampNeg)) => ?_)
          · skip
            have g28 := i_le h27
            have hV29 : zV (ma_u (zov wr_245 (ma_u m 94 0 (0 : Int32)) m1) 94 0 (3 : Int32)) := uf_94_0 hV_m1
            exact K ((0 : Int32)) _ (zF_u (zF_zov (zF_u zF_rfl rfl) ws_245_253) rfl) hV29 (show (3 : Int32).toInt = 1 from by omega)
          · skip
            have g30 := i_nle h27
            have b31 := i_bd on
            refine zd (fun (h32 : on = (0 : Int32)) => ?_) (fun (h32 : ¬ on = (0 : Int32)) => ?_)
            · skip
              have g33 := i_eq h32
              have hg34 : (0 ≤ v2 ∧ v2.toNatClampNeg < 3100) := i_ix (by omega) (by omega)
              refine ⟨hg34, ?_⟩
              have b35 := i_bd (m 107 v2.toNatClampNeg)
              refine zd (fun (h36 : (m 107 v2.toNatClampNeg) = (0 : Int32)) => ?_) (fun (h36 : ¬ (m 107 v2.toNatClampNeg) = (0 : Int32)) => ?_)
              · skip
                have g37 := i_eq h36
                have hV38 : zV (ma_u (zov wr_245 (ma_u m 94 0 (0 : Int32)) m1) 94 0 (3 : Int32)) := uf_94_0 hV_m1
                exact K ((0 : Int32)) _ (zF_u (zF_zov (zF_u zF_rfl rfl) ws_245_253) rfl) hV38 (show (3 : Int32).toInt = 1 from by omega)
              · skip
                have g39 := i_ne h36
                have hg40 : (0 ≤ v2 ∧ v2.toNatClampNeg < 3100) := i_ix (by omega) (by omega)
                refine ⟨hg40, ?_⟩
                refine zd (fun (h41 : on = (0 : Int32)) => ?_) (fun (h41 : ¬ on = (0 : Int32)) => ?_)
                · skip
                  have g42 := i_eq h41
                  have hg43 : (0 ≤ v2 ∧ v2.toNatClampNeg < 3100) := i_ix (by omega) (by omega)
                  refine ⟨hg43, ?_⟩
                  refine zd (fun (h44 : on = (0 : Int32)) => ?_) (fun (h44 : ¬ on = (0 : Int32)) => ?_)
                  · skip
                    have g45 := i_eq h44
                    have hV46 : zV (ma_u (zov wr_245 (ma_u m 94 0 (0 : Int32)) m1) 94 0 (0 : Int32)) := uf_94_0 hV_m1
                    have hV47 : zV (ma_u (ma_u (zov wr_245 (ma_u m 94 0 (0 : Int32)) m1) 94 0 (0 : Int32)) 107 v2.toNatClampNeg ((m 107 v2.toNatClampNeg) + (-1 : Int32))) := ua_107 hV46
                    refine sp_241 (v2) hV47 (by omega) (show zW (m 94 7) (m 98) (m 101) (m 102) (m 108) from by first | (exfalso; omega; done) | (exfalso; contradiction; done)) (show zGW T (m 94 55) (m 109) from by first | (exfalso; omega; done) | (exfalso; contradiction; done)) (show zGU T (m 94 46) (m 99) from by first | (exfalso; omega; done) | (exfalso; contradiction; done)) (show zOw (m 99) (m 103) (m 111) from by first | (exfalso; omega; done) | (exfalso; contradiction; done)) (show zDX (m 94 10) (m 99) (m 112) (m 113) (m 114) (m 94 55) (m 98) (m 101) (m 102) (m 108) from by first | (exfalso; omega; done) | (exfalso; contradiction; done)) (fun m15 hV_m15 p0_m15 p1_m15 p2_m15 p3_m15 p4_m15 => zmv_n ?_)
                    have p0_m15 : zGW T (m15 94 55) (m15 109) := p0_m15
                    have p1_m15 : zGU T (m 94 46) (m15 99) := p1_m15
                    have p2_m15 : zOw (m15 99) (m 103) (m15 111) := p2_m15
                    have p3_m15 : zDX (m 94 10) (m15 99) (m 112) (m15 113) (m15 114) (m15 94 55) (m 98) (m 101) (m 102) (m 108) := p3_m15
                    have p4_m15 : (m 94 10).toInt ≠ 4 → ((m15 99) = (m 99) ∧ (m15 111) = (m 111) ∧ (m15 113) = (m 113) ∧ (m15 114) = (m 114) ∧ (m15 94 55) = (m 94 55) ∧ (m15 109) = (m 109)) := p4_m15
                    first | have e48 : ((m 107 v2.toNatClampNeg) + (-1 : Int32)).toInt = (m 107 v2.toNatClampNeg).toInt + (-1) := i_addk rfl (by omega) (by omega) | have b49 := i_bd ((m 107 v2.toNatClampNeg) + (-1 : Int32))
                    exact K (((m 107 v2.toNatClampNeg) + (-1 : Int32))) _ (zF_zov (zF_u (zF_u (zF_zov (zF_u zF_rfl rfl) ws_245_253) rfl) rfl) ws_241_253) hV_m15 (show (0 : Int32).toInt = 1 from by omega)
                  · skip
                    have g50 := i_ne h44
                    refine zd (fun (h51 : v2 < (0 : Int32)) => ?_) (fun (h51 : ¬ v2 < (0 : Int32)) => ?_)
                    · skip
                      have g52 := i_lt h51
                      have hV53 : zV (ma_u (zov wr_245 (ma_u m 94 0 (0 : Int32)) m1) 94 0 (0 : Int32)) := uf_94_0 hV_m1
                      have hV54 : zV (ma_u (ma_u (zov wr_245 (ma_u m 94 0 (0 : Int32)) m1) 94 0 (0 : Int32)) 107 v2.toNatClampNeg ((m 107 v2.toNatClampNeg) + (-1 : Int32))) := ua_107 hV53
                      first | have e55 : ((m 107 v2.toNatClampNeg) + (-1 : Int32)).toInt = (m 107 v2.toNatClampNeg).toInt + (-1) := i_addk rfl (by omega) (by omega) | have b56 := i_bd ((m 107 v2.toNatClampNeg) + (-1 : Int32))
                      exact K (((m 107 v2.toNatClampNeg) + (-1 : Int32))) _ (zF_u (zF_u (zF_zov (zF_u zF_rfl rfl) ws_245_253) rfl) rfl) hV54 (show (0 : Int32).toInt = 1 from by omega)
                    · skip
                      have g57 := i_nlt h51
                      have li58 : (4 : Int32).toInt = 4 := rfl
                      refine zd (fun (h59 : (m 94 10) = (4 : Int32)) => ?_) (fun (h59 : ¬ (m 94 10) = (4 : Int32)) => ?_)
                      · skip
                        have g60 := i_eq h59
                        have hg61 : (0 ≤ v2 ∧ v2.toNatClampNeg < 3100) := i_ix (by omega) (by omega)
                        refine ⟨hg61, ?_⟩
                        have hg62 : (0 ≤ v2 ∧ v2.toNatClampNeg < 3100) := i_ix (by omega) (by omega)
                        refine ⟨hg62, ?_⟩
                        have hV63 : zV (ma_u (zov wr_245 (ma_u m 94 0 (0 : Int32)) m1) 94 0 (0 : Int32)) := uf_94_0 hV_m1
                        have hV64 : zV (ma_u (ma_u (zov wr_245 (ma_u m 94 0 (0 : Int32)) m1) 94 0 (0 : Int32)) 107 v2.toNatClampNeg ((m 107 v2.toNatClampNeg) + (-1 : Int32))) := ua_107 hV63
                        have hV65 : zV (ma_u (ma_u (ma_u (zov wr_245 (ma_u m 94 0 (0 : Int32)) m1) 94 0 (0 : Int32)) 107 v2.toNatClampNeg ((m 107 v2.toNatClampNeg) + (-1 : Int32))) 105 v2.toNatClampNeg ((m 105 v2.toNatClampNeg) + (1 : Int32))) := ua_105 hV64
                        first | have e66 : ((m 107 v2.toNatClampNeg) + (-1 : Int32)).toInt = (m 107 v2.toNatClampNeg).toInt + (-1) := i_addk rfl (by omega) (by omega) | have b67 := i_bd ((m 107 v2.toNatClampNeg) + (-1 : Int32))
                        exact K (((m 107 v2.toNatClampNeg) + (-1 : Int32))) _ (zF_u (zF_u (zF_u (zF_zov (zF_u zF_rfl rfl) ws_245_253) rfl) rfl) rfl) hV65 (show (0 : Int32).toInt = 1 from by omega)
                      · skip
                        have g68 := i_ne h59
                        have hV69 : zV (ma_u (zov wr_245 (ma_u m 94 0 (0 : Int32)) m1) 94 0 (0 : Int32)) := uf_94_0 hV_m1
                        have hV70 : zV (ma_u (ma_u (zov wr_245 (ma_u m 94 0 (0 : Int32)) m1) 94 0 (0 : Int32)) 107 v2.toNatClampNeg ((m 107 v2.toNatClampNeg) + (-1 : Int32))) := ua_107 hV69
                        first | have e71 : ((m 107 v2.toNatClampNeg) + (-1 : Int32)).toInt = (m 107 v2.toNatClampNeg).toInt + (-1) := i_addk rfl (by omega) (by omega) | have b72 := i_bd ((m 107 v2.toNatClampNeg) + (-1 : Int32))
                        exact K (((m 107 v2.toNatClampNeg) + (-1 : Int32))) _ (zF_u (zF_u (zF_zov (zF_u zF_rfl rfl) ws_245_253) rfl) rfl) hV70 (show (0 : Int32).toInt = 1 from by omega)
                · skip
                  have g73 := i_ne h41
                  have hg74 : (0 ≤ v2 ∧ v2.toNatClampNeg < 3100) := i_ix (by omega) (by omega)
                  refine ⟨hg74, ?_⟩
                  refine zd (fun (h75 : on = (0 : Int32)) => ?_) (fun (h75 : ¬ on = (0 : Int32)) => ?_)
                  · skip
                    have g76 := i_eq h75
                    have hV77 : zV (ma_u (zov wr_245 (ma_u m 94 0 (0 : Int32)) m1) 94 0 (0 : Int32)) := uf_94_0 hV_m1
                    have hV78 : zV (ma_u (ma_u (zov wr_245 (ma_u m 94 0 (0 : Int32)) m1) 94 0 (0 : Int32)) 107 v2.toNatClampNeg ((m 107 v2.toNatClampNeg) + (1 : Int32))) := ua_107 hV77
                    refine sp_241 (v2) hV78 (by omega) (show zW (m 94 7) (m 98) (m 101) (m 102) (m 108) from by first | (exfalso; omega; done) | (exfalso; contradiction; done)) (show zGW T (m 94 55) (m 109) from by first | (exfalso; omega; done) | (exfalso; contradiction; done)) (show zGU T (m 94 46) (m 99) from by first | (exfalso; omega; done) | (exfalso; contradiction; done)) (show zOw (m 99) (m 103) (m 111) from by first | (exfalso; omega; done) | (exfalso; contradiction; done)) (show zDX (m 94 10) (m 99) (m 112) (m 113) (m 114) (m 94 55) (m 98) (m 101) (m 102) (m 108) from by first | (exfalso; omega; done) | (exfalso; contradiction; done)) (fun m17 hV_m17 p0_m17 p1_m17 p2_m17 p3_m17 p4_m17 => zmv_n ?_)
                    have p0_m17 : zGW T (m17 94 55) (m17 109) := p0_m17
                    have p1_m17 : zGU T (m 94 46) (m17 99) := p1_m17
                    have p2_m17 : zOw (m17 99) (m 103) (m17 111) := p2_m17
                    have p3_m17 : zDX (m 94 10) (m17 99) (m 112) (m17 113) (m17 114) (m17 94 55) (m 98) (m 101) (m 102) (m 108) := p3_m17
                    have p4_m17 : (m 94 10).toInt ≠ 4 → ((m17 99) = (m 99) ∧ (m17 111) = (m 111) ∧ (m17 113) = (m 113) ∧ (m17 114) = (m 114) ∧ (m17 94 55) = (m 94 55) ∧ (m17 109) = (m 109)) := p4_m17
                    first | have e79 : ((m 107 v2.toNatClampNeg) + (1 : Int32)).toInt = (m 107 v2.toNatClampNeg).toInt + (1) := i_addk rfl (by omega) (by omega) | have b80 := i_bd ((m 107 v2.toNatClampNeg) + (1 : Int32))
                    exact K (((m 107 v2.toNatClampNeg) + (1 : Int32))) _ (zF_zov (zF_u (zF_u (zF_zov (zF_u zF_rfl rfl) ws_245_253) rfl) rfl) ws_241_253) hV_m17 (show (0 : Int32).toInt = 1 from by omega)
                  · skip
                    have g81 := i_ne h75
                    refine zd (fun (h82 : v2 < (0 : Int32)) => ?_) (fun (h82 : ¬ v2 < (0 : Int32)) => ?_)
                    · skip
                      have g83 := i_lt h82
                      have hV84 : zV (ma_u (zov wr_245 (ma_u m 94 0 (0 : Int32)) m1) 94 0 (0 : Int32)) := uf_94_0 hV_m1
                      have hV85 : zV (ma_u (ma_u (zov wr_245 (ma_u m 94 0 (0 : Int32)) m1) 94 0 (0 : Int32)) 107 v2.toNatClampNeg ((m 107 v2.toNatClampNeg) + (1 : Int32))) := ua_107 hV84
                      first | have e86 : ((m 107 v2.toNatClampNeg) + (1 : Int32)).toInt = (m 107 v2.toNatClampNeg).toInt + (1) := i_addk rfl (by omega) (by omega) | have b87 := i_bd ((m 107 v2.toNatClampNeg) + (1 : Int32))
                      exact K (((m 107 v2.toNatClampNeg) + (1 : Int32))) _ (zF_u (zF_u (zF_zov (zF_u zF_rfl rfl) ws_245_253) rfl) rfl) hV85 (show (0 : Int32).toInt = 1 from by omega)
                    · skip
                      have g88 := i_nlt h82
                      have li89 : (4 : Int32).toInt = 4 := rfl
                      refine zd (fun (h90 : (m 94 10) = (4 : Int32)) => ?_) (fun (h90 : ¬ (m 94 10) = (4 : Int32)) => ?_)
                      · skip
                        have g91 := i_eq h90
                        have hg92 : (0 ≤ v2 ∧ v2.toNatClampNeg < 3100) := i_ix (by omega) (by omega)
                        refine ⟨hg92, ?_⟩
                        have hg93 : (0 ≤ v2 ∧ v2.toNatClampNeg < 3100) := i_ix (by omega) (by omega)
                        refine ⟨hg93, ?_⟩
                        have hV94 : zV (ma_u (zov wr_245 (ma_u m 94 0 (0 : Int32)) m1) 94 0 (0 : Int32)) := uf_94_0 hV_m1
                        have hV95 : zV (ma_u (ma_u (zov wr_245 (ma_u m 94 0 (0 : Int32)) m1) 94 0 (0 : Int32)) 107 v2.toNatClampNeg ((m 107 v2.toNatClampNeg) + (1 : Int32))) := ua_107 hV94
                        have hV96 : zV (ma_u (ma_u (ma_u (zov wr_245 (ma_u m 94 0 (0 : Int32)) m1) 94 0 (0 : Int32)) 107 v2.toNatClampNeg ((m 107 v2.toNatClampNeg) + (1 : Int32))) 105 v2.toNatClampNeg ((m 105 v2.toNatClampNeg) + (1 : Int32))) := ua_105 hV95
                        first | have e97 : ((m 107 v2.toNatClampNeg) + (1 : Int32)).toInt = (m 107 v2.toNatClampNeg).toInt + (1) := i_addk rfl (by omega) (by omega) | have b98 := i_bd ((m 107 v2.toNatClampNeg) + (1 : Int32))
                        exact K (((m 107 v2.toNatClampNeg) + (1 : Int32))) _ (zF_u (zF_u (zF_u (zF_zov (zF_u zF_rfl rfl) ws_245_253) rfl) rfl) rfl) hV96 (show (0 : Int32).toInt = 1 from by omega)
                      · skip
                        have g99 := i_ne h90
                        have hV100 : zV (ma_u (zov wr_245 (ma_u m 94 0 (0 : Int32)) m1) 94 0 (0 : Int32)) := uf_94_0 hV_m1
                        have hV101 : zV (ma_u (ma_u (zov wr_245 (ma_u m 94 0 (0 : Int32)) m1) 94 0 (0 : Int32)) 107 v2.toNatClampNeg ((m 107 v2.toNatClampNeg) + (1 : Int32))) := ua_107 hV100
                        first | have e102 : ((m 107 v2.toNatClampNeg) + (1 : Int32)).toInt = (m 107 v2.toNatClampNeg).toInt + (1) := i_addk rfl (by omega) (by omega) | have b103 := i_bd ((m 107 v2.toNatClampNeg) + (1 : Int32))
                        exact K (((m 107 v2.toNatClampNeg) + (1 : Int32))) _ (zF_u (zF_u (zF_zov (zF_u zF_rfl rfl) ws_245_253) rfl) rfl) hV101 (show (0 : Int32).toInt = 1 from by omega)
            · skip
              have g104 := i_ne h32
              have hg105 : (0 ≤ v2 ∧ v2.toNatClampNeg < 3100) := i_ix (by omega) (by omega)
              refine ⟨hg105, ?_⟩
              refine zd (fun (h106 : on = (0 : Int32)) => ?_) (fun (h106 : ¬ on = (0 : Int32)) => ?_)
              · skip
                have g107 := i_eq h106
                have hg108 : (0 ≤ v2 ∧ v2.toNatClampNeg < 3100) := i_ix (by omega) (by omega)
                refine ⟨hg108, ?_⟩
                refine zd (fun (h109 : on = (0 : Int32)) => ?_) (fun (h109 : ¬ on = (0 : Int32)) => ?_)
                · skip
                  have g110 := i_eq h109
                  have hV111 : zV (ma_u (zov wr_245 (ma_u m 94 0 (0 : Int32)) m1) 94 0 (0 : Int32)) := uf_94_0 hV_m1
                  have hV112 : zV (ma_u (ma_u (zov wr_245 (ma_u m 94 0 (0 : Int32)) m1) 94 0 (0 : Int32)) 107 v2.toNatClampNeg ((m 107 v2.toNatClampNeg) + (-1 : Int32))) := ua_107 hV111
                  refine sp_241 (v2) hV112 (by omega) (show zW (m 94 7) (m 98) (m 101) (m 102) (m 108) from by first | (exfalso; omega; done) | (exfalso; contradiction; done)) (show zGW T (m 94 55) (m 109) from by first | (exfalso; omega; done) | (exfalso; contradiction; done)) (show zGU T (m 94 46) (m 99) from by first | (exfalso; omega; done) | (exfalso; contradiction; done)) (show zOw (m 99) (m 103) (m 111) from by first | (exfalso; omega; done) | (exfalso; contradiction; done)) (show zDX (m 94 10) (m 99) (m 112) (m 113) (m 114) (m 94 55) (m 98) (m 101) (m 102) (m 108) from by first | (exfalso; omega; done) | (exfalso; contradiction; done)) (fun m11 hV_m11 p0_m11 p1_m11 p2_m11 p3_m11 p4_m11 => zmv_n ?_)
                  have p0_m11 : zGW T (m11 94 55) (m11 109) := p0_m11
                  have p1_m11 : zGU T (m 94 46) (m11 99) := p1_m11
                  have p2_m11 : zOw (m11 99) (m 103) (m11 111) := p2_m11
                  have p3_m11 : zDX (m 94 10) (m11 99) (m 112) (m11 113) (m11 114) (m11 94 55) (m 98) (m 101) (m 102) (m 108) := p3_m11
                  have p4_m11 : (m 94 10).toInt ≠ 4 → ((m11 99) = (m 99) ∧ (m11 111) = (m 111) ∧ (m11 113) = (m 113) ∧ (m11 114) = (m 114) ∧ (m11 94 55) = (m 94 55) ∧ (m11 109) = (m 109)) := p4_m11
                  have b113 := i_bd (m 107 v2.toNatClampNeg)
                  first | have e114 : ((m 107 v2.toNatClampNeg) + (-1 : Int32)).toInt = (m 107 v2.toNatClampNeg).toInt + (-1) := i_addk rfl (by omega) (by omega) | have b115 := i_bd ((m 107 v2.toNatClampNeg) + (-1 : Int32))
                  exact K (((m 107 v2.toNatClampNeg) + (-1 : Int32))) _ (zF_zov (zF_u (zF_u (zF_zov (zF_u zF_rfl rfl) ws_245_253) rfl) rfl) ws_241_253) hV_m11 (show (0 : Int32).toInt = 1 from by omega)
                · skip
                  have g116 := i_ne h109
                  refine zd (fun (h117 : v2 < (0 : Int32)) => ?_) (fun (h117 : ¬ v2 < (0 : Int32)) => ?_)
                  · skip
                    have g118 := i_lt h117
                    have hV119 : zV (ma_u (zov wr_245 (ma_u m 94 0 (0 : Int32)) m1) 94 0 (0 : Int32)) := uf_94_0 hV_m1
                    have hV120 : zV (ma_u (ma_u (zov wr_245 (ma_u m 94 0 (0 : Int32)) m1) 94 0 (0 : Int32)) 107 v2.toNatClampNeg ((m 107 v2.toNatClampNeg) + (-1 : Int32))) := ua_107 hV119
                    have b121 := i_bd (m 107 v2.toNatClampNeg)
                    first | have e122 : ((m 107 v2.toNatClampNeg) + (-1 : Int32)).toInt = (m 107 v2.toNatClampNeg).toInt + (-1) := i_addk rfl (by omega) (by omega) | have b123 := i_bd ((m 107 v2.toNatClampNeg) + (-1 : Int32))
                    exact K (((m 107 v2.toNatClampNeg) + (-1 : Int32))) _ (zF_u (zF_u (zF_zov (zF_u zF_rfl rfl) ws_245_253) rfl) rfl) hV120 (show (0 : Int32).toInt = 1 from by omega)
                  · skip
                    have g124 := i_nlt h117
                    have li125 : (4 : Int32).toInt = 4 := rfl
                    refine zd (fun (h126 : (m 94 10) = (4 : Int32)) => ?_) (fun (h126 : ¬ (m 94 10) = (4 : Int32)) => ?_)
                    · skip
                      have g127 := i_eq h126
                      have hg128 : (0 ≤ v2 ∧ v2.toNatClampNeg < 3100) := i_ix (by omega) (by omega)
                      refine ⟨hg128, ?_⟩
                      have hg129 : (0 ≤ v2 ∧ v2.toNatClampNeg < 3100) := i_ix (by omega) (by omega)
                      refine ⟨hg129, ?_⟩
                      have hV130 : zV (ma_u (zov wr_245 (ma_u m 94 0 (0 : Int32)) m1) 94 0 (0 : Int32)) := uf_94_0 hV_m1
                      have hV131 : zV (ma_u (ma_u (zov wr_245 (ma_u m 94 0 (0 : Int32)) m1) 94 0 (0 : Int32)) 107 v2.toNatClampNeg ((m 107 v2.toNatClampNeg) + (-1 : Int32))) := ua_107 hV130
                      have hV132 : zV (ma_u (ma_u (ma_u (zov wr_245 (ma_u m 94 0 (0 : Int32)) m1) 94 0 (0 : Int32)) 107 v2.toNatClampNeg ((m 107 v2.toNatClampNeg) + (-1 : Int32))) 105 v2.toNatClampNeg ((m 105 v2.toNatClampNeg) + (1 : Int32))) := ua_105 hV131
                      have b133 := i_bd (m 107 v2.toNatClampNeg)
                      first | have e134 : ((m 107 v2.toNatClampNeg) + (-1 : Int32)).toInt = (m 107 v2.toNatClampNeg).toInt + (-1) := i_addk rfl (by omega) (by omega) | have b135 := i_bd ((m 107 v2.toNatClampNeg) + (-1 : Int32))
                      exact K (((m 107 v2.toNatClampNeg) + (-1 : Int32))) _ (zF_u (zF_u (zF_u (zF_zov (zF_u zF_rfl rfl) ws_245_253) rfl) rfl) rfl) hV132 (show (0 : Int32).toInt = 1 from by omega)
                    · skip
                      have g136 := i_ne h126
                      have hV137 : zV (ma_u (zov wr_245 (ma_u m 94 0 (0 : Int32)) m1) 94 0 (0 : Int32)) := uf_94_0 hV_m1
                      have hV138 : zV (ma_u (ma_u (zov wr_245 (ma_u m 94 0 (0 : Int32)) m1) 94 0 (0 : Int32)) 107 v2.toNatClampNeg ((m 107 v2.toNatClampNeg) + (-1 : Int32))) := ua_107 hV137
                      have b139 := i_bd (m 107 v2.toNatClampNeg)
                      first | have e140 : ((m 107 v2.toNatClampNeg) + (-1 : Int32)).toInt = (m 107 v2.toNatClampNeg).toInt + (-1) := i_addk rfl (by omega) (by omega) | have b141 := i_bd ((m 107 v2.toNatClampNeg) + (-1 : Int32))
                      exact K (((m 107 v2.toNatClampNeg) + (-1 : Int32))) _ (zF_u (zF_u (zF_zov (zF_u zF_rfl rfl) ws_245_253) rfl) rfl) hV138 (show (0 : Int32).toInt = 1 from by omega)
              · skip
                have g142 := i_ne h106
                have hg143 : (0 ≤ v2 ∧ v2.toNatClampNeg < 3100) := i_ix (by omega) (by omega)
                refine ⟨hg143, ?_⟩
                refine zd (fun (h144 : on = (0 : Int32)) => ?_) (fun (h144 : ¬ on = (0 : Int32)) => ?_)
                · skip
                  have g145 := i_eq h144
                  have hV146 : zV (ma_u (zov wr_245 (ma_u m 94 0 (0 : Int32)) m1) 94 0 (0 : Int32)) := uf_94_0 hV_m1
                  have hV147 : zV (ma_u (ma_u (zov wr_245 (ma_u m 94 0 (0 : Int32)) m1) 94 0 (0 : Int32)) 107 v2.toNatClampNeg ((m 107 v2.toNatClampNeg) + (1 : Int32))) := ua_107 hV146
                  refine sp_241 (v2) hV147 (by omega) (show zW (m 94 7) (m 98) (m 101) (m 102) (m 108) from by first | (exfalso; omega; done) | (exfalso; contradiction; done)) (show zGW T (m 94 55) (m 109) from by first | (exfalso; omega; done) | (exfalso; contradiction; done)) (show zGU T (m 94 46) (m 99) from by first | (exfalso; omega; done) | (exfalso; contradiction; done)) (show zOw (m 99) (m 103) (m 111) from by first | (exfalso; omega; done) | (exfalso; contradiction; done)) (show zDX (m 94 10) (m 99) (m 112) (m 113) (m 114) (m 94 55) (m 98) (m 101) (m 102) (m 108) from by first | (exfalso; omega; done) | (exfalso; contradiction; done)) (fun m13 hV_m13 p0_m13 p1_m13 p2_m13 p3_m13 p4_m13 => zmv_n ?_)
                  have p0_m13 : zGW T (m13 94 55) (m13 109) := p0_m13
                  have p1_m13 : zGU T (m 94 46) (m13 99) := p1_m13
                  have p2_m13 : zOw (m13 99) (m 103) (m13 111) := p2_m13
                  have p3_m13 : zDX (m 94 10) (m13 99) (m 112) (m13 113) (m13 114) (m13 94 55) (m 98) (m 101) (m 102) (m 108) := p3_m13
                  have p4_m13 : (m 94 10).toInt ≠ 4 → ((m13 99) = (m 99) ∧ (m13 111) = (m 111) ∧ (m13 113) = (m 113) ∧ (m13 114) = (m 114) ∧ (m13 94 55) = (m 94 55) ∧ (m13 109) = (m 109)) := p4_m13
                  have b148 := i_bd (m 107 v2.toNatClampNeg)
                  first | have e149 : ((m 107 v2.toNatClampNeg) + (1 : Int32)).toInt = (m 107 v2.toNatClampNeg).toInt + (1) := i_addk rfl (by omega) (by omega) | have b150 := i_bd ((m 107 v2.toNatClampNeg) + (1 : Int32))
                  exact K (((m 107 v2.toNatClampNeg) + (1 : Int32))) _ (zF_zov (zF_u (zF_u (zF_zov (zF_u zF_rfl rfl) ws_245_253) rfl) rfl) ws_241_253) hV_m13 (show (0 : Int32).toInt = 1 from by omega)
                · skip
                  have g151 := i_ne h144
                  refine zd (fun (h152 : v2 < (0 : Int32)) => ?_) (fun (h152 : ¬ v2 < (0 : Int32)) => ?_)
                  · skip
                    have g153 := i_lt h152
                    have hV154 : zV (ma_u (zov wr_245 (ma_u m 94 0 (0 : Int32)) m1) 94 0 (0 : Int32)) := uf_94_0 hV_m1
                    have hV155 : zV (ma_u (ma_u (zov wr_245 (ma_u m 94 0 (0 : Int32)) m1) 94 0 (0 : Int32)) 107 v2.toNatClampNeg ((m 107 v2.toNatClampNeg) + (1 : Int32))) := ua_107 hV154
                    have b156 := i_bd (m 107 v2.toNatClampNeg)
                    first | have e157 : ((m 107 v2.toNatClampNeg) + (1 : Int32)).toInt = (m 107 v2.toNatClampNeg).toInt + (1) := i_addk rfl (by omega) (by omega) | have b158 := i_bd ((m 107 v2.toNatClampNeg) + (1 : Int32))
                    exact K (((m 107 v2.toNatClampNeg) + (1 : Int32))) _ (zF_u (zF_u (zF_zov (zF_u zF_rfl rfl) ws_245_253) rfl) rfl) hV155 (show (0 : Int32).toInt = 1 from by omega)
                  · skip
                    have g159 := i_nlt h152
                    have li160 : (4 : Int32).toInt = 4 := rfl
                    refine zd (fun (h161 : (m 94 10) = (4 : Int32)) => ?_) (fun (h161 : ¬ (m 94 10) = (4 : Int32)) => ?_)
                    · skip
                      have g162 := i_eq h161
                      have hg163 : (0 ≤ v2 ∧ v2.toNatClampNeg < 3100) := i_ix (by omega) (by omega)
                      refine ⟨hg163, ?_⟩
                      have hg164 : (0 ≤ v2 ∧ v2.toNatClampNeg < 3100) := i_ix (by omega) (by omega)
                      refine ⟨hg164, ?_⟩
                      have hV165 : zV (ma_u (zov wr_245 (ma_u m 94 0 (0 : Int32)) m1) 94 0 (0 : Int32)) := uf_94_0 hV_m1
                      have hV166 : zV (ma_u (ma_u (zov wr_245 (ma_u m 94 0 (0 : Int32)) m1) 94 0 (0 : Int32)) 107 v2.toNatClampNeg ((m 107 v2.toNatClampNeg) + (1 : Int32))) := ua_107 hV165
                      have hV167 : zV (ma_u (ma_u (ma_u (zov wr_245 (ma_u m 94 0 (0 : Int32)) m1) 94 0 (0 : Int32)) 107 v2.toNatClampNeg ((m 107 v2.toNatClampNeg) + (1 : Int32))) 105 v2.toNatClampNeg ((m 105 v2.toNatClampNeg) + (1 : Int32))) := ua_105 hV166
                      have b168 := i_bd (m 107 v2.toNatClampNeg)
                      first | have e169 : ((m 107 v2.toNatClampNeg) + (1 : Int32)).toInt = (m 107 v2.toNatClampNeg).toInt + (1) := i_addk rfl (by omega) (by omega) | have b170 := i_bd ((m 107 v2.toNatClampNeg) + (1 : Int32))
                      exact K (((m 107 v2.toNatClampNeg) + (1 : Int32))) _ (zF_u (zF_u (zF_u (zF_zov (zF_u zF_rfl rfl) ws_245_253) rfl) rfl) rfl) hV167 (show (0 : Int32).toInt = 1 from by omega)
                    · skip
                      have g171 := i_ne h161
                      have hV172 : zV (ma_u (zov wr_245 (ma_u m 94 0 (0 : Int32)) m1) 94 0 (0 : Int32)) := uf_94_0 hV_m1
                      have hV173 : zV (ma_u (ma_u (zov wr_245 (ma_u m 94 0 (0 : Int32)) m1) 94 0 (0 : Int32)) 107 v2.toNatClampNeg ((m 107 v2.toNatClampNeg) + (1 : Int32))) := ua_107 hV172
                      have b174 := i_bd (m 107 v2.toNatClampNeg)
                      first | have e175 : ((m 107 v2.toNatClampNeg) + (1 : Int32)).toInt = (m 107 v2.toNatClampNeg).toInt + (1) := i_addk rfl (by omega) (by omega) | have b176 := i_bd ((m 107 v2.toNatClampNeg) + (1 : Int32))
                      exact K (((m 107 v2.toNatClampNeg) + (1 : Int32))) _ (zF_u (zF_u (zF_zov (zF_u zF_rfl rfl) ws_245_253) rfl) rfl) hV173 (show (0 : Int32).toInt = 1 from by omega)
        · skip
          have g177 := i_ne h21
          have b178 := i_bd on
          refine zd (fun (h179 : on = (0 : Int32)) => ?_) (fun (h179 : ¬ on = (0 : Int32)) => ?_)
          · skip
            have g180 := i_eq h179
            have hg181 : (0 ≤ v2 ∧ v2.toNatClampNeg < 3100) := i_ix (by omega) (by omega)
            refine ⟨hg181, ?_⟩
            have b182 := i_bd (m 107 v2.toNatClampNeg)
            refine zd (fun (h183 : (m 107 v2.toNatClampNeg) = (0 : Int32)) => ?_) (fun (h183 : ¬ (m 107 v2.toNatClampNeg) = (0 : Int32)) => ?_)
            · skip
              have g184 := i_eq h183
              have hV185 : zV (ma_u (zov wr_245 (ma_u m 94 0 (0 : Int32)) m1) 94 0 (3 : Int32)) := uf_94_0 hV_m1
              exact K ((0 : Int32)) _ (zF_u (zF_zov (zF_u zF_rfl rfl) ws_245_253) rfl) hV185 (show (3 : Int32).toInt = 1 from by omega)
            · skip
              have g186 := i_ne h183
              have hg187 : (0 ≤ v2 ∧ v2.toNatClampNeg < 3100) := i_ix (by omega) (by omega)
              refine ⟨hg187, ?_⟩
              refine zd (fun (h188 : on = (0 : Int32)) => ?_) (fun (h188 : ¬ on = (0 : Int32)) => ?_)
              · skip
                have g189 := i_eq h188
                have hg190 : (0 ≤ v2 ∧ v2.toNatClampNeg < 3100) := i_ix (by omega) (by omega)
                refine ⟨hg190, ?_⟩
                refine zd (fun (h191 : on = (0 : Int32)) => ?_) (fun (h191 : ¬ on = (0 : Int32)) => ?_)
                · skip
                  have g192 := i_eq h191
                  have hV193 : zV (ma_u (zov wr_245 (ma_u m 94 0 (0 : Int32)) m1) 94 0 (0 : Int32)) := uf_94_0 hV_m1
                  have hV194 : zV (ma_u (ma_u (zov wr_245 (ma_u m 94 0 (0 : Int32)) m1) 94 0 (0 : Int32)) 107 v2.toNatClampNeg ((m 107 v2.toNatClampNeg) + (-1 : Int32))) := ua_107 hV193
                  refine sp_241 (v2) hV194 (by omega) (show zW (m 94 7) (m 98) (m 101) (m 102) (m 108) from by first | (exfalso; omega; done) | (exfalso; contradiction; done)) (show zGW T (m 94 55) (m 109) from by first | (exfalso; omega; done) | (exfalso; contradiction; done)) (show zGU T (m 94 46) (m 99) from by first | (exfalso; omega; done) | (exfalso; contradiction; done)) (show zOw (m 99) (m 103) (m 111) from by first | (exfalso; omega; done) | (exfalso; contradiction; done)) (show zDX (m 94 10) (m 99) (m 112) (m 113) (m 114) (m 94 55) (m 98) (m 101) (m 102) (m 108) from by first | (exfalso; omega; done) | (exfalso; contradiction; done)) (fun m7 hV_m7 p0_m7 p1_m7 p2_m7 p3_m7 p4_m7 => zmv_n ?_)
                  have p0_m7 : zGW T (m7 94 55) (m7 109) := p0_m7
                  have p1_m7 : zGU T (m 94 46) (m7 99) := p1_m7
                  have p2_m7 : zOw (m7 99) (m 103) (m7 111) := p2_m7
                  have p3_m7 : zDX (m 94 10) (m7 99) (m 112) (m7 113) (m7 114) (m7 94 55) (m 98) (m 101) (m 102) (m 108) := p3_m7
                  have p4_m7 : (m 94 10).toInt ≠ 4 → ((m7 99) = (m 99) ∧ (m7 111) = (m 111) ∧ (m7 113) = (m 113) ∧ (m7 114) = (m 114) ∧ (m7 94 55) = (m 94 55) ∧ (m7 109) = (m 109)) := p4_m7
                  first | have e195 : ((m 107 v2.toNatClampNeg) + (-1 : Int32)).toInt = (m 107 v2.toNatClampNeg).toInt + (-1) := i_addk rfl (by omega) (by omega) | have b196 := i_bd ((m 107 v2.toNatClampNeg) + (-1 : Int32))
                  exact K (((m 107 v2.toNatClampNeg) + (-1 : Int32))) _ (zF_zov (zF_u (zF_u (zF_zov (zF_u zF_rfl rfl) ws_245_253) rfl) rfl) ws_241_253) hV_m7 (show (0 : Int32).toInt = 1 from by omega)
                · skip
                  have g197 := i_ne h191
                  refine zd (fun (h198 : v2 < (0 : Int32)) => ?_) (fun (h198 : ¬ v2 < (0 : Int32)) => ?_)
                  · skip
                    have g199 := i_lt h198
                    have hV200 : zV (ma_u (zov wr_245 (ma_u m 94 0 (0 : Int32)) m1) 94 0 (0 : Int32)) := uf_94_0 hV_m1
                    have hV201 : zV (ma_u (ma_u (zov wr_245 (ma_u m 94 0 (0 : Int32)) m1) 94 0 (0 : Int32)) 107 v2.toNatClampNeg ((m 107 v2.toNatClampNeg) + (-1 : Int32))) := ua_107 hV200
                    first | have e202 : ((m 107 v2.toNatClampNeg) + (-1 : Int32)).toInt = (m 107 v2.toNatClampNeg).toInt + (-1) := i_addk rfl (by omega) (by omega) | have b203 := i_bd ((m 107 v2.toNatClampNeg) + (-1 : Int32))
                    exact K (((m 107 v2.toNatClampNeg) + (-1 : Int32))) _ (zF_u (zF_u (zF_zov (zF_u zF_rfl rfl) ws_245_253) rfl) rfl) hV201 (show (0 : Int32).toInt = 1 from by omega)
                  · skip
                    have g204 := i_nlt h198
                    have li205 : (4 : Int32).toInt = 4 := rfl
                    refine zd (fun (h206 : (m 94 10) = (4 : Int32)) => ?_) (fun (h206 : ¬ (m 94 10) = (4 : Int32)) => ?_)
                    · skip
                      have g207 := i_eq h206
                      have hg208 : (0 ≤ v2 ∧ v2.toNatClampNeg < 3100) := i_ix (by omega) (by omega)
                      refine ⟨hg208, ?_⟩
                      have hg209 : (0 ≤ v2 ∧ v2.toNatClampNeg < 3100) := i_ix (by omega) (by omega)
                      refine ⟨hg209, ?_⟩
                      have hV210 : zV (ma_u (zov wr_245 (ma_u m 94 0 (0 : Int32)) m1) 94 0 (0 : Int32)) := uf_94_0 hV_m1
                      have hV211 : zV (ma_u (ma_u (zov wr_245 (ma_u m 94 0 (0 : Int32)) m1) 94 0 (0 : Int32)) 107 v2.toNatClampNeg ((m 107 v2.toNatClampNeg) + (-1 : Int32))) := ua_107 hV210
                      have hV212 : zV (ma_u (ma_u (ma_u (zov wr_245 (ma_u m 94 0 (0 : Int32)) m1) 94 0 (0 : Int32)) 107 v2.toNatClampNeg ((m 107 v2.toNatClampNeg) + (-1 : Int32))) 105 v2.toNatClampNeg ((m 105 v2.toNatClampNeg) + (1 : Int32))) := ua_105 hV211
                      first | have e213 : ((m 107 v2.toNatClampNeg) + (-1 : Int32)).toInt = (m 107 v2.toNatClampNeg).toInt + (-1) := i_addk rfl (by omega) (by omega) | have b214 := i_bd ((m 107 v2.toNatClampNeg) + (-1 : Int32))
                      exact K (((m 107 v2.toNatClampNeg) + (-1 : Int32))) _ (zF_u (zF_u (zF_u (zF_zov (zF_u zF_rfl rfl) ws_245_253) rfl) rfl) rfl) hV212 (show (0 : Int32).toInt = 1 from by omega)
                    · skip
                      have g215 := i_ne h206
                      have hV216 : zV (ma_u (zov wr_245 (ma_u m 94 0 (0 : Int32)) m1) 94 0 (0 : Int32)) := uf_94_0 hV_m1
                      have hV217 : zV (ma_u (ma_u (zov wr_245 (ma_u m 94 0 (0 : Int32)) m1) 94 0 (0 : Int32)) 107 v2.toNatClampNeg ((m 107 v2.toNatClampNeg) + (-1 : Int32))) := ua_107 hV216
                      first | have e218 : ((m 107 v2.toNatClampNeg) + (-1 : Int32)).toInt = (m 107 v2.toNatClampNeg).toInt + (-1) := i_addk rfl (by omega) (by omega) | have b219 := i_bd ((m 107 v2.toNatClampNeg) + (-1 : Int32))
                      exact K (((m 107 v2.toNatClampNeg) + (-1 : Int32))) _ (zF_u (zF_u (zF_zov (zF_u zF_rfl rfl) ws_245_253) rfl) rfl) hV217 (show (0 : Int32).toInt = 1 from by omega)
              · skip
                have g220 := i_ne h188
                have hg221 : (0 ≤ v2 ∧ v2.toNatClampNeg < 3100) := i_ix (by omega) (by omega)
                refine ⟨hg221, ?_⟩
                refine zd (fun (h222 : on = (0 : Int32)) => ?_) (fun (h222 : ¬ on = (0 : Int32)) => ?_)
                · skip
                  have g223 := i_eq h222
                  have hV224 : zV (ma_u (zov wr_245 (ma_u m 94 0 (0 : Int32)) m1) 94 0 (0 : Int32)) := uf_94_0 hV_m1
                  have hV225 : zV (ma_u (ma_u (zov wr_245 (ma_u m 94 0 (0 : Int32)) m1) 94 0 (0 : Int32)) 107 v2.toNatClampNeg ((m 107 v2.toNatClampNeg) + (1 : Int32))) := ua_107 hV224
                  refine sp_241 (v2) hV225 (by omega) (show zW (m 94 7) (m 98) (m 101) (m 102) (m 108) from by first | (exfalso; omega; done) | (exfalso; contradiction; done)) (show zGW T (m 94 55) (m 109) from by first | (exfalso; omega; done) | (exfalso; contradiction; done)) (show zGU T (m 94 46) (m 99) from by first | (exfalso; omega; done) | (exfalso; contradiction; done)) (show zOw (m 99) (m 103) (m 111) from by first | (exfalso; omega; done) | (exfalso; contradiction; done)) (show zDX (m 94 10) (m 99) (m 112) (m 113) (m 114) (m 94 55) (m 98) (m 101) (m 102) (m 108) from by first | (exfalso; omega; done) | (exfalso; contradiction; done)) (fun m9 hV_m9 p0_m9 p1_m9 p2_m9 p3_m9 p4_m9 => zmv_n ?_)
                  have p0_m9 : zGW T (m9 94 55) (m9 109) := p0_m9
                  have p1_m9 : zGU T (m 94 46) (m9 99) := p1_m9
                  have p2_m9 : zOw (m9 99) (m 103) (m9 111) := p2_m9
                  have p3_m9 : zDX (m 94 10) (m9 99) (m 112) (m9 113) (m9 114) (m9 94 55) (m 98) (m 101) (m 102) (m 108) := p3_m9
                  have p4_m9 : (m 94 10).toInt ≠ 4 → ((m9 99) = (m 99) ∧ (m9 111) = (m 111) ∧ (m9 113) = (m 113) ∧ (m9 114) = (m 114) ∧ (m9 94 55) = (m 94 55) ∧ (m9 109) = (m 109)) := p4_m9
                  first | have e226 : ((m 107 v2.toNatClampNeg) + (1 : Int32)).toInt = (m 107 v2.toNatClampNeg).toInt + (1) := i_addk rfl (by omega) (by omega) | have b227 := i_bd ((m 107 v2.toNatClampNeg) + (1 : Int32))
                  exact K (((m 107 v2.toNatClampNeg) + (1 : Int32))) _ (zF_zov (zF_u (zF_u (zF_zov (zF_u zF_rfl rfl) ws_245_253) rfl) rfl) ws_241_253) hV_m9 (show (0 : Int32).toInt = 1 from by omega)
                · skip
                  have g228 := i_ne h222
                  refine zd (fun (h229 : v2 < (0 : Int32)) => ?_) (fun (h229 : ¬ v2 < (0 : Int32)) => ?_)
                  · skip
                    have g230 := i_lt h229
                    have hV231 : zV (ma_u (zov wr_245 (ma_u m 94 0 (0 : Int32)) m1) 94 0 (0 : Int32)) := uf_94_0 hV_m1
                    have hV232 : zV (ma_u (ma_u (zov wr_245 (ma_u m 94 0 (0 : Int32)) m1) 94 0 (0 : Int32)) 107 v2.toNatClampNeg ((m 107 v2.toNatClampNeg) + (1 : Int32))) := ua_107 hV231
                    first | have e233 : ((m 107 v2.toNatClampNeg) + (1 : Int32)).toInt = (m 107 v2.toNatClampNeg).toInt + (1) := i_addk rfl (by omega) (by omega) | have b234 := i_bd ((m 107 v2.toNatClampNeg) + (1 : Int32))
                    exact K (((m 107 v2.toNatClampNeg) + (1 : Int32))) _ (zF_u (zF_u (zF_zov (zF_u zF_rfl rfl) ws_245_253) rfl) rfl) hV232 (show (0 : Int32).toInt = 1 from by omega)
                  · skip
                    have g235 := i_nlt h229
                    have li236 : (4 : Int32).toInt = 4 := rfl
                    refine zd (fun (h237 : (m 94 10) = (4 : Int32)) => ?_) (fun (h237 : ¬ (m 94 10) = (4 : Int32)) => ?_)
                    · skip
                      have g238 := i_eq h237
                      have hg239 : (0 ≤ v2 ∧ v2.toNatClampNeg < 3100) := i_ix (by omega) (by omega)
                      refine ⟨hg239, ?_⟩
                      have hg240 : (0 ≤ v2 ∧ v2.toNatClampNeg < 3100) := i_ix (by omega) (by omega)
                      refine ⟨hg240, ?_⟩
                      have hV241 : zV (ma_u (zov wr_245 (ma_u m 94 0 (0 : Int32)) m1) 94 0 (0 : Int32)) := uf_94_0 hV_m1
                      have hV242 : zV (ma_u (ma_u (zov wr_245 (ma_u m 94 0 (0 : Int32)) m1) 94 0 (0 : Int32)) 107 v2.toNatClampNeg ((m 107 v2.toNatClampNeg) + (1 : Int32))) := ua_107 hV241
                      have hV243 : zV (ma_u (ma_u (ma_u (zov wr_245 (ma_u m 94 0 (0 : Int32)) m1) 94 0 (0 : Int32)) 107 v2.toNatClampNeg ((m 107 v2.toNatClampNeg) + (1 : Int32))) 105 v2.toNatClampNeg ((m 105 v2.toNatClampNeg) + (1 : Int32))) := ua_105 hV242
                      first | have e244 : ((m 107 v2.toNatClampNeg) + (1 : Int32)).toInt = (m 107 v2.toNatClampNeg).toInt + (1) := i_addk rfl (by omega) (by omega) | have b245 := i_bd ((m 107 v2.toNatClampNeg) + (1 : Int32))
                      exact K (((m 107 v2.toNatClampNeg) + (1 : Int32))) _ (zF_u (zF_u (zF_u (zF_zov (zF_u zF_rfl rfl) ws_245_253) rfl) rfl) rfl) hV243 (show (0 : Int32).toInt = 1 from by omega)
                    · skip
                      have g246 := i_ne h237
                      have hV247 : zV (ma_u (zov wr_245 (ma_u m 94 0 (0 : Int32)) m1) 94 0 (0 : Int32)) := uf_94_0 hV_m1
                      have hV248 : zV (ma_u (ma_u (zov wr_245 (ma_u m 94 0 (0 : Int32)) m1) 94 0 (0 : Int32)) 107 v2.toNatClampNeg ((m 107 v2.toNatClampNeg) + (1 : Int32))) := ua_107 hV247
                      first | have e249 : ((m 107 v2.toNatClampNeg) + (1 : Int32)).toInt = (m 107 v2.toNatClampNeg).toInt + (1) := i_addk rfl (by omega) (by omega) | have b250 := i_bd ((m 107 v2.toNatClampNeg) + (1 : Int32))
                      exact K (((m 107 v2.toNatClampNeg) + (1 : Int32))) _ (zF_u (zF_u (zF_zov (zF_u zF_rfl rfl) ws_245_253) rfl) rfl) hV248 (show (0 : Int32).toInt = 1 from by omega)
          · skip
            have g251 := i_ne h179
            have hg252 : (0 ≤ v2 ∧ v2.toNatClampNeg < 3100) := i_ix (by omega) (by omega)
            refine ⟨hg252, ?_⟩
            refine zd (fun (h253 : on = (0 : Int32)) => ?_) (fun (h253 : ¬ on = (0 : Int32)) => ?_)
            · skip
              have g254 := i_eq h253
              have hg255 : (0 ≤ v2 ∧ v2.toNatClampNeg < 3100) := i_ix (by omega) (by omega)
              refine ⟨hg255, ?_⟩
              refine zd (fun (h256 : on = (0 : Int32)) => ?_) (fun (h256 : ¬ on = (0 : Int32)) => ?_)
              · skip
                have g257 := i_eq h256
                have hV258 : zV (ma_u (zov wr_245 (ma_u m 94 0 (0 : Int32)) m1) 94 0 (0 : Int32)) := uf_94_0 hV_m1
                have hV259 : zV (ma_u (ma_u (zov wr_245 (ma_u m 94 0 (0 : Int32)) m1) 94 0 (0 : Int32)) 107 v2.toNatClampNeg ((m 107 v2.toNatClampNeg) + (-1 : Int32))) := ua_107 hV258
                refine sp_241 (v2) hV259 (by omega) (show zW (m 94 7) (m 98) (m 101) (m 102) (m 108) from by first | (exfalso; omega; done) | (exfalso; contradiction; done)) (show zGW T (m 94 55) (m 109) from by first | (exfalso; omega; done) | (exfalso; contradiction; done)) (show zGU T (m 94 46) (m 99) from by first | (exfalso; omega; done) | (exfalso; contradiction; done)) (show zOw (m 99) (m 103) (m 111) from by first | (exfalso; omega; done) | (exfalso; contradiction; done)) (show zDX (m 94 10) (m 99) (m 112) (m 113) (m 114) (m 94 55) (m 98) (m 101) (m 102) (m 108) from by first | (exfalso; omega; done) | (exfalso; contradiction; done)) (fun m3 hV_m3 p0_m3 p1_m3 p2_m3 p3_m3 p4_m3 => zmv_n ?_)
                have p0_m3 : zGW T (m3 94 55) (m3 109) := p0_m3
                have p1_m3 : zGU T (m 94 46) (m3 99) := p1_m3
                have p2_m3 : zOw (m3 99) (m 103) (m3 111) := p2_m3
                have p3_m3 : zDX (m 94 10) (m3 99) (m 112) (m3 113) (m3 114) (m3 94 55) (m 98) (m 101) (m 102) (m 108) := p3_m3
                have p4_m3 : (m 94 10).toInt ≠ 4 → ((m3 99) = (m 99) ∧ (m3 111) = (m 111) ∧ (m3 113) = (m 113) ∧ (m3 114) = (m 114) ∧ (m3 94 55) = (m 94 55) ∧ (m3 109) = (m 109)) := p4_m3
                have b260 := i_bd (m 107 v2.toNatClampNeg)
                first | have e261 : ((m 107 v2.toNatClampNeg) + (-1 : Int32)).toInt = (m 107 v2.toNatClampNeg).toInt + (-1) := i_addk rfl (by omega) (by omega) | have b262 := i_bd ((m 107 v2.toNatClampNeg) + (-1 : Int32))
                exact K (((m 107 v2.toNatClampNeg) + (-1 : Int32))) _ (zF_zov (zF_u (zF_u (zF_zov (zF_u zF_rfl rfl) ws_245_253) rfl) rfl) ws_241_253) hV_m3 (show (0 : Int32).toInt = 1 from by omega)
              · skip
                have g263 := i_ne h256
                refine zd (fun (h264 : v2 < (0 : Int32)) => ?_) (fun (h264 : ¬ v2 < (0 : Int32)) => ?_)
                · skip
                  have g265 := i_lt h264
                  have hV266 : zV (ma_u (zov wr_245 (ma_u m 94 0 (0 : Int32)) m1) 94 0 (0 : Int32)) := uf_94_0 hV_m1
                  have hV267 : zV (ma_u (ma_u (zov wr_245 (ma_u m 94 0 (0 : Int32)) m1) 94 0 (0 : Int32)) 107 v2.toNatClampNeg ((m 107 v2.toNatClampNeg) + (-1 : Int32))) := ua_107 hV266
                  have b268 := i_bd (m 107 v2.toNatClampNeg)
                  first | have e269 : ((m 107 v2.toNatClampNeg) + (-1 : Int32)).toInt = (m 107 v2.toNatClampNeg).toInt + (-1) := i_addk rfl (by omega) (by omega) | have b270 := i_bd ((m 107 v2.toNatClampNeg) + (-1 : Int32))
                  exact K (((m 107 v2.toNatClampNeg) + (-1 : Int32))) _ (zF_u (zF_u (zF_zov (zF_u zF_rfl rfl) ws_245_253) rfl) rfl) hV267 (show (0 : Int32).toInt = 1 from by omega)
                · skip
                  have g271 := i_nlt h264
                  have li272 : (4 : Int32).toInt = 4 := rfl
                  refine zd (fun (h273 : (m 94 10) = (4 : Int32)) => ?_) (fun (h273 : ¬ (m 94 10) = (4 : Int32)) => ?_)
                  · skip
                    have g274 := i_eq h273
                    have hg275 : (0 ≤ v2 ∧ v2.toNatClampNeg < 3100) := i_ix (by omega) (by omega)
                    refine ⟨hg275, ?_⟩
                    have hg276 : (0 ≤ v2 ∧ v2.toNatClampNeg < 3100) := i_ix (by omega) (by omega)
                    refine ⟨hg276, ?_⟩
                    have hV277 : zV (ma_u (zov wr_245 (ma_u m 94 0 (0 : Int32)) m1) 94 0 (0 : Int32)) := uf_94_0 hV_m1
                    have hV278 : zV (ma_u (ma_u (zov wr_245 (ma_u m 94 0 (0 : Int32)) m1) 94 0 (0 : Int32)) 107 v2.toNatClampNeg ((m 107 v2.toNatClampNeg) + (-1 : Int32))) := ua_107 hV277
                    have hV279 : zV (ma_u (ma_u (ma_u (zov wr_245 (ma_u m 94 0 (0 : Int32)) m1) 94 0 (0 : Int32)) 107 v2.toNatClampNeg ((m 107 v2.toNatClampNeg) + (-1 : Int32))) 105 v2.toNatClampNeg ((m 105 v2.toNatClampNeg) + (1 : Int32))) := ua_105 hV278
                    have b280 := i_bd (m 107 v2.toNatClampNeg)
                    first | have e281 : ((m 107 v2.toNatClampNeg) + (-1 : Int32)).toInt = (m 107 v2.toNatClampNeg).toInt + (-1) := i_addk rfl (by omega) (by omega) | have b282 := i_bd ((m 107 v2.toNatClampNeg) + (-1 : Int32))
                    exact K (((m 107 v2.toNatClampNeg) + (-1 : Int32))) _ (zF_u (zF_u (zF_u (zF_zov (zF_u zF_rfl rfl) ws_245_253) rfl) rfl) rfl) hV279 (show (0 : Int32).toInt = 1 from by omega)
                  · skip
                    have g283 := i_ne h273
                    have hV284 : zV (ma_u (zov wr_245 (ma_u m 94 0 (0 : Int32)) m1) 94 0 (0 : Int32)) := uf_94_0 hV_m1
                    have hV285 : zV (ma_u (ma_u (zov wr_245 (ma_u m 94 0 (0 : Int32)) m1) 94 0 (0 : Int32)) 107 v2.toNatClampNeg ((m 107 v2.toNatClampNeg) + (-1 : Int32))) := ua_107 hV284
                    have b286 := i_bd (m 107 v2.toNatClampNeg)
                    first | have e287 : ((m 107 v2.toNatClampNeg) + (-1 : Int32)).toInt = (m 107 v2.toNatClampNeg).toInt + (-1) := i_addk rfl (by omega) (by omega) | have b288 := i_bd ((m 107 v2.toNatClampNeg) + (-1 : Int32))
                    exact K (((m 107 v2.toNatClampNeg) + (-1 : Int32))) _ (zF_u (zF_u (zF_zov (zF_u zF_rfl rfl) ws_245_253) rfl) rfl) hV285 (show (0 : Int32).toInt = 1 from by omega)
            · skip
              have g289 := i_ne h253
              have hg290 : (0 ≤ v2 ∧ v2.toNatClampNeg < 3100) := i_ix (by omega) (by omega)
              refine ⟨hg290, ?_⟩
              refine zd (fun (h291 : on = (0 : Int32)) => ?_) (fun (h291 : ¬ on = (0 : Int32)) => ?_)
              · skip
                have g292 := i_eq h291
                have hV293 : zV (ma_u (zov wr_245 (ma_u m 94 0 (0 : Int32)) m1) 94 0 (0 : Int32)) := uf_94_0 hV_m1
                have hV294 : zV (ma_u (ma_u (zov wr_245 (ma_u m 94 0 (0 : Int32)) m1) 94 0 (0 : Int32)) 107 v2.toNatClampNeg ((m 107 v2.toNatClampNeg) + (1 : Int32))) := ua_107 hV293
                refine sp_241 (v2) hV294 (by omega) (show zW (m 94 7) (m 98) (m 101) (m 102) (m 108) from by first | (exfalso; omega; done) | (exfalso; contradiction; done)) (show zGW T (m 94 55) (m 109) from by first | (exfalso; omega; done) | (exfalso; contradiction; done)) (show zGU T (m 94 46) (m 99) from by first | (exfalso; omega; done) | (exfalso; contradiction; done)) (show zOw (m 99) (m 103) (m 111) from by first | (exfalso; omega; done) | (exfalso; contradiction; done)) (show zDX (m 94 10) (m 99) (m 112) (m 113) (m 114) (m 94 55) (m 98) (m 101) (m 102) (m 108) from by first | (exfalso; omega; done) | (exfalso; contradiction; done)) (fun m5 hV_m5 p0_m5 p1_m5 p2_m5 p3_m5 p4_m5 => zmv_n ?_)
                have p0_m5 : zGW T (m5 94 55) (m5 109) := p0_m5
                have p1_m5 : zGU T (m 94 46) (m5 99) := p1_m5
                have p2_m5 : zOw (m5 99) (m 103) (m5 111) := p2_m5
                have p3_m5 : zDX (m 94 10) (m5 99) (m 112) (m5 113) (m5 114) (m5 94 55) (m 98) (m 101) (m 102) (m 108) := p3_m5
                have p4_m5 : (m 94 10).toInt ≠ 4 → ((m5 99) = (m 99) ∧ (m5 111) = (m 111) ∧ (m5 113) = (m 113) ∧ (m5 114) = (m 114) ∧ (m5 94 55) = (m 94 55) ∧ (m5 109) = (m 109)) := p4_m5
                have b295 := i_bd (m 107 v2.toNatClampNeg)
                first | have e296 : ((m 107 v2.toNatClampNeg) + (1 : Int32)).toInt = (m 107 v2.toNatClampNeg).toInt + (1) := i_addk rfl (by omega) (by omega) | have b297 := i_bd ((m 107 v2.toNatClampNeg) + (1 : Int32))
                exact K (((m 107 v2.toNatClampNeg) + (1 : Int32))) _ (zF_zov (zF_u (zF_u (zF_zov (zF_u zF_rfl rfl) ws_245_253) rfl) rfl) ws_241_253) hV_m5 (show (0 : Int32).toInt = 1 from by omega)
              · skip
                have g298 := i_ne h291
                refine zd (fun (h299 : v2 < (0 : Int32)) => ?_) (fun (h299 : ¬ v2 < (0 : Int32)) => ?_)
                · skip
                  have g300 := i_lt h299
                  have hV301 : zV (ma_u (zov wr_245 (ma_u m 94 0 (0 : Int32)) m1) 94 0 (0 : Int32)) := uf_94_0 hV_m1
                  have hV302 : zV (ma_u (ma_u (zov wr_245 (ma_u m 94 0 (0 : Int32)) m1) 94 0 (0 : Int32)) 107 v2.toNatClampNeg ((m 107 v2.toNatClampNeg) + (1 : Int32))) := ua_107 hV301
                  have b303 := i_bd (m 107 v2.toNatClampNeg)
                  first | have e304 : ((m 107 v2.toNatClampNeg) + (1 : Int32)).toInt = (m 107 v2.toNatClampNeg).toInt + (1) := i_addk rfl (by omega) (by omega) | have b305 := i_bd ((m 107 v2.toNatClampNeg) + (1 : Int32))
                  exact K (((m 107 v2.toNatClampNeg) + (1 : Int32))) _ (zF_u (zF_u (zF_zov (zF_u zF_rfl rfl) ws_245_253) rfl) rfl) hV302 (show (0 : Int32).toInt = 1 from by omega)
                · skip
                  have g306 := i_nlt h299
                  have li307 : (4 : Int32).toInt = 4 := rfl
                  refine zd (fun (h308 : (m 94 10) = (4 : Int32)) => ?_) (fun (h308 : ¬ (m 94 10) = (4 : Int32)) => ?_)
                  · skip
                    have g309 := i_eq h308
                    have hg310 : (0 ≤ v2 ∧ v2.toNatClampNeg < 3100) := i_ix (by omega) (by omega)
                    refine ⟨hg310, ?_⟩
                    have hg311 : (0 ≤ v2 ∧ v2.toNatClampNeg < 3100) := i_ix (by omega) (by omega)
                    refine ⟨hg311, ?_⟩
                    have hV312 : zV (ma_u (zov wr_245 (ma_u m 94 0 (0 : Int32)) m1) 94 0 (0 : Int32)) := uf_94_0 hV_m1
                    have hV313 : zV (ma_u (ma_u (zov wr_245 (ma_u m 94 0 (0 : Int32)) m1) 94 0 (0 : Int32)) 107 v2.toNatClampNeg ((m 107 v2.toNatClampNeg) + (1 : Int32))) := ua_107 hV312
                    have hV314 : zV (ma_u (ma_u (ma_u (zov wr_245 (ma_u m 94 0 (0 : Int32)) m1) 94 0 (0 : Int32)) 107 v2.toNatClampNeg ((m 107 v2.toNatClampNeg) + (1 : Int32))) 105 v2.toNatClampNeg ((m 105 v2.toNatClampNeg) + (1 : Int32))) := ua_105 hV313
                    have b315 := i_bd (m 107 v2.toNatClampNeg)
                    first | have e316 : ((m 107 v2.toNatClampNeg) + (1 : Int32)).toInt = (m 107 v2.toNatClampNeg).toInt + (1) := i_addk rfl (by omega) (by omega) | have b317 := i_bd ((m 107 v2.toNatClampNeg) + (1 : Int32))
                    exact K (((m 107 v2.toNatClampNeg) + (1 : Int32))) _ (zF_u (zF_u (zF_u (zF_zov (zF_u zF_rfl rfl) ws_245_253) rfl) rfl) rfl) hV314 (show (0 : Int32).toInt = 1 from by omega)
                  · skip
                    have g318 := i_ne h308
                    have hV319 : zV (ma_u (zov wr_245 (ma_u m 94 0 (0 : Int32)) m1) 94 0 (0 : Int32)) := uf_94_0 hV_m1
                    have hV320 : zV (ma_u (ma_u (zov wr_245 (ma_u m 94 0 (0 : Int32)) m1) 94 0 (0 : Int32)) 107 v2.toNatClampNeg ((m 107 v2.toNatClampNeg) + (1 : Int32))) := ua_107 hV319
                    have b321 := i_bd (m 107 v2.toNatClampNeg)
                    first | have e322 : ((m 107 v2.toNatClampNeg) + (1 : Int32)).toInt = (m 107 v2.toNatClampNeg).toInt + (1) := i_addk rfl (by omega) (by omega) | have b323 := i_bd ((m 107 v2.toNatClampNeg) + (1 : Int32))
                    exact K (((m 107 v2.toNatClampNeg) + (1 : Int32))) _ (zF_u (zF_u (zF_zov (zF_u zF_rfl rfl) ws_245_253) rfl) rfl) hV320 (show (0 : Int32).toInt = 1 from by omega)
    · skip
      have g324 := i_nle h11
      have hV325 : zV (ma_u (zov wr_245 (ma_u m 94 0 (0 : Int32)) m1) 94 0 (2 : Int32)) := uf_94_0 hV_m1
      have li326 : (2 : Int32).toInt = 2 := rfl
      exact K ((0 : Int32)) _ (zF_u (zF_zov (zF_u zF_rfl rfl) ws_245_253) rfl) hV325 (show (2 : Int32).toInt = 1 from by omega)

