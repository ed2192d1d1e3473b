/-! the heap by numbers, the class (written by wip/tools/gen18.py) -/
theorem g_130_64_s_0 {X : Nat × (Nat → Int32)} {d w : Nat} {S : ma_S} {Q : Option ma_V ⊕ Nat → ma_S → Prop}  (hd : 6 ≤ d) (hw : 122 ≤ w) (hS : zT S) (h : ma_wp X (d - 1) (w - 22) 131 0 [(0, .inr (.inr (some 64))), (1, .inr (.inr (some 0)))] [] S (zi (fun v2 S1 => zT S1 ∧ (if v2 = 0 then (ma_wp X (d - 1) (w - 22) 131 0 [(0, .inr (.inr (some 64))), (1, .inr (.inr (some 1)))] [] S1 (zi (fun v4 S3 => zT S3 ∧ (if v4 = 0 then (ma_wp X (d - 1) (w - 22) 131 0 [(0, .inr (.inr (some 64))), (1, .inr (.inr (some 2)))] [] S3 (zi (fun v6 S5 => zT S5 ∧ (if v6 = 0 then (ma_wp X (d - 1) (w - 22) 131 0 [(0, .inr (.inr (some 64))), (1, .inr (.inr (some 3)))] [] S5 (zi (fun v8 S7 => zT S7 ∧ (if v8 = 0 then (ma_wp X (d - 1) (w - 22) 131 0 [(0, .inr (.inr (some 64))), (1, .inr (.inr (some 4)))] [] S7 (zi (fun v10 S9 => zT S9 ∧ (if v10 = 0 then (ma_wp X (d - 1) (w - 22) 131 0 [(0, .inr (.inr (some 64))), (1, .inr (.inr (some 5)))] [] S9 (zi (fun v12 S11 => zT S11 ∧ (if v12 = 0 then (ma_wp X (d - 1) (w - 22) 131 0 [(0, .inr (.inr (some 64))), (1, .inr (.inr (some 6)))] [] S11 (zi (fun v14 S13 => zT S13 ∧ (if v14 = 0 then (Q (.inl (some (.inl (-1 : Int32)))) S13) else (Q (.inl (some (.inl (6 : Int32)))) S13))) (fun x S9 => Q (.inr x) S9))) else (Q (.inl (some (.inl (5 : Int32)))) S11))) (fun x S9 => Q (.inr x) S9))) else (Q (.inl (some (.inl (4 : Int32)))) S9))) (fun x S9 => Q (.inr x) S9))) else (Q (.inl (some (.inl (3 : Int32)))) S7))) (fun x S9 => Q (.inr x) S9))) else (Q (.inl (some (.inl (2 : Int32)))) S5))) (fun x S9 => Q (.inr x) S9))) else (Q (.inl (some (.inl (1 : Int32)))) S3))) (fun x S9 => Q (.inr x) S9))) else (Q (.inl (some (.inl (0 : Int32)))) S1))) (fun x S9 => Q (.inr x) S9))) : ma_wp X d w 130 0 [(0, .inr (.inr (some 64)))] [] S Q := by
  refine zw_push hm_130 dX11_policyToken_0 (v := .inr (.inr (some 64))) rfl ?_
  refine zw_txc hm_130 dX11_policyToken_1 txi_11_301 ?_
  refine zw_cv hm_130 dX11_policyToken_4 v_11_303_11 hm_131 [.inr (.inr (some 0))] [] rfl (zT_rt hS s_64 rfl) ⟨by omega, by omega⟩ rfl (zw_mono h (zi_go ?_ ?_))
  · intro v2 S1 hv
    obtain ⟨hS1, h⟩ := hv
    refine zw_if0 hm_130 dX11_policyToken_7 (t := 12) rfl zc0_eq ?_ ?_
    · intro hc
      rw [if_pos hc] at h
      refine zw_push hm_130 dX11_policyToken_12 (v := .inr (.inr (some 64))) rfl ?_
      refine zw_txc hm_130 dX11_policyToken_13 txi_11_307 ?_
      refine zw_cv hm_130 dX11_policyToken_16 v_11_303_11 hm_131 [.inr (.inr (some 1))] [] rfl (zT_rt hS1 s_64 rfl) ⟨by omega, by omega⟩ rfl (zw_mono h (zi_go ?_ ?_))
      · intro v4 S3 hv
        obtain ⟨hS3, h⟩ := hv
        refine zw_if0 hm_130 dX11_policyToken_19 (t := 24) rfl zc0_eq ?_ ?_
        · intro hc
          rw [if_pos hc] at h
          refine zw_push hm_130 dX11_policyToken_24 (v := .inr (.inr (some 64))) rfl ?_
          refine zw_txc hm_130 dX11_policyToken_25 txi_11_309 ?_
          refine zw_cv hm_130 dX11_policyToken_28 v_11_303_11 hm_131 [.inr (.inr (some 2))] [] rfl (zT_rt hS3 s_64 rfl) ⟨by omega, by omega⟩ rfl (zw_mono h (zi_go ?_ ?_))
          · intro v6 S5 hv
            obtain ⟨hS5, h⟩ := hv
            refine zw_if0 hm_130 dX11_policyToken_31 (t := 36) rfl zc0_eq ?_ ?_
            · intro hc
              rw [if_pos hc] at h
              refine zw_push hm_130 dX11_policyToken_36 (v := .inr (.inr (some 64))) rfl ?_
              refine zw_txc hm_130 dX11_policyToken_37 txi_11_311 ?_
              refine zw_cv hm_130 dX11_policyToken_40 v_11_303_11 hm_131 [.inr (.inr (some 3))] [] rfl (zT_rt hS5 s_64 rfl) ⟨by omega, by omega⟩ rfl (zw_mono h (zi_go ?_ ?_))
              · intro v8 S7 hv
                obtain ⟨hS7, h⟩ := hv
                refine zw_if0 hm_130 dX11_policyToken_43 (t := 48) rfl zc0_eq ?_ ?_
                · intro hc
                  rw [if_pos hc] at h
                  refine zw_push hm_130 dX11_policyToken_48 (v := .inr (.inr (some 64))) rfl ?_
                  refine zw_txc hm_130 dX11_policyToken_49 txi_11_313 ?_
                  refine zw_cv hm_130 dX11_policyToken_52 v_11_303_11 hm_131 [.inr (.inr (some 4))] [] rfl (zT_rt hS7 s_64 rfl) ⟨by omega, by omega⟩ rfl (zw_mono h (zi_go ?_ ?_))
                  · intro v10 S9 hv
                    obtain ⟨hS9, h⟩ := hv
                    refine zw_if0 hm_130 dX11_policyToken_55 (t := 60) rfl zc0_eq ?_ ?_
                    · intro hc
                      rw [if_pos hc] at h
                      refine zw_push hm_130 dX11_policyToken_60 (v := .inr (.inr (some 64))) rfl ?_
                      refine zw_txc hm_130 dX11_policyToken_61 txi_11_315 ?_
                      refine zw_cv hm_130 dX11_policyToken_64 v_11_303_11 hm_131 [.inr (.inr (some 5))] [] rfl (zT_rt hS9 s_64 rfl) ⟨by omega, by omega⟩ rfl (zw_mono h (zi_go ?_ ?_))
                      · intro v12 S11 hv
                        obtain ⟨hS11, h⟩ := hv
                        refine zw_if0 hm_130 dX11_policyToken_67 (t := 72) rfl zc0_eq ?_ ?_
                        · intro hc
                          rw [if_pos hc] at h
                          refine zw_push hm_130 dX11_policyToken_72 (v := .inr (.inr (some 64))) rfl ?_
                          refine zw_txc hm_130 dX11_policyToken_73 txi_11_317 ?_
                          refine zw_cv hm_130 dX11_policyToken_76 v_11_303_11 hm_131 [.inr (.inr (some 6))] [] rfl (zT_rt hS11 s_64 rfl) ⟨by omega, by omega⟩ rfl (zw_mono h (zi_go ?_ ?_))
                          · intro v14 S13 hv
                            obtain ⟨hS13, h⟩ := hv
                            refine zw_if0 hm_130 dX11_policyToken_79 (t := 87) rfl zc0_eq ?_ ?_
                            · intro hc
                              rw [if_pos hc] at h
                              refine zw_push hm_130 dX11_policyToken_87 (v := .inl (-1 : Int32)) rfl ?_
                              exact zw_iret hm_130 dX11_policyToken_88 h
                            · intro hc
                              rw [if_neg hc] at h
                              refine zw_push hm_130 dX11_policyToken_82 (v := .inl (6 : Int32)) rfl ?_
                              refine zw_goto hm_130 dX11_policyToken_84 (t := 88) rfl ?_
                              exact zw_iret hm_130 dX11_policyToken_88 h
                          · intro x S9 hx
                            exact ⟨by decide, hx⟩
                        · intro hc
                          rw [if_neg hc] at h
                          refine zw_push hm_130 dX11_policyToken_70 (v := .inl (5 : Int32)) rfl ?_
                          exact zw_iret hm_130 dX11_policyToken_71 h
                      · intro x S9 hx
                        exact ⟨by decide, hx⟩
                    · intro hc
                      rw [if_neg hc] at h
                      refine zw_push hm_130 dX11_policyToken_58 (v := .inl (4 : Int32)) rfl ?_
                      exact zw_iret hm_130 dX11_policyToken_59 h
                  · intro x S9 hx
                    exact ⟨by decide, hx⟩
                · intro hc
                  rw [if_neg hc] at h
                  refine zw_push hm_130 dX11_policyToken_46 (v := .inl (3 : Int32)) rfl ?_
                  exact zw_iret hm_130 dX11_policyToken_47 h
              · intro x S9 hx
                exact ⟨by decide, hx⟩
            · intro hc
              rw [if_neg hc] at h
              refine zw_push hm_130 dX11_policyToken_34 (v := .inl (2 : Int32)) rfl ?_
              exact zw_iret hm_130 dX11_policyToken_35 h
          · intro x S9 hx
            exact ⟨by decide, hx⟩
        · intro hc
          rw [if_neg hc] at h
          refine zw_push hm_130 dX11_policyToken_22 (v := .inl (1 : Int32)) rfl ?_
          exact zw_iret hm_130 dX11_policyToken_23 h
      · intro x S9 hx
        exact ⟨by decide, hx⟩
    · intro hc
      rw [if_neg hc] at h
      refine zw_push hm_130 dX11_policyToken_10 (v := .inl (0 : Int32)) rfl ?_
      exact zw_iret hm_130 dX11_policyToken_11 h
  · intro x S9 hx
    exact ⟨by decide, hx⟩
theorem sp_130_64_s {X : Nat × (Nat → Int32)} {d w : Nat} {f : Nat → Nat → Int32} {r : Nat → Nat → Option Nat} {C Z N : Nat} {Q : Option ma_V ⊕ Nat → ma_S → Prop} {R : zRT} {a8 : Nat→Nat→Int32} {S : ma_S}  (hd : 6 ≤ d) (hw : 122 ≤ w) (hI : zY0 f r C Z N S) (hpre0 : xB S R) (hpre1 : aS 88 S = a8) (K : ∀ v S', zY0 f r C Z N S' → (-1 ≤ v.toInt ∧ v.toInt ≤ 6) → (v.toInt = zPol (f 65) (f 64 2) ((f 64 3).toInt - (f 64 2).toInt)) → (xB S' R) → (aS 88 S' = a8) → Q (.inl (some (.inl v))) S') : ma_wp X d w 130 0 [(0, .inr (.inr (some 64)))] [] S Q := by
  refine g_130_64_s_0  (by omega) (by omega) (zG_T hI) ?_
  refine sp_131_64_0_s (R := R) (a8 := a8) (by omega) (by omega) hI (show xB S R from by first | (exact (xC_o (W := 75) hpre0).2)) (show aS 88 S = a8 from by first | (exact (xC_o (W := 88) hpre0).1.trans hpre1)) (fun v2 S1 hI_S1 hp_v2 rp0_S1 rp1_S1 rp2_S1 => zi_n ⟨zG_T hI_S1, ?_⟩)
  have rp0_S1 : (v2 = 1 ∧ zwd (f 65) (f 64 2) ((f 64 3).toInt - (f 64 2).toInt) 115 119 101 101 112 0 0) ∨ (v2 = 0 ∧ ¬ zwd (f 65) (f 64 2) ((f 64 3).toInt - (f 64 2).toInt) 115 119 101 101 112 0 0) := rp0_S1
  have rp1_S1 : xB S1 R := rp1_S1
  have rp2_S1 : aS 88 S1 = a8 := rp2_S1
  have b1 := i_bd v2
  have li2 : (0 : Int32).toInt = 0 := rfl
  refine zd (fun h3 => ?_) (fun h3 => ?_)
  · skip
    have g4 := i_eq h3
    refine sp_131_64_1_s (R := R) (a8 := a8) (by omega) (by omega) hI_S1 (show xB S1 R from by first | (exact (xC_o (W := 75) rp1_S1).2)) (show aS 88 S1 = a8 from by first | (exact (xC_o (W := 88) rp1_S1).1.trans rp2_S1)) (fun v4 S3 hI_S3 hp_v4 rp0_S3 rp1_S3 rp2_S3 => zi_n ⟨zG_T hI_S3, ?_⟩)
    have rp0_S3 : (v4 = 1 ∧ zwd (f 65) (f 64 2) ((f 64 3).toInt - (f 64 2).toInt) 115 108 105 100 101 0 0) ∨ (v4 = 0 ∧ ¬ zwd (f 65) (f 64 2) ((f 64 3).toInt - (f 64 2).toInt) 115 108 105 100 101 0 0) := rp0_S3
    have rp1_S3 : xB S3 R := rp1_S3
    have rp2_S3 : aS 88 S3 = a8 := rp2_S3
    have b5 := i_bd v4
    refine zd (fun h6 => ?_) (fun h6 => ?_)
    · skip
      have g7 := i_eq h6
      refine sp_131_64_2_s (R := R) (a8 := a8) (by omega) (by omega) hI_S3 (show xB S3 R from by first | (exact (xC_o (W := 75) rp1_S3).2)) (show aS 88 S3 = a8 from by first | (exact (xC_o (W := 88) rp1_S3).1.trans rp2_S3)) (fun v6 S5 hI_S5 hp_v6 rp0_S5 rp1_S5 rp2_S5 => zi_n ⟨zG_T hI_S5, ?_⟩)
      have rp0_S5 : (v6 = 1 ∧ zwd (f 65) (f 64 2) ((f 64 3).toInt - (f 64 2).toInt) 104 97 108 118 101 115 0) ∨ (v6 = 0 ∧ ¬ zwd (f 65) (f 64 2) ((f 64 3).toInt - (f 64 2).toInt) 104 97 108 118 101 115 0) := rp0_S5
      have rp1_S5 : xB S5 R := rp1_S5
      have rp2_S5 : aS 88 S5 = a8 := rp2_S5
      have b8 := i_bd v6
      refine zd (fun h9 => ?_) (fun h9 => ?_)
      · skip
        have g10 := i_eq h9
        refine sp_131_64_3_s (R := R) (a8 := a8) (by omega) (by omega) hI_S5 (show xB S5 R from by first | (exact (xC_o (W := 75) rp1_S5).2)) (show aS 88 S5 = a8 from by first | (exact (xC_o (W := 88) rp1_S5).1.trans rp2_S5)) (fun v8 S7 hI_S7 hp_v8 rp0_S7 rp1_S7 rp2_S7 => zi_n ⟨zG_T hI_S7, ?_⟩)
        have rp0_S7 : (v8 = 1 ∧ zwd (f 65) (f 64 2) ((f 64 3).toInt - (f 64 2).toInt) 97 103 101 115 0 0 0) ∨ (v8 = 0 ∧ ¬ zwd (f 65) (f 64 2) ((f 64 3).toInt - (f 64 2).toInt) 97 103 101 115 0 0 0) := rp0_S7
        have rp1_S7 : xB S7 R := rp1_S7
        have rp2_S7 : aS 88 S7 = a8 := rp2_S7
        have b11 := i_bd v8
        refine zd (fun h12 => ?_) (fun h12 => ?_)
        · skip
          have g13 := i_eq h12
          refine sp_131_64_4_s (R := R) (a8 := a8) (by omega) (by omega) hI_S7 (show xB S7 R from by first | (exact (xC_o (W := 75) rp1_S7).2)) (show aS 88 S7 = a8 from by first | (exact (xC_o (W := 88) rp1_S7).1.trans rp2_S7)) (fun v10 S9 hI_S9 hp_v10 rp0_S9 rp1_S9 rp2_S9 => zi_n ⟨zG_T hI_S9, ?_⟩)
          have rp0_S9 : (v10 = 1 ∧ zwd (f 65) (f 64 2) ((f 64 3).toInt - (f 64 2).toInt) 99 111 117 110 116 115 0) ∨ (v10 = 0 ∧ ¬ zwd (f 65) (f 64 2) ((f 64 3).toInt - (f 64 2).toInt) 99 111 117 110 116 115 0) := rp0_S9
          have rp1_S9 : xB S9 R := rp1_S9
          have rp2_S9 : aS 88 S9 = a8 := rp2_S9
          have b14 := i_bd v10
          refine zd (fun h15 => ?_) (fun h15 => ?_)
          · skip
            have g16 := i_eq h15
            refine sp_131_64_5_s (R := R) (a8 := a8) (by omega) (by omega) hI_S9 (show xB S9 R from by first | (exact (xC_o (W := 75) rp1_S9).2)) (show aS 88 S9 = a8 from by first | (exact (xC_o (W := 88) rp1_S9).1.trans rp2_S9)) (fun v12 S11 hI_S11 hp_v12 rp0_S11 rp1_S11 rp2_S11 => zi_n ⟨zG_T hI_S11, ?_⟩)
            have rp0_S11 : (v12 = 1 ∧ zwd (f 65) (f 64 2) ((f 64 3).toInt - (f 64 2).toInt) 115 116 101 112 115 0 0) ∨ (v12 = 0 ∧ ¬ zwd (f 65) (f 64 2) ((f 64 3).toInt - (f 64 2).toInt) 115 116 101 112 115 0 0) := rp0_S11
            have rp1_S11 : xB S11 R := rp1_S11
            have rp2_S11 : aS 88 S11 = a8 := rp2_S11
            have b17 := i_bd v12
            refine zd (fun h18 => ?_) (fun h18 => ?_)
            · skip
              have g19 := i_eq h18
              refine sp_131_64_6_s (R := R) (a8 := a8) (by omega) (by omega) hI_S11 (show xB S11 R from by first | (exact (xC_o (W := 75) rp1_S11).2)) (show aS 88 S11 = a8 from by first | (exact (xC_o (W := 88) rp1_S11).1.trans rp2_S11)) (fun v14 S13 hI_S13 hp_v14 rp0_S13 rp1_S13 rp2_S13 => zi_n ⟨zG_T hI_S13, ?_⟩)
              have rp0_S13 : (v14 = 1 ∧ zwd (f 65) (f 64 2) ((f 64 3).toInt - (f 64 2).toInt) 114 101 103 105 111 110 115) ∨ (v14 = 0 ∧ ¬ zwd (f 65) (f 64 2) ((f 64 3).toInt - (f 64 2).toInt) 114 101 103 105 111 110 115) := rp0_S13
              have rp1_S13 : xB S13 R := rp1_S13
              have rp2_S13 : aS 88 S13 = a8 := rp2_S13
              have b20 := i_bd v14
              refine zd (fun h21 => ?_) (fun h21 => ?_)
              · skip
                have g22 := i_eq h21
                have li23 : (-1 : Int32).toInt = -1 := rfl
                exact K ((-1 : Int32)) _ hI_S13 (by omega) (show (-1 : Int32).toInt = zPol (f 65) (f 64 2) ((f 64 3).toInt - (f 64 2).toInt) from by first | (unfold zPol; rw [if_neg (zno rp0_S1 (by assumption)), if_neg (zno rp0_S3 (by assumption)), if_neg (zno rp0_S5 (by assumption)), if_neg (zno rp0_S7 (by assumption)), if_neg (zno rp0_S9 (by assumption)), if_neg (zno rp0_S11 (by assumption)), if_neg (zno rp0_S13 (by assumption))]; first | done | rfl) | (unfold zPol; rw [if_neg (zno rp0_S1 (by assumption)), if_neg (zno rp0_S3 (by assumption)), if_neg (zno rp0_S5 (by assumption)), if_neg (zno rp0_S7 (by assumption)), if_neg (zno rp0_S9 (by assumption)), if_neg (zno rp0_S11 (by assumption)), if_neg (zno rp0_S13 (by assumption))]) | (omega) | (exfalso; omega)) (show xB S13 R from by first | (exact (xC_o (W := 75) rp1_S13).2)) (show aS 88 S13 = a8 from by first | (exact (xC_o (W := 88) rp1_S13).1.trans rp2_S13))
              · skip
                have g24 := i_ne h21
                have li25 : (6 : Int32).toInt = 6 := rfl
                exact K ((6 : Int32)) _ hI_S13 (by omega) (show (6 : Int32).toInt = zPol (f 65) (f 64 2) ((f 64 3).toInt - (f 64 2).toInt) from by first | (unfold zPol; rw [if_neg (zno rp0_S1 (by assumption)), if_neg (zno rp0_S3 (by assumption)), if_neg (zno rp0_S5 (by assumption)), if_neg (zno rp0_S7 (by assumption)), if_neg (zno rp0_S9 (by assumption)), if_neg (zno rp0_S11 (by assumption)), if_pos (zyes rp0_S13 (by assumption))]; first | done | rfl) | (unfold zPol; rw [if_neg (zno rp0_S1 (by assumption)), if_neg (zno rp0_S3 (by assumption)), if_neg (zno rp0_S5 (by assumption)), if_neg (zno rp0_S7 (by assumption)), if_neg (zno rp0_S9 (by assumption)), if_neg (zno rp0_S11 (by assumption)), if_pos (zyes rp0_S13 (by assumption))]) | (omega) | (exfalso; omega)) (show xB S13 R from by first | (exact (xC_o (W := 75) rp1_S13).2)) (show aS 88 S13 = a8 from by first | (exact (xC_o (W := 88) rp1_S13).1.trans rp2_S13))
            · skip
              have g26 := i_ne h18
              have li27 : (5 : Int32).toInt = 5 := rfl
              exact K ((5 : Int32)) _ hI_S11 (by omega) (show (5 : Int32).toInt = zPol (f 65) (f 64 2) ((f 64 3).toInt - (f 64 2).toInt) from by first | (unfold zPol; rw [if_neg (zno rp0_S1 (by assumption)), if_neg (zno rp0_S3 (by assumption)), if_neg (zno rp0_S5 (by assumption)), if_neg (zno rp0_S7 (by assumption)), if_neg (zno rp0_S9 (by assumption)), if_pos (zyes rp0_S11 (by assumption))]; first | done | rfl) | (unfold zPol; rw [if_neg (zno rp0_S1 (by assumption)), if_neg (zno rp0_S3 (by assumption)), if_neg (zno rp0_S5 (by assumption)), if_neg (zno rp0_S7 (by assumption)), if_neg (zno rp0_S9 (by assumption)), if_pos (zyes rp0_S11 (by assumption))]) | (omega) | (exfalso; omega)) (show xB S11 R from by first | (exact (xC_o (W := 75) rp1_S11).2)) (show aS 88 S11 = a8 from by first | (exact (xC_o (W := 88) rp1_S11).1.trans rp2_S11))
          · skip
            have g28 := i_ne h15
            have li29 : (4 : Int32).toInt = 4 := rfl
            exact K ((4 : Int32)) _ hI_S9 (by omega) (show (4 : Int32).toInt = zPol (f 65) (f 64 2) ((f 64 3).toInt - (f 64 2).toInt) from by first | (unfold zPol; rw [if_neg (zno rp0_S1 (by assumption)), if_neg (zno rp0_S3 (by assumption)), if_neg (zno rp0_S5 (by assumption)), if_neg (zno rp0_S7 (by assumption)), if_pos (zyes rp0_S9 (by assumption))]; first | done | rfl) | (unfold zPol; rw [if_neg (zno rp0_S1 (by assumption)), if_neg (zno rp0_S3 (by assumption)), if_neg (zno rp0_S5 (by assumption)), if_neg (zno rp0_S7 (by assumption)), if_pos (zyes rp0_S9 (by assumption))]) | (omega) | (exfalso; omega)) (show xB S9 R from by first | (exact (xC_o (W := 75) rp1_S9).2)) (show aS 88 S9 = a8 from by first | (exact (xC_o (W := 88) rp1_S9).1.trans rp2_S9))
        · skip
          have g30 := i_ne h12
          have li31 : (3 : Int32).toInt = 3 := rfl
          exact K ((3 : Int32)) _ hI_S7 (by omega) (show (3 : Int32).toInt = zPol (f 65) (f 64 2) ((f 64 3).toInt - (f 64 2).toInt) from by first | (unfold zPol; rw [if_neg (zno rp0_S1 (by assumption)), if_neg (zno rp0_S3 (by assumption)), if_neg (zno rp0_S5 (by assumption)), if_pos (zyes rp0_S7 (by assumption))]; first | done | rfl) | (unfold zPol; rw [if_neg (zno rp0_S1 (by assumption)), if_neg (zno rp0_S3 (by assumption)), if_neg (zno rp0_S5 (by assumption)), if_pos (zyes rp0_S7 (by assumption))]) | (omega) | (exfalso; omega)) (show xB S7 R from by first | (exact (xC_o (W := 75) rp1_S7).2)) (show aS 88 S7 = a8 from by first | (exact (xC_o (W := 88) rp1_S7).1.trans rp2_S7))
      · skip
        have g32 := i_ne h9
        have li33 : (2 : Int32).toInt = 2 := rfl
        exact K ((2 : Int32)) _ hI_S5 (by omega) (show (2 : Int32).toInt = zPol (f 65) (f 64 2) ((f 64 3).toInt - (f 64 2).toInt) from by first | (unfold zPol; rw [if_neg (zno rp0_S1 (by assumption)), if_neg (zno rp0_S3 (by assumption)), if_pos (zyes rp0_S5 (by assumption))]; first | done | rfl) | (unfold zPol; rw [if_neg (zno rp0_S1 (by assumption)), if_neg (zno rp0_S3 (by assumption)), if_pos (zyes rp0_S5 (by assumption))]) | (omega) | (exfalso; omega)) (show xB S5 R from by first | (exact (xC_o (W := 75) rp1_S5).2)) (show aS 88 S5 = a8 from by first | (exact (xC_o (W := 88) rp1_S5).1.trans rp2_S5))
    · skip
      have g34 := i_ne h6
      have li35 : (1 : Int32).toInt = 1 := rfl
      exact K ((1 : Int32)) _ hI_S3 (by omega) (show (1 : Int32).toInt = zPol (f 65) (f 64 2) ((f 64 3).toInt - (f 64 2).toInt) from by first | (unfold zPol; rw [if_neg (zno rp0_S1 (by assumption)), if_pos (zyes rp0_S3 (by assumption))]; first | done | rfl) | (unfold zPol; rw [if_neg (zno rp0_S1 (by assumption)), if_pos (zyes rp0_S3 (by assumption))]) | (omega) | (exfalso; omega)) (show xB S3 R from by first | (exact (xC_o (W := 75) rp1_S3).2)) (show aS 88 S3 = a8 from by first | (exact (xC_o (W := 88) rp1_S3).1.trans rp2_S3))
  · skip
    have g36 := i_ne h3
    exact K ((0 : Int32)) _ hI_S1 (by omega) (show (0 : Int32).toInt = zPol (f 65) (f 64 2) ((f 64 3).toInt - (f 64 2).toInt) from by first | (unfold zPol; rw [if_pos (zyes rp0_S1 (by assumption))]; first | done | rfl) | (unfold zPol; rw [if_pos (zyes rp0_S1 (by assumption))]) | (omega) | (exfalso; omega)) (show xB S1 R from by first | (exact (xC_o (W := 75) rp1_S1).2)) (show aS 88 S1 = a8 from by first | (exact (xC_o (W := 88) rp1_S1).1.trans rp2_S1))
