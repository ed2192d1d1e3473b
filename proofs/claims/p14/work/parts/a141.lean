/-! from 95.i24 -/
/-! the class opens a heap (written by wip/tools/gen18c.py) -/
theorem g_130_64_sq_0 {X : Nat × (Nat → Int32)} {d w : Nat} {S : ma_S} {Q : Option ma_V ⊕ Nat → ma_S → Prop}  (hd : 6 ≤ d) (hw : 122 ≤ w) (hS : zT S) (h : ma_wp X (d - 1) (w - 22) 131 0 [(0, .inr (.inr (some 64))), (1, .inr (.inr (some 0)))] [] S (zi (fun v2 S1 => zT S1 ∧ (if v2 = 0 then (ma_wp X (d - 1) (w - 22) 131 0 [(0, .inr (.inr (some 64))), (1, .inr (.inr (some 1)))] [] S1 (zi (fun v4 S3 => zT S3 ∧ (if v4 = 0 then (ma_wp X (d - 1) (w - 22) 131 0 [(0, .inr (.inr (some 64))), (1, .inr (.inr (some 2)))] [] S3 (zi (fun v6 S5 => zT S5 ∧ (if v6 = 0 then (ma_wp X (d - 1) (w - 22) 131 0 [(0, .inr (.inr (some 64))), (1, .inr (.inr (some 3)))] [] S5 (zi (fun v8 S7 => zT S7 ∧ (if v8 = 0 then (ma_wp X (d - 1) (w - 22) 131 0 [(0, .inr (.inr (some 64))), (1, .inr (.inr (some 4)))] [] S7 (zi (fun v10 S9 => zT S9 ∧ (if v10 = 0 then (ma_wp X (d - 1) (w - 22) 131 0 [(0, .inr (.inr (some 64))), (1, .inr (.inr (some 5)))] [] S9 (zi (fun v12 S11 => zT S11 ∧ (if v12 = 0 then (ma_wp X (d - 1) (w - 22) 131 0 [(0, .inr (.inr (some 64))), (1, .inr (.inr (some 6)))] [] S11 (zi (fun v14 S13 => zT S13 ∧ (if v14 = 0 then (Q (.inl (some (.inl (-1 : Int32)))) S13) else (Q (.inl (some (.inl (6 : Int32)))) S13))) (fun x S9 => Q (.inr x) S9))) else (Q (.inl (some (.inl (5 : Int32)))) S11))) (fun x S9 => Q (.inr x) S9))) else (Q (.inl (some (.inl (4 : Int32)))) S9))) (fun x S9 => Q (.inr x) S9))) else (Q (.inl (some (.inl (3 : Int32)))) S7))) (fun x S9 => Q (.inr x) S9))) else (Q (.inl (some (.inl (2 : Int32)))) S5))) (fun x S9 => Q (.inr x) S9))) else (Q (.inl (some (.inl (1 : Int32)))) S3))) (fun x S9 => Q (.inr x) S9))) else (Q (.inl (some (.inl (0 : Int32)))) S1))) (fun x S9 => Q (.inr x) S9))) : ma_wp X d w 130 0 [(0, .inr (.inr (some 64)))] [] S Q := by
  refine zw_push hm_130 dX11_policyToken_0 (v := .inr (.inr (some 64))) rfl ?_
  refine zw_txc hm_130 dX11_policyToken_1 txi_11_301 ?_
  refine zw_cv hm_130 dX11_policyToken_4 v_11_303_11 hm_131 [.inr (.inr (some 0))] [] rfl (zT_rt hS s_64 rfl) ⟨by omega, by omega⟩ rfl (zw_mono h (zi_go ?_ ?_))
  · intro v2 S1 hv
    obtain ⟨hS1, h⟩ := hv
    refine zw_if0 hm_130 dX11_policyToken_7 (t := 12) rfl zc0_eq ?_ ?_
    · intro hc
      rw [if_pos hc] at h
      refine zw_push hm_130 dX11_policyToken_12 (v := .inr (.inr (some 64))) rfl ?_
      refine zw_txc hm_130 dX11_policyToken_13 txi_11_307 ?_
      refine zw_cv hm_130 dX11_policyToken_16 v_11_303_11 hm_131 [.inr (.inr (some 1))] [] rfl (zT_rt hS1 s_64 rfl) ⟨by omega, by omega⟩ rfl (zw_mono h (zi_go ?_ ?_))
      · intro v4 S3 hv
        obtain ⟨hS3, h⟩ := hv
        refine zw_if0 hm_130 dX11_policyToken_19 (t := 24) rfl zc0_eq ?_ ?_
        · intro hc
          rw [if_pos hc] at h
          refine zw_push hm_130 dX11_policyToken_24 (v := .inr (.inr (some 64))) rfl ?_
          refine zw_txc hm_130 dX11_policyToken_25 txi_11_309 ?_
          refine zw_cv hm_130 dX11_policyToken_28 v_11_303_11 hm_131 [.inr (.inr (some 2))] [] rfl (zT_rt hS3 s_64 rfl) ⟨by omega, by omega⟩ rfl (zw_mono h (zi_go ?_ ?_))
          · intro v6 S5 hv
            obtain ⟨hS5, h⟩ := hv
            refine zw_if0 hm_130 dX11_policyToken_31 (t := 36) rfl zc0_eq ?_ ?_
            · intro hc
              rw [if_pos hc] at h
              refine zw_push hm_130 dX11_policyToken_36 (v := .inr (.inr (some 64))) rfl ?_
              refine zw_txc hm_130 dX11_policyToken_37 txi_11_311 ?_
              refine zw_cv hm_130 dX11_policyToken_40 v_11_303_11 hm_131 [.inr (.inr (some 3))] [] rfl (zT_rt hS5 s_64 rfl) ⟨by omega, by omega⟩ rfl (zw_mono h (zi_go ?_ ?_))
              · intro v8 S7 hv
                obtain ⟨hS7, h⟩ := hv
                refine zw_if0 hm_130 dX11_policyToken_43 (t := 48) rfl zc0_eq ?_ ?_
                · intro hc
                  rw [if_pos hc] at h
                  refine zw_push hm_130 dX11_policyToken_48 (v := .inr (.inr (some 64))) rfl ?_
                  refine zw_txc hm_130 dX11_policyToken_49 txi_11_313 ?_
                  refine zw_cv hm_130 dX11_policyToken_52 v_11_303_11 hm_131 [.inr (.inr (some 4))] [] rfl (zT_rt hS7 s_64 rfl) ⟨by omega, by omega⟩ rfl (zw_mono h (zi_go ?_ ?_))
                  · intro v10 S9 hv
                    obtain ⟨hS9, h⟩ := hv
                    refine zw_if0 hm_130 dX11_policyToken_55 (t := 60) rfl zc0_eq ?_ ?_
                    · intro hc
                      rw [if_pos hc] at h
                      refine zw_push hm_130 dX11_policyToken_60 (v := .inr (.inr (some 64))) rfl ?_
                      refine zw_txc hm_130 dX11_policyToken_61 txi_11_315 ?_
                      refine zw_cv hm_130 dX11_policyToken_64 v_11_303_11 hm_131 [.inr (.inr (some 5))] [] rfl (zT_rt hS9 s_64 rfl) ⟨by omega, by omega⟩ rfl (zw_mono h (zi_go ?_ ?_))
                      · intro v12 S11 hv
                        obtain ⟨hS11, h⟩ := hv
                        refine zw_if0 hm_130 dX11_policyToken_67 (t := 72) rfl zc0_eq ?_ ?_
                        · intro hc
                          rw [if_pos hc] at h
                          refine zw_push hm_130 dX11_policyToken_72 (v := .inr (.inr (some 64))) rfl ?_
                          refine zw_txc hm_130 dX11_policyToken_73 txi_11_317 ?_
                          refine zw_cv hm_130 dX11_policyToken_76 v_11_303_11 hm_131 [.inr (.inr (some 6))] [] rfl (zT_rt hS11 s_64 rfl) ⟨by omega, by omega⟩ rfl (zw_mono h (zi_go ?_ ?_))
                          · intro v14 S13 hv
                            obtain ⟨hS13, h⟩ := hv
                            refine zw_if0 hm_130 dX11_policyToken_79 (t := 87) rfl zc0_eq ?_ ?_
                            · intro hc
                              rw [if_pos hc] at h
                              refine zw_push hm_130 dX11_policyToken_87 (v := .inl (-1 : Int32)) rfl ?_
                              exact zw_iret hm_130 dX11_policyToken_88 h
                            · intro hc
                              rw [if_neg hc] at h
                              refine zw_push hm_130 dX11_policyToken_82 (v := .inl (6 : Int32)) rfl ?_
                              refine zw_goto hm_130 dX11_policyToken_84 (t := 88) rfl ?_
                              exact zw_iret hm_130 dX11_policyToken_88 h
                          · intro x S9 hx
                            exact ⟨by decide, hx⟩
                        · intro hc
                          rw [if_neg hc] at h
                          refine zw_push hm_130 dX11_policyToken_70 (v := .inl (5 : Int32)) rfl ?_
                          exact zw_iret hm_130 dX11_policyToken_71 h
                      · intro x S9 hx
                        exact ⟨by decide, hx⟩
                    · intro hc
                      rw [if_neg hc] at h
                      refine zw_push hm_130 dX11_policyToken_58 (v := .inl (4 : Int32)) rfl ?_
                      exact zw_iret hm_130 dX11_policyToken_59 h
                  · intro x S9 hx
                    exact ⟨by decide, hx⟩
                · intro hc
                  rw [if_neg hc] at h
                  refine zw_push hm_130 dX11_policyToken_46 (v := .inl (3 : Int32)) rfl ?_
                  exact zw_iret hm_130 dX11_policyToken_47 h
              · intro x S9 hx
                exact ⟨by decide, hx⟩
            · intro hc
              rw [if_neg hc] at h
              refine zw_push hm_130 dX11_policyToken_34 (v := .inl (2 : Int32)) rfl ?_
              exact zw_iret hm_130 dX11_policyToken_35 h
          · intro x S9 hx
            exact ⟨by decide, hx⟩
        · intro hc
          rw [if_neg hc] at h
          refine zw_push hm_130 dX11_policyToken_22 (v := .inl (1 : Int32)) rfl ?_
          exact zw_iret hm_130 dX11_policyToken_23 h
      · intro x S9 hx
        exact ⟨by decide, hx⟩
    · intro hc
      rw [if_neg hc] at h
      refine zw_push hm_130 dX11_policyToken_10 (v := .inl (0 : Int32)) rfl ?_
      exact zw_iret hm_130 dX11_policyToken_11 h
  · intro x S9 hx
    exact ⟨by decide, hx⟩
theorem sp_130_64_sq {X : Nat × (Nat → Int32)} {d w : Nat} {f : Nat → Nat → Int32} {r : Nat → Nat → Option Nat} {C Z N : Nat} {Q : Option ma_V ⊕ Nat → ma_S → Prop} {I0 : Nat→Nat→Int32} {L0 : Nat→Nat→Int64} {R0 : zRT} {S : ma_S}  (hd : 6 ≤ d) (hw : 122 ≤ w) (hI : zY0 f r C Z N S) (hpre0 : zFm I0 L0 R0 S) (K : ∀ v S₉, zY0 f r C Z N S₉ → (-1 ≤ v.toInt ∧ v.toInt ≤ 6) → (v.toInt = zPol (f 65) (f 64 2) ((f 64 3).toInt - (f 64 2).toInt)) → (zFm I0 L0 R0 S₉) → Q (.inl (some (.inl v))) S₉) : ma_wp X d w 130 0 [(0, .inr (.inr (some 64)))] [] S Q := by
  refine g_130_64_sq_0  (by omega) (by omega) (zG_T hI) ?_
  refine sp_131_64_0_sq (I0 := I0) (L0 := L0) (R0 := R0) (by omega) (by omega) hI (show zFm I0 L0 R0 S from by first | (exact hpre0)) (fun v2 S1 hI_S1 hp_v2 rp0_S1 rp1_S1 => zi_n ⟨zG_T hI_S1, ?_⟩)
  have rp0_S1 : (v2 = 1 ∧ zwd (f 65) (f 64 2) ((f 64 3).toInt - (f 64 2).toInt) 115 119 101 101 112 0 0) ∨ (v2 = 0 ∧ ¬ zwd (f 65) (f 64 2) ((f 64 3).toInt - (f 64 2).toInt) 115 119 101 101 112 0 0) := rp0_S1
  have rp1_S1 : zFm I0 L0 R0 S1 := rp1_S1
  have b1 := i_bd v2
  have li2 : (0 : Int32).toInt = 0 := rfl
  refine zd (fun h3 => ?_) (fun h3 => ?_)
  · skip
    have g4 := i_eq h3
    refine sp_131_64_1_sq (I0 := I0) (L0 := L0) (R0 := R0) (by omega) (by omega) hI_S1 (show zFm I0 L0 R0 S1 from by first | (exact rp1_S1)) (fun v4 S3 hI_S3 hp_v4 rp0_S3 rp1_S3 => zi_n ⟨zG_T hI_S3, ?_⟩)
    have rp0_S3 : (v4 = 1 ∧ zwd (f 65) (f 64 2) ((f 64 3).toInt - (f 64 2).toInt) 115 108 105 100 101 0 0) ∨ (v4 = 0 ∧ ¬ zwd (f 65) (f 64 2) ((f 64 3).toInt - (f 64 2).toInt) 115 108 105 100 101 0 0) := rp0_S3
    have rp1_S3 : zFm I0 L0 R0 S3 := rp1_S3
    have b5 := i_bd v4
    refine zd (fun h6 => ?_) (fun h6 => ?_)
    · skip
      have g7 := i_eq h6
      refine sp_131_64_2_sq (I0 := I0) (L0 := L0) (R0 := R0) (by omega) (by omega) hI_S3 (show zFm I0 L0 R0 S3 from by first | (exact rp1_S3)) (fun v6 S5 hI_S5 hp_v6 rp0_S5 rp1_S5 => zi_n ⟨zG_T hI_S5, ?_⟩)
      have rp0_S5 : (v6 = 1 ∧ zwd (f 65) (f 64 2) ((f 64 3).toInt - (f 64 2).toInt) 104 97 108 118 101 115 0) ∨ (v6 = 0 ∧ ¬ zwd (f 65) (f 64 2) ((f 64 3).toInt - (f 64 2).toInt) 104 97 108 118 101 115 0) := rp0_S5
      have rp1_S5 : zFm I0 L0 R0 S5 := rp1_S5
      have b8 := i_bd v6
      refine zd (fun h9 => ?_) (fun h9 => ?_)
      · skip
        have g10 := i_eq h9
        refine sp_131_64_3_sq (I0 := I0) (L0 := L0) (R0 := R0) (by omega) (by omega) hI_S5 (show zFm I0 L0 R0 S5 from by first | (exact rp1_S5)) (fun v8 S7 hI_S7 hp_v8 rp0_S7 rp1_S7 => zi_n ⟨zG_T hI_S7, ?_⟩)
        have rp0_S7 : (v8 = 1 ∧ zwd (f 65) (f 64 2) ((f 64 3).toInt - (f 64 2).toInt) 97 103 101 115 0 0 0) ∨ (v8 = 0 ∧ ¬ zwd (f 65) (f 64 2) ((f 64 3).toInt - (f 64 2).toInt) 97 103 101 115 0 0 0) := rp0_S7
        have rp1_S7 : zFm I0 L0 R0 S7 := rp1_S7
        have b11 := i_bd v8
        refine zd (fun h12 => ?_) (fun h12 => ?_)
        · skip
          have g13 := i_eq h12
          refine sp_131_64_4_sq (I0 := I0) (L0 := L0) (R0 := R0) (by omega) (by omega) hI_S7 (show zFm I0 L0 R0 S7 from by first | (exact rp1_S7)) (fun v10 S9 hI_S9 hp_v10 rp0_S9 rp1_S9 => zi_n ⟨zG_T hI_S9, ?_⟩)
          have rp0_S9 : (v10 = 1 ∧ zwd (f 65) (f 64 2) ((f 64 3).toInt - (f 64 2).toInt) 99 111 117 110 116 115 0) ∨ (v10 = 0 ∧ ¬ zwd (f 65) (f 64 2) ((f 64 3).toInt - (f 64 2).toInt) 99 111 117 110 116 115 0) := rp0_S9
          have rp1_S9 : zFm I0 L0 R0 S9 := rp1_S9
          have b14 := i_bd v10
          refine zd (fun h15 => ?_) (fun h15 => ?_)
          · skip
            have g16 := i_eq h15
            refine sp_131_64_5_sq (I0 := I0) (L0 := L0) (R0 := R0) (by omega) (by omega) hI_S9 (show zFm I0 L0 R0 S9 from by first | (exact rp1_S9)) (fun v12 S11 hI_S11 hp_v12 rp0_S11 rp1_S11 => zi_n ⟨zG_T hI_S11, ?_⟩)
            have rp0_S11 : (v12 = 1 ∧ zwd (f 65) (f 64 2) ((f 64 3).toInt - (f 64 2).toInt) 115 116 101 112 115 0 0) ∨ (v12 = 0 ∧ ¬ zwd (f 65) (f 64 2) ((f 64 3).toInt - (f 64 2).toInt) 115 116 101 112 115 0 0) := rp0_S11
            have rp1_S11 : zFm I0 L0 R0 S11 := rp1_S11
            have b17 := i_bd v12
            refine zd (fun h18 => ?_) (fun h18 => ?_)
            · skip
              have g19 := i_eq h18
              refine sp_131_64_6_sq (I0 := I0) (L0 := L0) (R0 := R0) (by omega) (by omega) hI_S11 (show zFm I0 L0 R0 S11 from by first | (exact rp1_S11)) (fun v14 S13 hI_S13 hp_v14 rp0_S13 rp1_S13 => zi_n ⟨zG_T hI_S13, ?_⟩)
              have rp0_S13 : (v14 = 1 ∧ zwd (f 65) (f 64 2) ((f 64 3).toInt - (f 64 2).toInt) 114 101 103 105 111 110 115) ∨ (v14 = 0 ∧ ¬ zwd (f 65) (f 64 2) ((f 64 3).toInt - (f 64 2).toInt) 114 101 103 105 111 110 115) := rp0_S13
              have rp1_S13 : zFm I0 L0 R0 S13 := rp1_S13
              have b20 := i_bd v14
              refine zd (fun h21 => ?_) (fun h21 => ?_)
              · skip
                have g22 := i_eq h21
                have li23 : (-1 : Int32).toInt = -1 := rfl
                exact K ((-1 : Int32)) _ hI_S13 (by omega) (show (-1 : Int32).toInt = zPol (f 65) (f 64 2) ((f 64 3).toInt - (f 64 2).toInt) from by first | (unfold zPol; rw [if_neg (zno rp0_S1 (by assumption)), if_neg (zno rp0_S3 (by assumption)), if_neg (zno rp0_S5 (by assumption)), if_neg (zno rp0_S7 (by assumption)), if_neg (zno rp0_S9 (by assumption)), if_neg (zno rp0_S11 (by assumption)), if_neg (zno rp0_S13 (by assumption))]; first | done | rfl) | (unfold zPol; rw [if_neg (zno rp0_S1 (by assumption)), if_neg (zno rp0_S3 (by assumption)), if_neg (zno rp0_S5 (by assumption)), if_neg (zno rp0_S7 (by assumption)), if_neg (zno rp0_S9 (by assumption)), if_neg (zno rp0_S11 (by assumption)), if_neg (zno rp0_S13 (by assumption))]) | (omega) | (exfalso; omega)) (show zFm I0 L0 R0 S13 from by first | (exact rp1_S13))
              · skip
                have g24 := i_ne h21
                have li25 : (6 : Int32).toInt = 6 := rfl
                exact K ((6 : Int32)) _ hI_S13 (by omega) (show (6 : Int32).toInt = zPol (f 65) (f 64 2) ((f 64 3).toInt - (f 64 2).toInt) from by first | (unfold zPol; rw [if_neg (zno rp0_S1 (by assumption)), if_neg (zno rp0_S3 (by assumption)), if_neg (zno rp0_S5 (by assumption)), if_neg (zno rp0_S7 (by assumption)), if_neg (zno rp0_S9 (by assumption)), if_neg (zno rp0_S11 (by assumption)), if_pos (zyes rp0_S13 (by assumption))]; first | done | rfl) | (unfold zPol; rw [if_neg (zno rp0_S1 (by assumption)), if_neg (zno rp0_S3 (by assumption)), if_neg (zno rp0_S5 (by assumption)), if_neg (zno rp0_S7 (by assumption)), if_neg (zno rp0_S9 (by assumption)), if_neg (zno rp0_S11 (by assumption)), if_pos (zyes rp0_S13 (by assumption))]) | (omega) | (exfalso; omega)) (show zFm I0 L0 R0 S13 from by first | (exact rp1_S13))
            · skip
              have g26 := i_ne h18
              have li27 : (5 : Int32).toInt = 5 := rfl
              exact K ((5 : Int32)) _ hI_S11 (by omega) (show (5 : Int32).toInt = zPol (f 65) (f 64 2) ((f 64 3).toInt - (f 64 2).toInt) from by first | (unfold zPol; rw [if_neg (zno rp0_S1 (by assumption)), if_neg (zno rp0_S3 (by assumption)), if_neg (zno rp0_S5 (by assumption)), if_neg (zno rp0_S7 (by assumption)), if_neg (zno rp0_S9 (by assumption)), if_pos (zyes rp0_S11 (by assumption))]; first | done | rfl) | (unfold zPol; rw [if_neg (zno rp0_S1 (by assumption)), if_neg (zno rp0_S3 (by assumption)), if_neg (zno rp0_S5 (by assumption)), if_neg (zno rp0_S7 (by assumption)), if_neg (zno rp0_S9 (by assumption)), if_pos (zyes rp0_S11 (by assumption))]) | (omega) | (exfalso; omega)) (show zFm I0 L0 R0 S11 from by first | (exact rp1_S11))
          · skip
            have g28 := i_ne h15
            have li29 : (4 : Int32).toInt = 4 := rfl
            exact K ((4 : Int32)) _ hI_S9 (by omega) (show (4 : Int32).toInt = zPol (f 65) (f 64 2) ((f 64 3).toInt - (f 64 2).toInt) from by first | (unfold zPol; rw [if_neg (zno rp0_S1 (by assumption)), if_neg (zno rp0_S3 (by assumption)), if_neg (zno rp0_S5 (by assumption)), if_neg (zno rp0_S7 (by assumption)), if_pos (zyes rp0_S9 (by assumption))]; first | done | rfl) | (unfold zPol; rw [if_neg (zno rp0_S1 (by assumption)), if_neg (zno rp0_S3 (by assumption)), if_neg (zno rp0_S5 (by assumption)), if_neg (zno rp0_S7 (by assumption)), if_pos (zyes rp0_S9 (by assumption))]) | (omega) | (exfalso; omega)) (show zFm I0 L0 R0 S9 from by first | (exact rp1_S9))
        · skip
          have g30 := i_ne h12
          have li31 : (3 : Int32).toInt = 3 := rfl
          exact K ((3 : Int32)) _ hI_S7 (by omega) (show (3 : Int32).toInt = zPol (f 65) (f 64 2) ((f 64 3).toInt - (f 64 2).toInt) from by first | (unfold zPol; rw [if_neg (zno rp0_S1 (by assumption)), if_neg (zno rp0_S3 (by assumption)), if_neg (zno rp0_S5 (by assumption)), if_pos (zyes rp0_S7 (by assumption))]; first | done | rfl) | (unfold zPol; rw [if_neg (zno rp0_S1 (by assumption)), if_neg (zno rp0_S3 (by assumption)), if_neg (zno rp0_S5 (by assumption)), if_pos (zyes rp0_S7 (by assumption))]) | (omega) | (exfalso; omega)) (show zFm I0 L0 R0 S7 from by first | (exact rp1_S7))
      · skip
        have g32 := i_ne h9
        have li33 : (2 : Int32).toInt = 2 := rfl
        exact K ((2 : Int32)) _ hI_S5 (by omega) (show (2 : Int32).toInt = zPol (f 65) (f 64 2) ((f 64 3).toInt - (f 64 2).toInt) from by first | (unfold zPol; rw [if_neg (zno rp0_S1 (by assumption)), if_neg (zno rp0_S3 (by assumption)), if_pos (zyes rp0_S5 (by assumption))]; first | done | rfl) | (unfold zPol; rw [if_neg (zno rp0_S1 (by assumption)), if_neg (zno rp0_S3 (by assumption)), if_pos (zyes rp0_S5 (by assumption))]) | (omega) | (exfalso; omega)) (show zFm I0 L0 R0 S5 from by first | (exact rp1_S5))
    · skip
      have g34 := i_ne h6
      have li35 : (1 : Int32).toInt = 1 := rfl
      exact K ((1 : Int32)) _ hI_S3 (by omega) (show (1 : Int32).toInt = zPol (f 65) (f 64 2) ((f 64 3).toInt - (f 64 2).toInt) from by first | (unfold zPol; rw [if_neg (zno rp0_S1 (by assumption)), if_pos (zyes rp0_S3 (by assumption))]; first | done | rfl) | (unfold zPol; rw [if_neg (zno rp0_S1 (by assumption)), if_pos (zyes rp0_S3 (by assumption))]) | (omega) | (exfalso; omega)) (show zFm I0 L0 R0 S3 from by first | (exact rp1_S3))
  · skip
    have g36 := i_ne h3
    exact K ((0 : Int32)) _ hI_S1 (by omega) (show (0 : Int32).toInt = zPol (f 65) (f 64 2) ((f 64 3).toInt - (f 64 2).toInt) from by first | (unfold zPol; rw [if_pos (zyes rp0_S1 (by assumption))]; first | done | rfl) | (unfold zPol; rw [if_pos (zyes rp0_S1 (by assumption))]) | (omega) | (exfalso; omega)) (show zFm I0 L0 R0 S1 from by first | (exact rp1_S1))
theorem g_135_64_sq_0 {X : Nat × (Nat → Int32)} {d w : Nat} {S : ma_S} {Q : Option ma_V ⊕ Nat → ma_S → Prop}  (hd : 6 ≤ d) (hw : 122 ≤ w) (hS : zT S) (h : ma_wp X (d - 1) (w - 22) 131 0 [(0, .inr (.inr (some 64))), (1, .inr (.inr (some 13)))] [] S (zi (fun v2 S1 => zT S1 ∧ (if v2 = 0 then (ma_wp X (d - 1) (w - 22) 131 0 [(0, .inr (.inr (some 64))), (1, .inr (.inr (some 14)))] [] S1 (zi (fun v4 S3 => zT S3 ∧ (if v4 = 0 then (ma_wp X (d - 1) (w - 22) 131 0 [(0, .inr (.inr (some 64))), (1, .inr (.inr (some 15)))] [] S3 (zi (fun v6 S5 => zT S5 ∧ (if v6 = 0 then (ma_wp X (d - 1) (w - 22) 131 0 [(0, .inr (.inr (some 64))), (1, .inr (.inr (some 16)))] [] S5 (zi (fun v8 S7 => zT S7 ∧ (if v8 = 0 then (Q (.inl (some (.inl (-1 : Int32)))) S7) else (Q (.inl (some (.inl (3 : Int32)))) S7))) (fun x S9 => Q (.inr x) S9))) else (Q (.inl (some (.inl (2 : Int32)))) S5))) (fun x S9 => Q (.inr x) S9))) else (Q (.inl (some (.inl (1 : Int32)))) S3))) (fun x S9 => Q (.inr x) S9))) else (Q (.inl (some (.inl (0 : Int32)))) S1))) (fun x S9 => Q (.inr x) S9))) : ma_wp X d w 135 0 [(0, .inr (.inr (some 64)))] [] S Q := by
  refine zw_push hm_135 dX11_formToken_0 (v := .inr (.inr (some 64))) rfl ?_
  refine zw_txc hm_135 dX11_formToken_1 txi_11_346 ?_
  refine zw_cv hm_135 dX11_formToken_4 v_11_303_11 hm_131 [.inr (.inr (some 13))] [] rfl (zT_rt hS s_64 rfl) ⟨by omega, by omega⟩ rfl (zw_mono h (zi_go ?_ ?_))
  · intro v2 S1 hv
    obtain ⟨hS1, h⟩ := hv
    refine zw_if0 hm_135 dX11_formToken_7 (t := 12) rfl zc0_eq ?_ ?_
    · intro hc
      rw [if_pos hc] at h
      refine zw_push hm_135 dX11_formToken_12 (v := .inr (.inr (some 64))) rfl ?_
      refine zw_txc hm_135 dX11_formToken_13 txi_11_348 ?_
      refine zw_cv hm_135 dX11_formToken_16 v_11_303_11 hm_131 [.inr (.inr (some 14))] [] rfl (zT_rt hS1 s_64 rfl) ⟨by omega, by omega⟩ rfl (zw_mono h (zi_go ?_ ?_))
      · intro v4 S3 hv
        obtain ⟨hS3, h⟩ := hv
        refine zw_if0 hm_135 dX11_formToken_19 (t := 24) rfl zc0_eq ?_ ?_
        · intro hc
          rw [if_pos hc] at h
          refine zw_push hm_135 dX11_formToken_24 (v := .inr (.inr (some 64))) rfl ?_
          refine zw_txc hm_135 dX11_formToken_25 txi_11_350 ?_
          refine zw_cv hm_135 dX11_formToken_28 v_11_303_11 hm_131 [.inr (.inr (some 15))] [] rfl (zT_rt hS3 s_64 rfl) ⟨by omega, by omega⟩ rfl (zw_mono h (zi_go ?_ ?_))
          · intro v6 S5 hv
            obtain ⟨hS5, h⟩ := hv
            refine zw_if0 hm_135 dX11_formToken_31 (t := 36) rfl zc0_eq ?_ ?_
            · intro hc
              rw [if_pos hc] at h
              refine zw_push hm_135 dX11_formToken_36 (v := .inr (.inr (some 64))) rfl ?_
              refine zw_txc hm_135 dX11_formToken_37 txi_11_352 ?_
              refine zw_cv hm_135 dX11_formToken_40 v_11_303_11 hm_131 [.inr (.inr (some 16))] [] rfl (zT_rt hS5 s_64 rfl) ⟨by omega, by omega⟩ rfl (zw_mono h (zi_go ?_ ?_))
              · intro v8 S7 hv
                obtain ⟨hS7, h⟩ := hv
                refine zw_if0 hm_135 dX11_formToken_43 (t := 50) rfl zc0_eq ?_ ?_
                · intro hc
                  rw [if_pos hc] at h
                  refine zw_push hm_135 dX11_formToken_50 (v := .inl (-1 : Int32)) rfl ?_
                  exact zw_iret hm_135 dX11_formToken_51 h
                · intro hc
                  rw [if_neg hc] at h
                  refine zw_push hm_135 dX11_formToken_46 (v := .inl (3 : Int32)) rfl ?_
                  refine zw_goto hm_135 dX11_formToken_47 (t := 51) rfl ?_
                  exact zw_iret hm_135 dX11_formToken_51 h
              · intro x S9 hx
                exact ⟨by decide, hx⟩
            · intro hc
              rw [if_neg hc] at h
              refine zw_push hm_135 dX11_formToken_34 (v := .inl (2 : Int32)) rfl ?_
              exact zw_iret hm_135 dX11_formToken_35 h
          · intro x S9 hx
            exact ⟨by decide, hx⟩
        · intro hc
          rw [if_neg hc] at h
          refine zw_push hm_135 dX11_formToken_22 (v := .inl (1 : Int32)) rfl ?_
          exact zw_iret hm_135 dX11_formToken_23 h
      · intro x S9 hx
        exact ⟨by decide, hx⟩
    · intro hc
      rw [if_neg hc] at h
      refine zw_push hm_135 dX11_formToken_10 (v := .inl (0 : Int32)) rfl ?_
      exact zw_iret hm_135 dX11_formToken_11 h
  · intro x S9 hx
    exact ⟨by decide, hx⟩
theorem sp_135_64_sq {X : Nat × (Nat → Int32)} {d w : Nat} {f : Nat → Nat → Int32} {r : Nat → Nat → Option Nat} {C Z N : Nat} {Q : Option ma_V ⊕ Nat → ma_S → Prop} {I0 : Nat→Nat→Int32} {L0 : Nat→Nat→Int64} {R0 : zRT} {S : ma_S}  (hd : 6 ≤ d) (hw : 122 ≤ w) (hI : zY0 f r C Z N S) (hpre0 : zFm I0 L0 R0 S) (K : ∀ v S₉, zY0 f r C Z N S₉ → (-1 ≤ v.toInt ∧ v.toInt ≤ 3) → (v.toInt = zForm (f 65) (f 64 2) ((f 64 3).toInt - (f 64 2).toInt)) → (zFm I0 L0 R0 S₉) → Q (.inl (some (.inl v))) S₉) : ma_wp X d w 135 0 [(0, .inr (.inr (some 64)))] [] S Q := by
  refine g_135_64_sq_0  (by omega) (by omega) (zG_T hI) ?_
  refine sp_131_64_13_sq (I0 := I0) (L0 := L0) (R0 := R0) (by omega) (by omega) hI (show zFm I0 L0 R0 S from by first | (exact hpre0)) (fun v2 S1 hI_S1 hp_v2 rp0_S1 rp1_S1 => zi_n ⟨zG_T hI_S1, ?_⟩)
  have rp0_S1 : (v2 = 1 ∧ zwd (f 65) (f 64 2) ((f 64 3).toInt - (f 64 2).toInt) 102 105 114 115 116 0 0) ∨ (v2 = 0 ∧ ¬ zwd (f 65) (f 64 2) ((f 64 3).toInt - (f 64 2).toInt) 102 105 114 115 116 0 0) := rp0_S1
  have rp1_S1 : zFm I0 L0 R0 S1 := rp1_S1
  have b1 := i_bd v2
  have li2 : (0 : Int32).toInt = 0 := rfl
  refine zd (fun h3 => ?_) (fun h3 => ?_)
  · skip
    have g4 := i_eq h3
    refine sp_131_64_14_sq (I0 := I0) (L0 := L0) (R0 := R0) (by omega) (by omega) hI_S1 (show zFm I0 L0 R0 S1 from by first | (exact rp1_S1)) (fun v4 S3 hI_S3 hp_v4 rp0_S3 rp1_S3 => zi_n ⟨zG_T hI_S3, ?_⟩)
    have rp0_S3 : (v4 = 1 ∧ zwd (f 65) (f 64 2) ((f 64 3).toInt - (f 64 2).toInt) 110 101 120 116 0 0 0) ∨ (v4 = 0 ∧ ¬ zwd (f 65) (f 64 2) ((f 64 3).toInt - (f 64 2).toInt) 110 101 120 116 0 0 0) := rp0_S3
    have rp1_S3 : zFm I0 L0 R0 S3 := rp1_S3
    have b5 := i_bd v4
    refine zd (fun h6 => ?_) (fun h6 => ?_)
    · skip
      have g7 := i_eq h6
      refine sp_131_64_15_sq (I0 := I0) (L0 := L0) (R0 := R0) (by omega) (by omega) hI_S3 (show zFm I0 L0 R0 S3 from by first | (exact rp1_S3)) (fun v6 S5 hI_S5 hp_v6 rp0_S5 rp1_S5 => zi_n ⟨zG_T hI_S5, ?_⟩)
      have rp0_S5 : (v6 = 1 ∧ zwd (f 65) (f 64 2) ((f 64 3).toInt - (f 64 2).toInt) 98 101 115 116 0 0 0) ∨ (v6 = 0 ∧ ¬ zwd (f 65) (f 64 2) ((f 64 3).toInt - (f 64 2).toInt) 98 101 115 116 0 0 0) := rp0_S5
      have rp1_S5 : zFm I0 L0 R0 S5 := rp1_S5
      have b8 := i_bd v6
      refine zd (fun h9 => ?_) (fun h9 => ?_)
      · skip
        have g10 := i_eq h9
        refine sp_131_64_16_sq (I0 := I0) (L0 := L0) (R0 := R0) (by omega) (by omega) hI_S5 (show zFm I0 L0 R0 S5 from by first | (exact rp1_S5)) (fun v8 S7 hI_S7 hp_v8 rp0_S7 rp1_S7 => zi_n ⟨zG_T hI_S7, ?_⟩)
        have rp0_S7 : (v8 = 1 ∧ zwd (f 65) (f 64 2) ((f 64 3).toInt - (f 64 2).toInt) 119 111 114 115 116 0 0) ∨ (v8 = 0 ∧ ¬ zwd (f 65) (f 64 2) ((f 64 3).toInt - (f 64 2).toInt) 119 111 114 115 116 0 0) := rp0_S7
        have rp1_S7 : zFm I0 L0 R0 S7 := rp1_S7
        have b11 := i_bd v8
        refine zd (fun h12 => ?_) (fun h12 => ?_)
        · skip
          have g13 := i_eq h12
          have li14 : (-1 : Int32).toInt = -1 := rfl
          exact K ((-1 : Int32)) _ hI_S7 (by omega) (show (-1 : Int32).toInt = zForm (f 65) (f 64 2) ((f 64 3).toInt - (f 64 2).toInt) from by first | (unfold zForm; rw [if_neg (zno rp0_S1 (by assumption)), if_neg (zno rp0_S3 (by assumption)), if_neg (zno rp0_S5 (by assumption)), if_neg (zno rp0_S7 (by assumption))]; first | done | rfl) | (unfold zForm; rw [if_neg (zno rp0_S1 (by assumption)), if_neg (zno rp0_S3 (by assumption)), if_neg (zno rp0_S5 (by assumption)), if_neg (zno rp0_S7 (by assumption))]) | (omega) | (exfalso; omega)) (show zFm I0 L0 R0 S7 from by first | (exact rp1_S7))
        · skip
          have g15 := i_ne h12
          have li16 : (3 : Int32).toInt = 3 := rfl
          exact K ((3 : Int32)) _ hI_S7 (by omega) (show (3 : Int32).toInt = zForm (f 65) (f 64 2) ((f 64 3).toInt - (f 64 2).toInt) from by first | (unfold zForm; rw [if_neg (zno rp0_S1 (by assumption)), if_neg (zno rp0_S3 (by assumption)), if_neg (zno rp0_S5 (by assumption)), if_pos (zyes rp0_S7 (by assumption))]; first | done | rfl) | (unfold zForm; rw [if_neg (zno rp0_S1 (by assumption)), if_neg (zno rp0_S3 (by assumption)), if_neg (zno rp0_S5 (by assumption)), if_pos (zyes rp0_S7 (by assumption))]) | (omega) | (exfalso; omega)) (show zFm I0 L0 R0 S7 from by first | (exact rp1_S7))
      · skip
        have g17 := i_ne h9
        have li18 : (2 : Int32).toInt = 2 := rfl
        exact K ((2 : Int32)) _ hI_S5 (by omega) (show (2 : Int32).toInt = zForm (f 65) (f 64 2) ((f 64 3).toInt - (f 64 2).toInt) from by first | (unfold zForm; rw [if_neg (zno rp0_S1 (by assumption)), if_neg (zno rp0_S3 (by assumption)), if_pos (zyes rp0_S5 (by assumption))]; first | done | rfl) | (unfold zForm; rw [if_neg (zno rp0_S1 (by assumption)), if_neg (zno rp0_S3 (by assumption)), if_pos (zyes rp0_S5 (by assumption))]) | (omega) | (exfalso; omega)) (show zFm I0 L0 R0 S5 from by first | (exact rp1_S5))
    · skip
      have g19 := i_ne h6
      have li20 : (1 : Int32).toInt = 1 := rfl
      exact K ((1 : Int32)) _ hI_S3 (by omega) (show (1 : Int32).toInt = zForm (f 65) (f 64 2) ((f 64 3).toInt - (f 64 2).toInt) from by first | (unfold zForm; rw [if_neg (zno rp0_S1 (by assumption)), if_pos (zyes rp0_S3 (by assumption))]; first | done | rfl) | (unfold zForm; rw [if_neg (zno rp0_S1 (by assumption)), if_pos (zyes rp0_S3 (by assumption))]) | (omega) | (exfalso; omega)) (show zFm I0 L0 R0 S3 from by first | (exact rp1_S3))
  · skip
    have g21 := i_ne h3
    exact K ((0 : Int32)) _ hI_S1 (by omega) (show (0 : Int32).toInt = zForm (f 65) (f 64 2) ((f 64 3).toInt - (f 64 2).toInt) from by first | (unfold zForm; rw [if_pos (zyes rp0_S1 (by assumption))]; first | done | rfl) | (unfold zForm; rw [if_pos (zyes rp0_S1 (by assumption))]) | (omega) | (exfalso; omega)) (show zFm I0 L0 R0 S1 from by first | (exact rp1_S1))

/-! from 95.i25 -/
/-! the class opens a heap (written by wip/tools/gen18c.py) -/
theorem g_136_64_sq_0 {X : Nat × (Nat → Int32)} {d w : Nat} {S : ma_S} {Q : Option ma_V ⊕ Nat → ma_S → Prop}  (hd : 6 ≤ d) (hw : 122 ≤ w) (hS : zT S) (h : ma_wp X (d - 1) (w - 22) 131 0 [(0, .inr (.inr (some 64))), (1, .inr (.inr (some 17)))] [] S (zi (fun v2 S1 => zT S1 ∧ (if v2 = 0 then (ma_wp X (d - 1) (w - 22) 131 0 [(0, .inr (.inr (some 64))), (1, .inr (.inr (some 18)))] [] S1 (zi (fun v4 S3 => zT S3 ∧ (if v4 = 0 then (Q (.inl (some (.inl (-1 : Int32)))) S3) else (Q (.inl (some (.inl (1 : Int32)))) S3))) (fun x S9 => Q (.inr x) S9))) else (Q (.inl (some (.inl (0 : Int32)))) S1))) (fun x S9 => Q (.inr x) S9))) : ma_wp X d w 136 0 [(0, .inr (.inr (some 64)))] [] S Q := by
  refine zw_push hm_136 dX11_barrierToken_0 (v := .inr (.inr (some 64))) rfl ?_
  refine zw_txc hm_136 dX11_barrierToken_1 txi_11_354 ?_
  refine zw_cv hm_136 dX11_barrierToken_4 v_11_303_11 hm_131 [.inr (.inr (some 17))] [] rfl (zT_rt hS s_64 rfl) ⟨by omega, by omega⟩ rfl (zw_mono h (zi_go ?_ ?_))
  · intro v2 S1 hv
    obtain ⟨hS1, h⟩ := hv
    refine zw_if0 hm_136 dX11_barrierToken_7 (t := 12) rfl zc0_eq ?_ ?_
    · intro hc
      rw [if_pos hc] at h
      refine zw_push hm_136 dX11_barrierToken_12 (v := .inr (.inr (some 64))) rfl ?_
      refine zw_txc hm_136 dX11_barrierToken_13 txi_11_356 ?_
      refine zw_cv hm_136 dX11_barrierToken_16 v_11_303_11 hm_131 [.inr (.inr (some 18))] [] rfl (zT_rt hS1 s_64 rfl) ⟨by omega, by omega⟩ rfl (zw_mono h (zi_go ?_ ?_))
      · intro v4 S3 hv
        obtain ⟨hS3, h⟩ := hv
        refine zw_if0 hm_136 dX11_barrierToken_19 (t := 26) rfl zc0_eq ?_ ?_
        · intro hc
          rw [if_pos hc] at h
          refine zw_push hm_136 dX11_barrierToken_26 (v := .inl (-1 : Int32)) rfl ?_
          exact zw_iret hm_136 dX11_barrierToken_27 h
        · intro hc
          rw [if_neg hc] at h
          refine zw_push hm_136 dX11_barrierToken_22 (v := .inl (1 : Int32)) rfl ?_
          refine zw_goto hm_136 dX11_barrierToken_23 (t := 27) rfl ?_
          exact zw_iret hm_136 dX11_barrierToken_27 h
      · intro x S9 hx
        exact ⟨by decide, hx⟩
    · intro hc
      rw [if_neg hc] at h
      refine zw_push hm_136 dX11_barrierToken_10 (v := .inl (0 : Int32)) rfl ?_
      exact zw_iret hm_136 dX11_barrierToken_11 h
  · intro x S9 hx
    exact ⟨by decide, hx⟩
theorem sp_136_64_sq {X : Nat × (Nat → Int32)} {d w : Nat} {f : Nat → Nat → Int32} {r : Nat → Nat → Option Nat} {C Z N : Nat} {Q : Option ma_V ⊕ Nat → ma_S → Prop} {I0 : Nat→Nat→Int32} {L0 : Nat→Nat→Int64} {R0 : zRT} {S : ma_S}  (hd : 6 ≤ d) (hw : 122 ≤ w) (hI : zY0 f r C Z N S) (hpre0 : zFm I0 L0 R0 S) (K : ∀ v S₉, zY0 f r C Z N S₉ → (-1 ≤ v.toInt ∧ v.toInt ≤ 3) → (v.toInt = zBar (f 65) (f 64 2) ((f 64 3).toInt - (f 64 2).toInt)) → (zFm I0 L0 R0 S₉) → Q (.inl (some (.inl v))) S₉) : ma_wp X d w 136 0 [(0, .inr (.inr (some 64)))] [] S Q := by
  refine g_136_64_sq_0  (by omega) (by omega) (zG_T hI) ?_
  refine sp_131_64_17_sq (I0 := I0) (L0 := L0) (R0 := R0) (by omega) (by omega) hI (show zFm I0 L0 R0 S from by first | (exact hpre0)) (fun v2 S1 hI_S1 hp_v2 rp0_S1 rp1_S1 => zi_n ⟨zG_T hI_S1, ?_⟩)
  have rp0_S1 : (v2 = 1 ∧ zwd (f 65) (f 64 2) ((f 64 3).toInt - (f 64 2).toInt) 112 105 99 116 117 114 101) ∨ (v2 = 0 ∧ ¬ zwd (f 65) (f 64 2) ((f 64 3).toInt - (f 64 2).toInt) 112 105 99 116 117 114 101) := rp0_S1
  have rp1_S1 : zFm I0 L0 R0 S1 := rp1_S1
  have b1 := i_bd v2
  have li2 : (0 : Int32).toInt = 0 := rfl
  refine zd (fun h3 => ?_) (fun h3 => ?_)
  · skip
    have g4 := i_eq h3
    refine sp_131_64_18_sq (I0 := I0) (L0 := L0) (R0 := R0) (by omega) (by omega) hI_S1 (show zFm I0 L0 R0 S1 from by first | (exact rp1_S1)) (fun v4 S3 hI_S3 hp_v4 rp0_S3 rp1_S3 => zi_n ⟨zG_T hI_S3, ?_⟩)
    have rp0_S3 : (v4 = 1 ∧ zwd (f 65) (f 64 2) ((f 64 3).toInt - (f 64 2).toInt) 110 101 119 115 0 0 0) ∨ (v4 = 0 ∧ ¬ zwd (f 65) (f 64 2) ((f 64 3).toInt - (f 64 2).toInt) 110 101 119 115 0 0 0) := rp0_S3
    have rp1_S3 : zFm I0 L0 R0 S3 := rp1_S3
    have b5 := i_bd v4
    refine zd (fun h6 => ?_) (fun h6 => ?_)
    · skip
      have g7 := i_eq h6
      have li8 : (-1 : Int32).toInt = -1 := rfl
      exact K ((-1 : Int32)) _ hI_S3 (by omega) (show (-1 : Int32).toInt = zBar (f 65) (f 64 2) ((f 64 3).toInt - (f 64 2).toInt) from by first | (unfold zBar; rw [if_neg (zno rp0_S1 (by assumption)), if_neg (zno rp0_S3 (by assumption))]; first | done | rfl) | (unfold zBar; rw [if_neg (zno rp0_S1 (by assumption)), if_neg (zno rp0_S3 (by assumption))]) | (omega) | (exfalso; omega)) (show zFm I0 L0 R0 S3 from by first | (exact rp1_S3))
    · skip
      have g9 := i_ne h6
      have li10 : (1 : Int32).toInt = 1 := rfl
      exact K ((1 : Int32)) _ hI_S3 (by omega) (show (1 : Int32).toInt = zBar (f 65) (f 64 2) ((f 64 3).toInt - (f 64 2).toInt) from by first | (unfold zBar; rw [if_neg (zno rp0_S1 (by assumption)), if_pos (zyes rp0_S3 (by assumption))]; first | done | rfl) | (unfold zBar; rw [if_neg (zno rp0_S1 (by assumption)), if_pos (zyes rp0_S3 (by assumption))]) | (omega) | (exfalso; omega)) (show zFm I0 L0 R0 S3 from by first | (exact rp1_S3))
  · skip
    have g11 := i_ne h3
    exact K ((0 : Int32)) _ hI_S1 (by omega) (show (0 : Int32).toInt = zBar (f 65) (f 64 2) ((f 64 3).toInt - (f 64 2).toInt) from by first | (unfold zBar; rw [if_pos (zyes rp0_S1 (by assumption))]; first | done | rfl) | (unfold zBar; rw [if_pos (zyes rp0_S1 (by assumption))]) | (omega) | (exfalso; omega)) (show zFm I0 L0 R0 S1 from by first | (exact rp1_S1))
theorem g_134_64_sq_0 {X : Nat × (Nat → Int32)} {d w : Nat} {S : ma_S} {Q : Option ma_V ⊕ Nat → ma_S → Prop} (a : Int32) (b : Int32) (hd : 0 ≤ d) (hw : 0 ≤ w) (hS : zT S) (h : if (mI S 64 3) = (mI S 64 2) then (Q (.inl (some (.inl (-1 : Int32)))) S) else (if ((mI S 64 3) - (mI S 64 2)) ≤ (5 : Int32) then (ma_wp X d w 134 34 [(0, .inr (.inr (some 64))), (1, .inl a), (2, .inl b), (3, .inl (0 : Int32)), (4, .inl (mI S 64 2))] [] S Q) else (Q (.inl (some (.inl (-1 : Int32)))) S))) : ma_wp X d w 134 0 [(0, .inr (.inr (some 64))), (1, .inl a), (2, .inl b)] [] S Q := by
  refine zw_push hm_134 dX11_numberToken_0 (v := .inr (.inr (some 64))) rfl ?_
  refine zw_gf hm_134 dX11_numberToken_1 (v := .inl (mI S 64 3)) (zT_is hS s_64) (zT_t hS s_64) rfl f_11_275_11 rfl ?_
  refine zw_push hm_134 dX11_numberToken_4 (v := .inr (.inr (some 64))) rfl ?_
  refine zw_gf hm_134 dX11_numberToken_5 (v := .inl (mI S 64 2)) (zT_is hS s_64) (zT_t hS s_64) rfl f_11_92_11 rfl ?_
  refine zw_if2 hm_134 dX11_numberToken_8 (t := 24) rfl zc2_eq ?_ ?_
  · intro hc
    rw [if_pos hc] at h
    refine zw_push hm_134 dX11_numberToken_24 (v := .inl (-1 : Int32)) rfl ?_
    exact zw_iret hm_134 dX11_numberToken_25 h
  · intro hc
    rw [if_neg hc] at h
    refine zw_push hm_134 dX11_numberToken_11 (v := .inr (.inr (some 64))) rfl ?_
    refine zw_gf hm_134 dX11_numberToken_12 (v := .inl (mI S 64 3)) (zT_is hS s_64) (zT_t hS s_64) rfl f_11_275_11 rfl ?_
    refine zw_push hm_134 dX11_numberToken_15 (v := .inr (.inr (some 64))) rfl ?_
    refine zw_gf hm_134 dX11_numberToken_16 (v := .inl (mI S 64 2)) (zT_is hS s_64) (zT_t hS s_64) rfl f_11_92_11 rfl ?_
    refine zw_stk hm_134 dX11_numberToken_19 (st₉ := [.inl ((mI S 64 3) - (mI S 64 2))]) rfl rfl ?_
    refine zw_push hm_134 dX11_numberToken_20 (v := .inl (5 : Int32)) rfl ?_
    refine zw_if2 hm_134 dX11_numberToken_21 (t := 26) rfl zc2_le ?_ ?_
    · intro hc
      rw [if_pos hc] at h
      refine zw_push hm_134 dX11_numberToken_26 (v := .inl (0 : Int32)) rfl ?_
      refine zw_sto hm_134 dX11_numberToken_27 [(3, .inl (0 : Int32)), (0, .inr (.inr (some 64))), (1, .inl a), (2, .inl b)] rfl rfl rfl ?_
      refine zw_push hm_134 dX11_numberToken_28 (v := .inr (.inr (some 64))) rfl ?_
      refine zw_gf hm_134 dX11_numberToken_29 (v := .inl (mI S 64 2)) (zT_is hS s_64) (zT_t hS s_64) rfl f_11_92_11 rfl ?_
      refine zw_sto hm_134 dX11_numberToken_32 [(4, .inl (mI S 64 2)), (3, .inl (0 : Int32)), (0, .inr (.inr (some 64))), (1, .inl a), (2, .inl b)] rfl rfl rfl ?_
      exact zw_sub (ma_nd_of (ks := [0, 1, 2, 3, 4]) rfl (by decide)) (ma_nd_of (ks := [4, 3, 0, 1, 2]) rfl (by decide)) (ma_le_cons rfl (ma_le_cons rfl (ma_le_cons rfl (ma_le_cons rfl (ma_le_cons rfl (ma_le_nil _)))))) h
    · intro hc
      rw [if_neg hc] at h
      refine zw_push hm_134 dX11_numberToken_24 (v := .inl (-1 : Int32)) rfl ?_
      exact zw_iret hm_134 dX11_numberToken_25 h
theorem g_134_64_sq_34 {X : Nat × (Nat → Int32)} {d w : Nat} {S : ma_S} {Q : Option ma_V ⊕ Nat → ma_S → Prop} (l1 : Int32) (l2 : Int32) (l3 : Int32) (l4 : Int32) (hd : 0 ≤ d) (hw : 0 ≤ w) (hS : zT S) (h : if (mI S 64 3) ≤ l4 then (if l3 < l1 then (Q (.inl (some (.inl (-1 : Int32)))) S) else (if l2 < l3 then (Q (.inl (some (.inl (-1 : Int32)))) S) else (Q (.inl (some (.inl l3))) S))) else (if (100 : Int32) ≤ l4 then (if l3 < l1 then (Q (.inl (some (.inl (-1 : Int32)))) S) else (if l2 < l3 then (Q (.inl (some (.inl (-1 : Int32)))) S) else (Q (.inl (some (.inl l3))) S))) else ((0 ≤ l4 ∧ l4.toNatClampNeg < 100) ∧ (if ((mI S 65 l4.toNatClampNeg) - (48 : Int32)) < 0 then (Q (.inl (some (.inl (-1 : Int32)))) S) else (if ((mI S 65 l4.toNatClampNeg) - (48 : Int32)) ≤ (9 : Int32) then (ma_wp X d w 134 34 [(0, .inr (.inr (some 64))), (1, .inl l1), (2, .inl l2), (3, .inl ((l3 * (10 : Int32)) + ((mI S 65 l4.toNatClampNeg) - (48 : Int32)))), (4, .inl (l4 + (1 : Int32)))] [] S Q) else (Q (.inl (some (.inl (-1 : Int32)))) S)))))) : ma_wp X d w 134 34 [(0, .inr (.inr (some 64))), (1, .inl l1), (2, .inl l2), (3, .inl l3), (4, .inl l4)] [] S Q := by
  refine zw_push hm_134 dX11_numberToken_34 (v := .inl l4) rfl ?_
  refine zw_push hm_134 dX11_numberToken_36 (v := .inr (.inr (some 64))) rfl ?_
  refine zw_gf hm_134 dX11_numberToken_37 (v := .inl (mI S 64 3)) (zT_is hS s_64) (zT_t hS s_64) rfl f_11_275_11 rfl ?_
  refine zw_if2 hm_134 dX11_numberToken_40 (t := 90) rfl zc2_ge ?_ ?_
  · intro hc
    rw [if_pos hc] at h
    refine zw_push hm_134 dX11_numberToken_90 (v := .inl l3) rfl ?_
    refine zw_push hm_134 dX11_numberToken_91 (v := .inl l1) rfl ?_
    refine zw_if2 hm_134 dX11_numberToken_92 (t := 104) rfl zc2_lt ?_ ?_
    · intro hc
      rw [if_pos hc] at h
      refine zw_push hm_134 dX11_numberToken_104 (v := .inl (-1 : Int32)) rfl ?_
      exact zw_iret hm_134 dX11_numberToken_105 h
    · intro hc
      rw [if_neg hc] at h
      refine zw_push hm_134 dX11_numberToken_95 (v := .inl l3) rfl ?_
      refine zw_push hm_134 dX11_numberToken_96 (v := .inl l2) rfl ?_
      refine zw_if2 hm_134 dX11_numberToken_97 (t := 104) rfl zc2_gt ?_ ?_
      · intro hc
        rw [if_pos hc] at h
        refine zw_push hm_134 dX11_numberToken_104 (v := .inl (-1 : Int32)) rfl ?_
        exact zw_iret hm_134 dX11_numberToken_105 h
      · intro hc
        rw [if_neg hc] at h
        refine zw_push hm_134 dX11_numberToken_100 (v := .inl l3) rfl ?_
        refine zw_goto hm_134 dX11_numberToken_101 (t := 105) rfl ?_
        exact zw_iret hm_134 dX11_numberToken_105 h
  · intro hc
    rw [if_neg hc] at h
    refine zw_push hm_134 dX11_numberToken_43 (v := .inl l4) rfl ?_
    refine zw_push hm_134 dX11_numberToken_45 (v := .inl (100 : Int32)) rfl ?_
    refine zw_if2 hm_134 dX11_numberToken_47 (t := 90) rfl zc2_ge ?_ ?_
    · intro hc
      rw [if_pos hc] at h
      refine zw_push hm_134 dX11_numberToken_90 (v := .inl l3) rfl ?_
      refine zw_push hm_134 dX11_numberToken_91 (v := .inl l1) rfl ?_
      refine zw_if2 hm_134 dX11_numberToken_92 (t := 104) rfl zc2_lt ?_ ?_
      · intro hc
        rw [if_pos hc] at h
        refine zw_push hm_134 dX11_numberToken_104 (v := .inl (-1 : Int32)) rfl ?_
        exact zw_iret hm_134 dX11_numberToken_105 h
      · intro hc
        rw [if_neg hc] at h
        refine zw_push hm_134 dX11_numberToken_95 (v := .inl l3) rfl ?_
        refine zw_push hm_134 dX11_numberToken_96 (v := .inl l2) rfl ?_
        refine zw_if2 hm_134 dX11_numberToken_97 (t := 104) rfl zc2_gt ?_ ?_
        · intro hc
          rw [if_pos hc] at h
          refine zw_push hm_134 dX11_numberToken_104 (v := .inl (-1 : Int32)) rfl ?_
          exact zw_iret hm_134 dX11_numberToken_105 h
        · intro hc
          rw [if_neg hc] at h
          refine zw_push hm_134 dX11_numberToken_100 (v := .inl l3) rfl ?_
          refine zw_goto hm_134 dX11_numberToken_101 (t := 105) rfl ?_
          exact zw_iret hm_134 dX11_numberToken_105 h
    · intro hc
      rw [if_neg hc] at h
      refine zw_push hm_134 dX11_numberToken_50 (v := .inr (.inr (some 64))) rfl ?_
      refine zw_gf hm_134 dX11_numberToken_51 (v := .inr (.inr (some 65))) (zT_is hS s_64) (zT_t hS s_64) rfl f_11_9_11 (zT_f hS r_64_0) ?_
      refine zw_push hm_134 dX11_numberToken_54 (v := .inl l4) rfl ?_
      obtain ⟨hg, h⟩ := h
      refine zw_ba hm_134 dX11_numberToken_56 (zT_is hS s_65) (zT_h hS s_65) rfl rfl hg ?_
      show ma_wp X d w 134 57 [(0, .inr (.inr (some 64))), (1, .inl l1), (2, .inl l2), (3, .inl l3), (4, .inl l4)] [.inl (mI S 65 l4.toNatClampNeg)] S _
      refine zw_push hm_134 dX11_numberToken_57 (v := .inl (48 : Int32)) rfl ?_
      refine zw_stk hm_134 dX11_numberToken_59 (st₉ := [.inl ((mI S 65 l4.toNatClampNeg) - (48 : Int32))]) rfl rfl ?_
      refine zw_sto hm_134 dX11_numberToken_60 [(5, .inl ((mI S 65 l4.toNatClampNeg) - (48 : Int32))), (0, .inr (.inr (some 64))), (1, .inl l1), (2, .inl l2), (3, .inl l3), (4, .inl l4)] rfl rfl rfl ?_
      refine zw_push hm_134 dX11_numberToken_62 (v := .inl ((mI S 65 l4.toNatClampNeg) - (48 : Int32))) rfl ?_
      refine zw_if0 hm_134 dX11_numberToken_64 (t := 74) rfl zc0_lt ?_ ?_
      · intro hc
        rw [if_pos hc] at h
        refine zw_push hm_134 dX11_numberToken_74 (v := .inl (-1 : Int32)) rfl ?_
        exact zw_iret hm_134 dX11_numberToken_75 h
      · intro hc
        rw [if_neg hc] at h
        refine zw_push hm_134 dX11_numberToken_67 (v := .inl ((mI S 65 l4.toNatClampNeg) - (48 : Int32))) rfl ?_
        refine zw_push hm_134 dX11_numberToken_69 (v := .inl (9 : Int32)) rfl ?_
        refine zw_if2 hm_134 dX11_numberToken_71 (t := 76) rfl zc2_le ?_ ?_
        · intro hc
          rw [if_pos hc] at h
          refine zw_push hm_134 dX11_numberToken_76 (v := .inl l3) rfl ?_
          refine zw_push hm_134 dX11_numberToken_77 (v := .inl (10 : Int32)) rfl ?_
          refine zw_stk hm_134 dX11_numberToken_79 (st₉ := [.inl (l3 * (10 : Int32))]) rfl rfl ?_
          refine zw_push hm_134 dX11_numberToken_80 (v := .inl ((mI S 65 l4.toNatClampNeg) - (48 : Int32))) rfl ?_
          refine zw_stk hm_134 dX11_numberToken_82 (st₉ := [.inl ((l3 * (10 : Int32)) + ((mI S 65 l4.toNatClampNeg) - (48 : Int32)))]) rfl rfl ?_
          refine zw_sto hm_134 dX11_numberToken_83 [(3, .inl ((l3 * (10 : Int32)) + ((mI S 65 l4.toNatClampNeg) - (48 : Int32)))), (5, .inl ((mI S 65 l4.toNatClampNeg) - (48 : Int32))), (0, .inr (.inr (some 64))), (1, .inl l1), (2, .inl l2), (4, .inl l4)] rfl rfl rfl ?_
          refine zw_sto hm_134 dX11_numberToken_84 [(4, .inl (l4 + (1 : Int32))), (3, .inl ((l3 * (10 : Int32)) + ((mI S 65 l4.toNatClampNeg) - (48 : Int32)))), (5, .inl ((mI S 65 l4.toNatClampNeg) - (48 : Int32))), (0, .inr (.inr (some 64))), (1, .inl l1), (2, .inl l2)] rfl rfl rfl ?_
          refine zw_goto hm_134 dX11_numberToken_87 (t := 34) rfl ?_
          exact zw_sub (ma_nd_of (ks := [0, 1, 2, 3, 4]) rfl (by decide)) (ma_nd_of (ks := [4, 3, 5, 0, 1, 2]) rfl (by decide)) (ma_le_cons rfl (ma_le_cons rfl (ma_le_cons rfl (ma_le_cons rfl (ma_le_cons rfl (ma_le_nil _)))))) h
        · intro hc
          rw [if_neg hc] at h
          refine zw_push hm_134 dX11_numberToken_74 (v := .inl (-1 : Int32)) rfl ?_
          exact zw_iret hm_134 dX11_numberToken_75 h
theorem lp_134_64_sq_34 {X : Nat × (Nat → Int32)} {d w : Nat} {f : Nat → Nat → Int32} {r : Nat → Nat → Option Nat} {C Z N : Nat} {Q : Option ma_V ⊕ Nat → ma_S → Prop} {I0 : Nat→Nat→Int32} {L0 : Nat→Nat→Int64} {R0 : zRT} {a : Int32} {b : Int32} (hd : 0 ≤ d) (hw : 0 ≤ w) (K : ∀ v S₉, zY0 f r C Z N S₉ → (v.toInt = -1 ∨ (a.toInt ≤ v.toInt ∧ v.toInt ≤ b.toInt)) → (v.toInt = zNum (f 65) (f 64 2).toInt (f 64 3).toInt a.toInt b.toInt) → (zFm I0 L0 R0 S₉) → Q (.inl (some (.inl v))) S₉) : ∀ (n : Nat) (S : ma_S) (l1 : Int32) (l2 : Int32) (l3 : Int32) (l4 : Int32), (100 - l4.toInt).toNat = n → zY0 f r C Z N S → (0 ≤ l4.toInt) → (l1.toInt = a.toInt) → (l2.toInt = b.toInt) → ((f 64 2).toInt ≤ l4.toInt ∧ l4.toInt ≤ (f 64 3).toInt ∧ (f 64 2).toInt < (f 64 3).toInt ∧ (f 64 3).toInt - (f 64 2).toInt ≤ 5 ∧ (f 64 3).toInt ≤ 100 ∧ 0 ≤ (f 64 2).toInt) → (zfo (f 65) (f 64 3).toInt l4.toInt l3.toInt = zfo (f 65) (f 64 3).toInt (f 64 2).toInt 0) → (zok (f 64 2).toInt l4.toInt l3.toInt) → (zFm I0 L0 R0 S) → ma_wp X d w 134 34 [(0, .inr (.inr (some 64))), (1, .inl l1), (2, .inl l2), (3, .inl l3), (4, .inl l4)] [] S Q := by
  intro n
  induction n using Nat.strongRecOn with
  | _ n IH =>
    intro S l1 l2 l3 l4 hmu hI  hi0 hi1 hi2 hi3 hi4 hi5 hi6
    refine g_134_64_sq_34 l1 l2 l3 l4 (by omega) (by omega) (zG_T hI) ?_
    have zk : ¬ l4.toInt < (f 64 3).toInt ∨ (0 ≤ l3.toInt ∧ l3.toInt ≤ 9999) := by
      by_cases c : l4.toInt < (f 64 3).toInt
      · exact Or.inr (zok_4 hi5 (by omega))
      · exact Or.inl c
    have dg := i_dig (mI S 65 l4.toNatClampNeg)
    have z5 := zok_5 hi5 (by omega)
    have q1 : (mI S 64 3).toInt = (f 64 3).toInt := zG_zi hI rfl
    have f2 := zG_s hI (0) (100) (c := 64) (k := 3) (by decide)
    have b3 := i_bd l4
    refine zd (fun h4 => ?_) (fun h4 => ?_)
    · skip
      have g5 := i_le h4
      have b6 := i_bd l3
      have b7 := i_bd l1
      refine zd (fun h8 => ?_) (fun h8 => ?_)
      · skip
        have g9 := i_lt h8
        have li10 : (-1 : Int32).toInt = -1 := rfl
        exact K ((-1 : Int32)) _ hI (by omega) (show (-1 : Int32).toInt = zNum (f 65) (f 64 2).toInt (f 64 3).toInt a.toInt b.toInt from by first | (exact (zNum_no (by omega)).symm) | (exact (zNum_in (by omega) (hi4.symm.trans (zfo_end (by omega))) (by omega) (by omega) (by omega)).symm) | (exact (zNum_out (hi4.symm.trans (zfo_end (by omega))) (by omega)).symm) | (exact (zNum_bad (hi4.symm.trans (zfo_bad (x := mI S 65 l4.toNatClampNeg) (by omega) (zG_z hI rfl) (by omega)))).symm) | (omega) | (exfalso; omega)) (show zFm I0 L0 R0 S from by first | (exact hi6))
      · skip
        have g11 := i_nlt h8
        have b12 := i_bd l2
        refine zd (fun h13 => ?_) (fun h13 => ?_)
        · skip
          have g14 := i_lt h13
          have li15 : (-1 : Int32).toInt = -1 := rfl
          exact K ((-1 : Int32)) _ hI (by omega) (show (-1 : Int32).toInt = zNum (f 65) (f 64 2).toInt (f 64 3).toInt a.toInt b.toInt from by first | (exact (zNum_no (by omega)).symm) | (exact (zNum_in (by omega) (hi4.symm.trans (zfo_end (by omega))) (by omega) (by omega) (by omega)).symm) | (exact (zNum_out (hi4.symm.trans (zfo_end (by omega))) (by omega)).symm) | (exact (zNum_bad (hi4.symm.trans (zfo_bad (x := mI S 65 l4.toNatClampNeg) (by omega) (zG_z hI rfl) (by omega)))).symm) | (omega) | (exfalso; omega)) (show zFm I0 L0 R0 S from by first | (exact hi6))
        · skip
          have g16 := i_nlt h13
          exact K (l3) _ hI (by omega) (show l3.toInt = zNum (f 65) (f 64 2).toInt (f 64 3).toInt a.toInt b.toInt from by first | (exact (zNum_no (by omega)).symm) | (exact (zNum_in (by omega) (hi4.symm.trans (zfo_end (by omega))) (by omega) (by omega) (by omega)).symm) | (exact (zNum_out (hi4.symm.trans (zfo_end (by omega))) (by omega)).symm) | (exact (zNum_bad (hi4.symm.trans (zfo_bad (x := mI S 65 l4.toNatClampNeg) (by omega) (zG_z hI rfl) (by omega)))).symm) | (omega) | (exfalso; omega)) (show zFm I0 L0 R0 S from by first | (exact hi6))
    · skip
      have g17 := i_nle h4
      have li18 : (100 : Int32).toInt = 100 := rfl
      refine zd (fun h19 => ?_) (fun h19 => ?_)
      · skip
        have g20 := i_le h19
        have b21 := i_bd l3
        have b22 := i_bd l1
        refine zd (fun h23 => ?_) (fun h23 => ?_)
        · skip
          have g24 := i_lt h23
          have li25 : (-1 : Int32).toInt = -1 := rfl
          exact K ((-1 : Int32)) _ hI (by omega) (show (-1 : Int32).toInt = zNum (f 65) (f 64 2).toInt (f 64 3).toInt a.toInt b.toInt from by first | (exact (zNum_no (by omega)).symm) | (exact (zNum_in (by omega) (hi4.symm.trans (zfo_end (by omega))) (by omega) (by omega) (by omega)).symm) | (exact (zNum_out (hi4.symm.trans (zfo_end (by omega))) (by omega)).symm) | (exact (zNum_bad (hi4.symm.trans (zfo_bad (x := mI S 65 l4.toNatClampNeg) (by omega) (zG_z hI rfl) (by omega)))).symm) | (omega) | (exfalso; omega)) (show zFm I0 L0 R0 S from by first | (exact hi6))
        · skip
          have g26 := i_nlt h23
          have b27 := i_bd l2
          refine zd (fun h28 => ?_) (fun h28 => ?_)
          · skip
            have g29 := i_lt h28
            have li30 : (-1 : Int32).toInt = -1 := rfl
            exact K ((-1 : Int32)) _ hI (by omega) (show (-1 : Int32).toInt = zNum (f 65) (f 64 2).toInt (f 64 3).toInt a.toInt b.toInt from by first | (exact (zNum_no (by omega)).symm) | (exact (zNum_in (by omega) (hi4.symm.trans (zfo_end (by omega))) (by omega) (by omega) (by omega)).symm) | (exact (zNum_out (hi4.symm.trans (zfo_end (by omega))) (by omega)).symm) | (exact (zNum_bad (hi4.symm.trans (zfo_bad (x := mI S 65 l4.toNatClampNeg) (by omega) (zG_z hI rfl) (by omega)))).symm) | (omega) | (exfalso; omega)) (show zFm I0 L0 R0 S from by first | (exact hi6))
          · skip
            have g31 := i_nlt h28
            exact K (l3) _ hI (by omega) (show l3.toInt = zNum (f 65) (f 64 2).toInt (f 64 3).toInt a.toInt b.toInt from by first | (exact (zNum_no (by omega)).symm) | (exact (zNum_in (by omega) (hi4.symm.trans (zfo_end (by omega))) (by omega) (by omega) (by omega)).symm) | (exact (zNum_out (hi4.symm.trans (zfo_end (by omega))) (by omega)).symm) | (exact (zNum_bad (hi4.symm.trans (zfo_bad (x := mI S 65 l4.toNatClampNeg) (by omega) (zG_z hI rfl) (by omega)))).symm) | (omega) | (exfalso; omega)) (show zFm I0 L0 R0 S from by first | (exact hi6))
      · skip
        have g32 := i_nle h19
        refine ⟨i_ix (by omega) (by omega), ?_⟩
        have q33 : (mI S 65 l4.toNatClampNeg).toInt = (f 65 l4.toNatClampNeg).toInt := zG_zi hI rfl
        have b34 := i_bd (mI S 65 l4.toNatClampNeg)
        first | have e35 : ((mI S 65 l4.toNatClampNeg) - (48 : Int32)).toInt = (mI S 65 l4.toNatClampNeg).toInt - (48) := i_subk rfl (by omega) (by omega) | have b36 := i_bd ((mI S 65 l4.toNatClampNeg) - (48 : Int32))
        have li37 : (0 : Int32).toInt = 0 := rfl
        refine zd (fun h38 => ?_) (fun h38 => ?_)
        · skip
          have g39 := i_lt h38
          have li40 : (-1 : Int32).toInt = -1 := rfl
          exact K ((-1 : Int32)) _ hI (by omega) (show (-1 : Int32).toInt = zNum (f 65) (f 64 2).toInt (f 64 3).toInt a.toInt b.toInt from by first | (exact (zNum_no (by omega)).symm) | (exact (zNum_in (by omega) (hi4.symm.trans (zfo_end (by omega))) (by omega) (by omega) (by omega)).symm) | (exact (zNum_out (hi4.symm.trans (zfo_end (by omega))) (by omega)).symm) | (exact (zNum_bad (hi4.symm.trans (zfo_bad (x := mI S 65 l4.toNatClampNeg) (by omega) (zG_z hI rfl) (by omega)))).symm) | (omega) | (exfalso; omega)) (show zFm I0 L0 R0 S from by first | (exact hi6))
        · skip
          have g41 := i_nlt h38
          have li42 : (9 : Int32).toInt = 9 := rfl
          refine zd (fun h43 => ?_) (fun h43 => ?_)
          · skip
            have g44 := i_le h43
            have b45 := i_bd l1
            have b46 := i_bd l2
            have b47 := i_bd l3
            have li48 : (10 : Int32).toInt = 10 := rfl
            first | have e49 : (l3 * (10 : Int32)).toInt = l3.toInt * 10 := i_mulk rfl (by omega) (by omega) | have b50 := i_bd (l3 * (10 : Int32))
            first | have e51 : ((l3 * (10 : Int32)) + ((mI S 65 l4.toNatClampNeg) - (48 : Int32))).toInt = (l3 * (10 : Int32)).toInt + ((mI S 65 l4.toNatClampNeg) - (48 : Int32)).toInt := i_add (by omega) (by omega) | have b52 := i_bd ((l3 * (10 : Int32)) + ((mI S 65 l4.toNatClampNeg) - (48 : Int32)))
            first | have e53 : (l4 + (1 : Int32)).toInt = l4.toInt + (1) := i_addk rfl (by omega) (by omega) | have b54 := i_bd (l4 + (1 : Int32))
            exact IH _ (by omega) _ (l1) (l2) (((l3 * (10 : Int32)) + ((mI S 65 l4.toNatClampNeg) - (48 : Int32)))) ((l4 + (1 : Int32))) rfl hI (by omega) (by omega) (by omega) (show (f 64 2).toInt ≤ ((l4 + (1 : Int32))).toInt ∧ ((l4 + (1 : Int32))).toInt ≤ (f 64 3).toInt ∧ (f 64 2).toInt < (f 64 3).toInt ∧ (f 64 3).toInt - (f 64 2).toInt ≤ 5 ∧ (f 64 3).toInt ≤ 100 ∧ 0 ≤ (f 64 2).toInt from by omega) (show zfo (f 65) (f 64 3).toInt ((l4 + (1 : Int32))).toInt (((l3 * (10 : Int32)) + ((mI S 65 l4.toNatClampNeg) - (48 : Int32)))).toInt = zfo (f 65) (f 64 3).toInt (f 64 2).toInt 0 from by first | (exact congrArg (fun q => zfo (f 65) (f 64 3).toInt q 0) (show (mI S 64 2).toInt = (f 64 2).toInt from by omega)) | (exact (zfo_go (x := mI S 65 l4.toNatClampNeg) (by omega) (zG_z hI rfl) (by omega) (by omega) (by omega) (by omega)).symm.trans hi4) | (omega) | (exfalso; omega)) (show zok (f 64 2).toInt ((l4 + (1 : Int32))).toInt (((l3 * (10 : Int32)) + ((mI S 65 l4.toNatClampNeg) - (48 : Int32)))).toInt from by first | (exact (show (mI S 64 2).toInt = (f 64 2).toInt by omega) ▸ zok_0) | (exact zok_st hi5 (by omega) (show 0 ≤ ((mI S 65 l4.toNatClampNeg) - (48 : Int32)).toInt by omega) (by omega) (by omega) (by omega)) | (omega) | (exfalso; omega)) (show zFm I0 L0 R0 S from by first | (exact hi6))
          · skip
            have g55 := i_nle h43
            have li56 : (-1 : Int32).toInt = -1 := rfl
            exact K ((-1 : Int32)) _ hI (by omega) (show (-1 : Int32).toInt = zNum (f 65) (f 64 2).toInt (f 64 3).toInt a.toInt b.toInt from by first | (exact (zNum_no (by omega)).symm) | (exact (zNum_in (by omega) (hi4.symm.trans (zfo_end (by omega))) (by omega) (by omega) (by omega)).symm) | (exact (zNum_out (hi4.symm.trans (zfo_end (by omega))) (by omega)).symm) | (exact (zNum_bad (hi4.symm.trans (zfo_bad (x := mI S 65 l4.toNatClampNeg) (by omega) (zG_z hI rfl) (by omega)))).symm) | (omega) | (exfalso; omega)) (show zFm I0 L0 R0 S from by first | (exact hi6))
theorem sp_134_64_sq {X : Nat × (Nat → Int32)} {d w : Nat} {f : Nat → Nat → Int32} {r : Nat → Nat → Option Nat} {C Z N : Nat} {Q : Option ma_V ⊕ Nat → ma_S → Prop} {I0 : Nat→Nat→Int32} {L0 : Nat→Nat→Int64} {R0 : zRT} {S : ma_S} (a : Int32) (b : Int32) (hd : 0 ≤ d) (hw : 0 ≤ w) (hI : zY0 f r C Z N S) (hpre0 : (mI S 64 2).toInt ≤ (mI S 64 3).toInt) (hpre1 : zFm I0 L0 R0 S) (K : ∀ v S₉, zY0 f r C Z N S₉ → (v.toInt = -1 ∨ (a.toInt ≤ v.toInt ∧ v.toInt ≤ b.toInt)) → (v.toInt = zNum (f 65) (f 64 2).toInt (f 64 3).toInt a.toInt b.toInt) → (zFm I0 L0 R0 S₉) → Q (.inl (some (.inl v))) S₉) : ma_wp X d w 134 0 [(0, .inr (.inr (some 64))), (1, .inl a), (2, .inl b)] [] S Q := by
  refine g_134_64_sq_0 a b (by omega) (by omega) (zG_T hI) ?_
  have q1 : (mI S 64 2).toInt = (f 64 2).toInt := zG_zi hI rfl
  have f2 := zG_s hI (0) (100) (c := 64) (k := 2) (by decide)
  have q3 : (mI S 64 3).toInt = (f 64 3).toInt := zG_zi hI rfl
  have f4 := zG_s hI (0) (100) (c := 64) (k := 3) (by decide)
  refine zd (fun h5 => ?_) (fun h5 => ?_)
  · skip
    have g6 := i_eq h5
    have li7 : (-1 : Int32).toInt = -1 := rfl
    exact K ((-1 : Int32)) _ hI (by omega) (show (-1 : Int32).toInt = zNum (f 65) (f 64 2).toInt (f 64 3).toInt a.toInt b.toInt from by first | (exact (zNum_no (by omega)).symm) | (omega) | (exfalso; omega)) (show zFm I0 L0 R0 S from by first | (exact hpre1))
  · skip
    have g8 := i_ne h5
    first | have e9 : ((mI S 64 3) - (mI S 64 2)).toInt = (mI S 64 3).toInt - (mI S 64 2).toInt := i_sub (by omega) (by omega) | have b10 := i_bd ((mI S 64 3) - (mI S 64 2))
    have li11 : (5 : Int32).toInt = 5 := rfl
    refine zd (fun h12 => ?_) (fun h12 => ?_)
    · skip
      have g13 := i_le h12
      have b14 := i_bd a
      have b15 := i_bd b
      have li16 : (0 : Int32).toInt = 0 := rfl
      exact lp_134_64_sq_34 (by omega) (by omega) K _ _ (a) (b) ((0 : Int32)) ((mI S 64 2)) rfl hI (by omega) (by omega) (by omega) (show (f 64 2).toInt ≤ ((mI S 64 2)).toInt ∧ ((mI S 64 2)).toInt ≤ (f 64 3).toInt ∧ (f 64 2).toInt < (f 64 3).toInt ∧ (f 64 3).toInt - (f 64 2).toInt ≤ 5 ∧ (f 64 3).toInt ≤ 100 ∧ 0 ≤ (f 64 2).toInt from by omega) (show zfo (f 65) (f 64 3).toInt ((mI S 64 2)).toInt ((0 : Int32)).toInt = zfo (f 65) (f 64 3).toInt (f 64 2).toInt 0 from by first | (exact congrArg (fun q => zfo (f 65) (f 64 3).toInt q 0) (show (mI S 64 2).toInt = (f 64 2).toInt from by omega)) | (omega) | (exfalso; omega)) (show zok (f 64 2).toInt ((mI S 64 2)).toInt ((0 : Int32)).toInt from by first | (exact (show (mI S 64 2).toInt = (f 64 2).toInt by omega) ▸ zok_0) | (omega) | (exfalso; omega)) (show zFm I0 L0 R0 S from by first | (exact hpre1))
    · skip
      have g17 := i_nle h12
      have li18 : (-1 : Int32).toInt = -1 := rfl
      exact K ((-1 : Int32)) _ hI (by omega) (show (-1 : Int32).toInt = zNum (f 65) (f 64 2).toInt (f 64 3).toInt a.toInt b.toInt from by first | (exact (zNum_no (by omega)).symm) | (omega) | (exfalso; omega)) (show zFm I0 L0 R0 S from by first | (exact hpre1))

