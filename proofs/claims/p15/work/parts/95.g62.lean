/-! the heap by numbers, the class (written by wip/tools/gen18.py) -/
theorem g_135_64_s_0 {X : Nat × (Nat → Int32)} {d w : Nat} {S : ma_S} {Q : Option ma_V ⊕ Nat → ma_S → Prop}  (hd : 6 ≤ d) (hw : 122 ≤ w) (hS : zT S) (h : ma_wp X (d - 1) (w - 22) 131 0 [(0, .inr (.inr (some 64))), (1, .inr (.inr (some 13)))] [] S (zi (fun v2 S1 => zT S1 ∧ (if v2 = 0 then (ma_wp X (d - 1) (w - 22) 131 0 [(0, .inr (.inr (some 64))), (1, .inr (.inr (some 14)))] [] S1 (zi (fun v4 S3 => zT S3 ∧ (if v4 = 0 then (ma_wp X (d - 1) (w - 22) 131 0 [(0, .inr (.inr (some 64))), (1, .inr (.inr (some 15)))] [] S3 (zi (fun v6 S5 => zT S5 ∧ (if v6 = 0 then (ma_wp X (d - 1) (w - 22) 131 0 [(0, .inr (.inr (some 64))), (1, .inr (.inr (some 16)))] [] S5 (zi (fun v8 S7 => zT S7 ∧ (if v8 = 0 then (Q (.inl (some (.inl (-1 : Int32)))) S7) else (Q (.inl (some (.inl (3 : Int32)))) S7))) (fun x S9 => Q (.inr x) S9))) else (Q (.inl (some (.inl (2 : Int32)))) S5))) (fun x S9 => Q (.inr x) S9))) else (Q (.inl (some (.inl (1 : Int32)))) S3))) (fun x S9 => Q (.inr x) S9))) else (Q (.inl (some (.inl (0 : Int32)))) S1))) (fun x S9 => Q (.inr x) S9))) : ma_wp X d w 135 0 [(0, .inr (.inr (some 64)))] [] S Q := by
  refine zw_push hm_135 dX11_formToken_0 (v := .inr (.inr (some 64))) rfl ?_
  refine zw_txc hm_135 dX11_formToken_1 txi_11_346 ?_
  refine zw_cv hm_135 dX11_formToken_4 v_11_303_11 hm_131 [.inr (.inr (some 13))] [] rfl (zT_rt hS s_64 rfl) ⟨by omega, by omega⟩ rfl (zw_mono h (zi_go ?_ ?_))
  · intro v2 S1 hv
    obtain ⟨hS1, h⟩ := hv
    refine zw_if0 hm_135 dX11_formToken_7 (t := 12) rfl zc0_eq ?_ ?_
    · intro hc
      rw [if_pos hc] at h
      refine zw_push hm_135 dX11_formToken_12 (v := .inr (.inr (some 64))) rfl ?_
      refine zw_txc hm_135 dX11_formToken_13 txi_11_348 ?_
      refine zw_cv hm_135 dX11_formToken_16 v_11_303_11 hm_131 [.inr (.inr (some 14))] [] rfl (zT_rt hS1 s_64 rfl) ⟨by omega, by omega⟩ rfl (zw_mono h (zi_go ?_ ?_))
      · intro v4 S3 hv
        obtain ⟨hS3, h⟩ := hv
        refine zw_if0 hm_135 dX11_formToken_19 (t := 24) rfl zc0_eq ?_ ?_
        · intro hc
          rw [if_pos hc] at h
          refine zw_push hm_135 dX11_formToken_24 (v := .inr (.inr (some 64))) rfl ?_
          refine zw_txc hm_135 dX11_formToken_25 txi_11_350 ?_
          refine zw_cv hm_135 dX11_formToken_28 v_11_303_11 hm_131 [.inr (.inr (some 15))] [] rfl (zT_rt hS3 s_64 rfl) ⟨by omega, by omega⟩ rfl (zw_mono h (zi_go ?_ ?_))
          · intro v6 S5 hv
            obtain ⟨hS5, h⟩ := hv
            refine zw_if0 hm_135 dX11_formToken_31 (t := 36) rfl zc0_eq ?_ ?_
            · intro hc
              rw [if_pos hc] at h
              refine zw_push hm_135 dX11_formToken_36 (v := .inr (.inr (some 64))) rfl ?_
              refine zw_txc hm_135 dX11_formToken_37 txi_11_352 ?_
              refine zw_cv hm_135 dX11_formToken_40 v_11_303_11 hm_131 [.inr (.inr (some 16))] [] rfl (zT_rt hS5 s_64 rfl) ⟨by omega, by omega⟩ rfl (zw_mono h (zi_go ?_ ?_))
              · intro v8 S7 hv
                obtain ⟨hS7, h⟩ := hv
                refine zw_if0 hm_135 dX11_formToken_43 (t := 50) rfl zc0_eq ?_ ?_
                · intro hc
                  rw [if_pos hc] at h
                  refine zw_push hm_135 dX11_formToken_50 (v := .inl (-1 : Int32)) rfl ?_
                  exact zw_iret hm_135 dX11_formToken_51 h
                · intro hc
                  rw [if_neg hc] at h
                  refine zw_push hm_135 dX11_formToken_46 (v := .inl (3 : Int32)) rfl ?_
                  refine zw_goto hm_135 dX11_formToken_47 (t := 51) rfl ?_
                  exact zw_iret hm_135 dX11_formToken_51 h
              · intro x S9 hx
                exact ⟨by decide, hx⟩
            · intro hc
              rw [if_neg hc] at h
              refine zw_push hm_135 dX11_formToken_34 (v := .inl (2 : Int32)) rfl ?_
              exact zw_iret hm_135 dX11_formToken_35 h
          · intro x S9 hx
            exact ⟨by decide, hx⟩
        · intro hc
          rw [if_neg hc] at h
          refine zw_push hm_135 dX11_formToken_22 (v := .inl (1 : Int32)) rfl ?_
          exact zw_iret hm_135 dX11_formToken_23 h
      · intro x S9 hx
        exact ⟨by decide, hx⟩
    · intro hc
      rw [if_neg hc] at h
      refine zw_push hm_135 dX11_formToken_10 (v := .inl (0 : Int32)) rfl ?_
      exact zw_iret hm_135 dX11_formToken_11 h
  · intro x S9 hx
    exact ⟨by decide, hx⟩
theorem sp_135_64_s {X : Nat × (Nat → Int32)} {d w : Nat} {f : Nat → Nat → Int32} {r : Nat → Nat → Option Nat} {C Z N : Nat} {Q : Option ma_V ⊕ Nat → ma_S → Prop} {R : zRT} {a8 : Nat→Nat→Int32} {S : ma_S}  (hd : 6 ≤ d) (hw : 122 ≤ w) (hI : zY0 f r C Z N S) (hpre0 : xB S R) (hpre1 : aS 88 S = a8) (K : ∀ v S', zY0 f r C Z N S' → (-1 ≤ v.toInt ∧ v.toInt ≤ 3) → (v.toInt = zForm (f 65) (f 64 2) ((f 64 3).toInt - (f 64 2).toInt)) → (xB S' R) → (aS 88 S' = a8) → Q (.inl (some (.inl v))) S') : ma_wp X d w 135 0 [(0, .inr (.inr (some 64)))] [] S Q := by
  refine g_135_64_s_0  (by omega) (by omega) (zG_T hI) ?_
  refine sp_131_64_13_s (R := R) (a8 := a8) (by omega) (by omega) hI (show xB S R from by first | (exact (xC_o (W := 75) hpre0).2)) (show aS 88 S = a8 from by first | (exact (xC_o (W := 88) hpre0).1.trans hpre1)) (fun v2 S1 hI_S1 hp_v2 rp0_S1 rp1_S1 rp2_S1 => zi_n ⟨zG_T hI_S1, ?_⟩)
  have rp0_S1 : (v2 = 1 ∧ zwd (f 65) (f 64 2) ((f 64 3).toInt - (f 64 2).toInt) 102 105 114 115 116 0 0) ∨ (v2 = 0 ∧ ¬ zwd (f 65) (f 64 2) ((f 64 3).toInt - (f 64 2).toInt) 102 105 114 115 116 0 0) := rp0_S1
  have rp1_S1 : xB S1 R := rp1_S1
  have rp2_S1 : aS 88 S1 = a8 := rp2_S1
  have b1 := i_bd v2
  have li2 : (0 : Int32).toInt = 0 := rfl
  refine zd (fun h3 => ?_) (fun h3 => ?_)
  · skip
    have g4 := i_eq h3
    refine sp_131_64_14_s (R := R) (a8 := a8) (by omega) (by omega) hI_S1 (show xB S1 R from by first | (exact (xC_o (W := 75) rp1_S1).2)) (show aS 88 S1 = a8 from by first | (exact (xC_o (W := 88) rp1_S1).1.trans rp2_S1)) (fun v4 S3 hI_S3 hp_v4 rp0_S3 rp1_S3 rp2_S3 => zi_n ⟨zG_T hI_S3, ?_⟩)
    have rp0_S3 : (v4 = 1 ∧ zwd (f 65) (f 64 2) ((f 64 3).toInt - (f 64 2).toInt) 110 101 120 116 0 0 0) ∨ (v4 = 0 ∧ ¬ zwd (f 65) (f 64 2) ((f 64 3).toInt - (f 64 2).toInt) 110 101 120 116 0 0 0) := rp0_S3
    have rp1_S3 : xB S3 R := rp1_S3
    have rp2_S3 : aS 88 S3 = a8 := rp2_S3
    have b5 := i_bd v4
    refine zd (fun h6 => ?_) (fun h6 => ?_)
    · skip
      have g7 := i_eq h6
      refine sp_131_64_15_s (R := R) (a8 := a8) (by omega) (by omega) hI_S3 (show xB S3 R from by first | (exact (xC_o (W := 75) rp1_S3).2)) (show aS 88 S3 = a8 from by first | (exact (xC_o (W := 88) rp1_S3).1.trans rp2_S3)) (fun v6 S5 hI_S5 hp_v6 rp0_S5 rp1_S5 rp2_S5 => zi_n ⟨zG_T hI_S5, ?_⟩)
      have rp0_S5 : (v6 = 1 ∧ zwd (f 65) (f 64 2) ((f 64 3).toInt - (f 64 2).toInt) 98 101 115 116 0 0 0) ∨ (v6 = 0 ∧ ¬ zwd (f 65) (f 64 2) ((f 64 3).toInt - (f 64 2).toInt) 98 101 115 116 0 0 0) := rp0_S5
      have rp1_S5 : xB S5 R := rp1_S5
      have rp2_S5 : aS 88 S5 = a8 := rp2_S5
      have b8 := i_bd v6
      refine zd (fun h9 => ?_) (fun h9 => ?_)
      · skip
        have g10 := i_eq h9
        refine sp_131_64_16_s (R := R) (a8 := a8) (by omega) (by omega) hI_S5 (show xB S5 R from by first | (exact (xC_o (W := 75) rp1_S5).2)) (show aS 88 S5 = a8 from by first | (exact (xC_o (W := 88) rp1_S5).1.trans rp2_S5)) (fun v8 S7 hI_S7 hp_v8 rp0_S7 rp1_S7 rp2_S7 => zi_n ⟨zG_T hI_S7, ?_⟩)
        have rp0_S7 : (v8 = 1 ∧ zwd (f 65) (f 64 2) ((f 64 3).toInt - (f 64 2).toInt) 119 111 114 115 116 0 0) ∨ (v8 = 0 ∧ ¬ zwd (f 65) (f 64 2) ((f 64 3).toInt - (f 64 2).toInt) 119 111 114 115 116 0 0) := rp0_S7
        have rp1_S7 : xB S7 R := rp1_S7
        have rp2_S7 : aS 88 S7 = a8 := rp2_S7
        have b11 := i_bd v8
        refine zd (fun h12 => ?_) (fun h12 => ?_)
        · skip
          have g13 := i_eq h12
          have li14 : (-1 : Int32).toInt = -1 := rfl
          exact K ((-1 : Int32)) _ hI_S7 (by omega) (show (-1 : Int32).toInt = zForm (f 65) (f 64 2) ((f 64 3).toInt - (f 64 2).toInt) from by first | (unfold zForm; rw [if_neg (zno rp0_S1 (by assumption)), if_neg (zno rp0_S3 (by assumption)), if_neg (zno rp0_S5 (by assumption)), if_neg (zno rp0_S7 (by assumption))]; first | done | rfl) | (unfold zForm; rw [if_neg (zno rp0_S1 (by assumption)), if_neg (zno rp0_S3 (by assumption)), if_neg (zno rp0_S5 (by assumption)), if_neg (zno rp0_S7 (by assumption))]) | (omega) | (exfalso; omega)) (show xB S7 R from by first | (exact (xC_o (W := 75) rp1_S7).2)) (show aS 88 S7 = a8 from by first | (exact (xC_o (W := 88) rp1_S7).1.trans rp2_S7))
        · skip
          have g15 := i_ne h12
          have li16 : (3 : Int32).toInt = 3 := rfl
          exact K ((3 : Int32)) _ hI_S7 (by omega) (show (3 : Int32).toInt = zForm (f 65) (f 64 2) ((f 64 3).toInt - (f 64 2).toInt) from by first | (unfold zForm; rw [if_neg (zno rp0_S1 (by assumption)), if_neg (zno rp0_S3 (by assumption)), if_neg (zno rp0_S5 (by assumption)), if_pos (zyes rp0_S7 (by assumption))]; first | done | rfl) | (unfold zForm; rw [if_neg (zno rp0_S1 (by assumption)), if_neg (zno rp0_S3 (by assumption)), if_neg (zno rp0_S5 (by assumption)), if_pos (zyes rp0_S7 (by assumption))]) | (omega) | (exfalso; omega)) (show xB S7 R from by first | (exact (xC_o (W := 75) rp1_S7).2)) (show aS 88 S7 = a8 from by first | (exact (xC_o (W := 88) rp1_S7).1.trans rp2_S7))
      · skip
        have g17 := i_ne h9
        have li18 : (2 : Int32).toInt = 2 := rfl
        exact K ((2 : Int32)) _ hI_S5 (by omega) (show (2 : Int32).toInt = zForm (f 65) (f 64 2) ((f 64 3).toInt - (f 64 2).toInt) from by first | (unfold zForm; rw [if_neg (zno rp0_S1 (by assumption)), if_neg (zno rp0_S3 (by assumption)), if_pos (zyes rp0_S5 (by assumption))]; first | done | rfl) | (unfold zForm; rw [if_neg (zno rp0_S1 (by assumption)), if_neg (zno rp0_S3 (by assumption)), if_pos (zyes rp0_S5 (by assumption))]) | (omega) | (exfalso; omega)) (show xB S5 R from by first | (exact (xC_o (W := 75) rp1_S5).2)) (show aS 88 S5 = a8 from by first | (exact (xC_o (W := 88) rp1_S5).1.trans rp2_S5))
    · skip
      have g19 := i_ne h6
      have li20 : (1 : Int32).toInt = 1 := rfl
      exact K ((1 : Int32)) _ hI_S3 (by omega) (show (1 : Int32).toInt = zForm (f 65) (f 64 2) ((f 64 3).toInt - (f 64 2).toInt) from by first | (unfold zForm; rw [if_neg (zno rp0_S1 (by assumption)), if_pos (zyes rp0_S3 (by assumption))]; first | done | rfl) | (unfold zForm; rw [if_neg (zno rp0_S1 (by assumption)), if_pos (zyes rp0_S3 (by assumption))]) | (omega) | (exfalso; omega)) (show xB S3 R from by first | (exact (xC_o (W := 75) rp1_S3).2)) (show aS 88 S3 = a8 from by first | (exact (xC_o (W := 88) rp1_S3).1.trans rp2_S3))
  · skip
    have g21 := i_ne h3
    exact K ((0 : Int32)) _ hI_S1 (by omega) (show (0 : Int32).toInt = zForm (f 65) (f 64 2) ((f 64 3).toInt - (f 64 2).toInt) from by first | (unfold zForm; rw [if_pos (zyes rp0_S1 (by assumption))]; first | done | rfl) | (unfold zForm; rw [if_pos (zyes rp0_S1 (by assumption))]) | (omega) | (exfalso; omega)) (show xB S1 R from by first | (exact (xC_o (W := 75) rp1_S1).2)) (show aS 88 S1 = a8 from by first | (exact (xC_o (W := 88) rp1_S1).1.trans rp2_S1))
theorem g_136_64_s_0 {X : Nat × (Nat → Int32)} {d w : Nat} {S : ma_S} {Q : Option ma_V ⊕ Nat → ma_S → Prop}  (hd : 6 ≤ d) (hw : 122 ≤ w) (hS : zT S) (h : ma_wp X (d - 1) (w - 22) 131 0 [(0, .inr (.inr (some 64))), (1, .inr (.inr (some 17)))] [] S (zi (fun v2 S1 => zT S1 ∧ (if v2 = 0 then (ma_wp X (d - 1) (w - 22) 131 0 [(0, .inr (.inr (some 64))), (1, .inr (.inr (some 18)))] [] S1 (zi (fun v4 S3 => zT S3 ∧ (if v4 = 0 then (Q (.inl (some (.inl (-1 : Int32)))) S3) else (Q (.inl (some (.inl (1 : Int32)))) S3))) (fun x S9 => Q (.inr x) S9))) else (Q (.inl (some (.inl (0 : Int32)))) S1))) (fun x S9 => Q (.inr x) S9))) : ma_wp X d w 136 0 [(0, .inr (.inr (some 64)))] [] S Q := by
  refine zw_push hm_136 dX11_barrierToken_0 (v := .inr (.inr (some 64))) rfl ?_
  refine zw_txc hm_136 dX11_barrierToken_1 txi_11_354 ?_
  refine zw_cv hm_136 dX11_barrierToken_4 v_11_303_11 hm_131 [.inr (.inr (some 17))] [] rfl (zT_rt hS s_64 rfl) ⟨by omega, by omega⟩ rfl (zw_mono h (zi_go ?_ ?_))
  · intro v2 S1 hv
    obtain ⟨hS1, h⟩ := hv
    refine zw_if0 hm_136 dX11_barrierToken_7 (t := 12) rfl zc0_eq ?_ ?_
    · intro hc
      rw [if_pos hc] at h
      refine zw_push hm_136 dX11_barrierToken_12 (v := .inr (.inr (some 64))) rfl ?_
      refine zw_txc hm_136 dX11_barrierToken_13 txi_11_356 ?_
      refine zw_cv hm_136 dX11_barrierToken_16 v_11_303_11 hm_131 [.inr (.inr (some 18))] [] rfl (zT_rt hS1 s_64 rfl) ⟨by omega, by omega⟩ rfl (zw_mono h (zi_go ?_ ?_))
      · intro v4 S3 hv
        obtain ⟨hS3, h⟩ := hv
        refine zw_if0 hm_136 dX11_barrierToken_19 (t := 26) rfl zc0_eq ?_ ?_
        · intro hc
          rw [if_pos hc] at h
          refine zw_push hm_136 dX11_barrierToken_26 (v := .inl (-1 : Int32)) rfl ?_
          exact zw_iret hm_136 dX11_barrierToken_27 h
        · intro hc
          rw [if_neg hc] at h
          refine zw_push hm_136 dX11_barrierToken_22 (v := .inl (1 : Int32)) rfl ?_
          refine zw_goto hm_136 dX11_barrierToken_23 (t := 27) rfl ?_
          exact zw_iret hm_136 dX11_barrierToken_27 h
      · intro x S9 hx
        exact ⟨by decide, hx⟩
    · intro hc
      rw [if_neg hc] at h
      refine zw_push hm_136 dX11_barrierToken_10 (v := .inl (0 : Int32)) rfl ?_
      exact zw_iret hm_136 dX11_barrierToken_11 h
  · intro x S9 hx
    exact ⟨by decide, hx⟩
theorem sp_136_64_s {X : Nat × (Nat → Int32)} {d w : Nat} {f : Nat → Nat → Int32} {r : Nat → Nat → Option Nat} {C Z N : Nat} {Q : Option ma_V ⊕ Nat → ma_S → Prop} {R : zRT} {a8 : Nat→Nat→Int32} {S : ma_S}  (hd : 6 ≤ d) (hw : 122 ≤ w) (hI : zY0 f r C Z N S) (hpre0 : xB S R) (hpre1 : aS 88 S = a8) (K : ∀ v S', zY0 f r C Z N S' → (-1 ≤ v.toInt ∧ v.toInt ≤ 3) → (v.toInt = zBar (f 65) (f 64 2) ((f 64 3).toInt - (f 64 2).toInt)) → (xB S' R) → (aS 88 S' = a8) → Q (.inl (some (.inl v))) S') : ma_wp X d w 136 0 [(0, .inr (.inr (some 64)))] [] S Q := by
  refine g_136_64_s_0  (by omega) (by omega) (zG_T hI) ?_
  refine sp_131_64_17_s (R := R) (a8 := a8) (by omega) (by omega) hI (show xB S R from by first | (exact (xC_o (W := 75) hpre0).2)) (show aS 88 S = a8 from by first | (exact (xC_o (W := 88) hpre0).1.trans hpre1)) (fun v2 S1 hI_S1 hp_v2 rp0_S1 rp1_S1 rp2_S1 => zi_n ⟨zG_T hI_S1, ?_⟩)
  have rp0_S1 : (v2 = 1 ∧ zwd (f 65) (f 64 2) ((f 64 3).toInt - (f 64 2).toInt) 112 105 99 116 117 114 101) ∨ (v2 = 0 ∧ ¬ zwd (f 65) (f 64 2) ((f 64 3).toInt - (f 64 2).toInt) 112 105 99 116 117 114 101) := rp0_S1
  have rp1_S1 : xB S1 R := rp1_S1
  have rp2_S1 : aS 88 S1 = a8 := rp2_S1
  have b1 := i_bd v2
  have li2 : (0 : Int32).toInt = 0 := rfl
  refine zd (fun h3 => ?_) (fun h3 => ?_)
  · skip
    have g4 := i_eq h3
    refine sp_131_64_18_s (R := R) (a8 := a8) (by omega) (by omega) hI_S1 (show xB S1 R from by first | (exact (xC_o (W := 75) rp1_S1).2)) (show aS 88 S1 = a8 from by first | (exact (xC_o (W := 88) rp1_S1).1.trans rp2_S1)) (fun v4 S3 hI_S3 hp_v4 rp0_S3 rp1_S3 rp2_S3 => zi_n ⟨zG_T hI_S3, ?_⟩)
    have rp0_S3 : (v4 = 1 ∧ zwd (f 65) (f 64 2) ((f 64 3).toInt - (f 64 2).toInt) 110 101 119 115 0 0 0) ∨ (v4 = 0 ∧ ¬ zwd (f 65) (f 64 2) ((f 64 3).toInt - (f 64 2).toInt) 110 101 119 115 0 0 0) := rp0_S3
    have rp1_S3 : xB S3 R := rp1_S3
    have rp2_S3 : aS 88 S3 = a8 := rp2_S3
    have b5 := i_bd v4
    refine zd (fun h6 => ?_) (fun h6 => ?_)
    · skip
      have g7 := i_eq h6
      have li8 : (-1 : Int32).toInt = -1 := rfl
      exact K ((-1 : Int32)) _ hI_S3 (by omega) (show (-1 : Int32).toInt = zBar (f 65) (f 64 2) ((f 64 3).toInt - (f 64 2).toInt) from by first | (unfold zBar; rw [if_neg (zno rp0_S1 (by assumption)), if_neg (zno rp0_S3 (by assumption))]; first | done | rfl) | (unfold zBar; rw [if_neg (zno rp0_S1 (by assumption)), if_neg (zno rp0_S3 (by assumption))]) | (omega) | (exfalso; omega)) (show xB S3 R from by first | (exact (xC_o (W := 75) rp1_S3).2)) (show aS 88 S3 = a8 from by first | (exact (xC_o (W := 88) rp1_S3).1.trans rp2_S3))
    · skip
      have g9 := i_ne h6
      have li10 : (1 : Int32).toInt = 1 := rfl
      exact K ((1 : Int32)) _ hI_S3 (by omega) (show (1 : Int32).toInt = zBar (f 65) (f 64 2) ((f 64 3).toInt - (f 64 2).toInt) from by first | (unfold zBar; rw [if_neg (zno rp0_S1 (by assumption)), if_pos (zyes rp0_S3 (by assumption))]; first | done | rfl) | (unfold zBar; rw [if_neg (zno rp0_S1 (by assumption)), if_pos (zyes rp0_S3 (by assumption))]) | (omega) | (exfalso; omega)) (show xB S3 R from by first | (exact (xC_o (W := 75) rp1_S3).2)) (show aS 88 S3 = a8 from by first | (exact (xC_o (W := 88) rp1_S3).1.trans rp2_S3))
  · skip
    have g11 := i_ne h3
    exact K ((0 : Int32)) _ hI_S1 (by omega) (show (0 : Int32).toInt = zBar (f 65) (f 64 2) ((f 64 3).toInt - (f 64 2).toInt) from by first | (unfold zBar; rw [if_pos (zyes rp0_S1 (by assumption))]; first | done | rfl) | (unfold zBar; rw [if_pos (zyes rp0_S1 (by assumption))]) | (omega) | (exfalso; omega)) (show xB S1 R from by first | (exact (xC_o (W := 75) rp1_S1).2)) (show aS 88 S1 = a8 from by first | (exact (xC_o (W := 88) rp1_S1).1.trans rp2_S1))
