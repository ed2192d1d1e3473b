/-! from 95.i25 -/
/-! the class opens a heap (written by wip/tools/gen18c.py) -/
theorem g_136_64_sq_0 {X : Nat × (Nat → Int32)} {d w : Nat} {S : ma_S} {Q : Option ma_V ⊕ Nat → ma_S → Prop}  (hd : 6 ≤ d) (hw : 122 ≤ w) (hS : zT S) (h : ma_wp X (d - 1) (w - 22) 131 0 [(0, .inr (.inr (some 64))), (1, .inr (.inr (some 17)))] [] S (zi (fun v2 S1 => zT S1 ∧ (if v2 = 0 then (ma_wp X (d - 1) (w - 22) 131 0 [(0, .inr (.inr (some 64))), (1, .inr (.inr (some 18)))] [] S1 (zi (fun v4 S3 => zT S3 ∧ (if v4 = 0 then (Q (.inl (some (.inl (-1 : Int32)))) S3) else (Q (.inl (some (.inl (1 : Int32)))) S3))) (fun x S9 => Q (.inr x) S9))) else (Q (.inl (some (.inl (0 : Int32)))) S1))) (fun x S9 => Q (.inr x) S9))) : ma_wp X d w 136 0 [(0, .inr (.inr (some 64)))] [] S Q := by
  refine zw_push hm_136 dX11_barrierToken_0 (v := .inr (.inr (some 64))) rfl ?_
  refine zw_txc hm_136 dX11_barrierToken_1 txi_11_354 ?_
  refine zw_cv hm_136 dX11_barrierToken_4 v_11_303_11 hm_131 [.inr (.inr (some 17))] [] rfl (zT_rt hS s_64 rfl) ⟨by omega, by omega⟩ rfl (zw_mono h (zi_go ?_ ?_))
  · intro v2 S1 hv
    obtain ⟨hS1, h⟩ := hv
    refine zw_if0 hm_136 dX11_barrierToken_7 (t := 12) rfl zc0_eq ?_ ?_
    · intro hc
      rw [if_pos hc] at h
      refine zw_push hm_136 dX11_barrierToken_12 (v := .inr (.inr (some 64))) rfl ?_
      refine zw_txc hm_136 dX11_barrierToken_13 txi_11_356 ?_
      refine zw_cv hm_136 dX11_barrierToken_16 v_11_303_11 hm_131 [.inr (.inr (some 18))] [] rfl (zT_rt hS1 s_64 rfl) ⟨by omega, by omega⟩ rfl (zw_mono h (zi_go ?_ ?_))
      · intro v4 S3 hv
        obtain ⟨hS3, h⟩ := hv
        refine zw_if0 hm_136 dX11_barrierToken_19 (t := 26) rfl zc0_eq ?_ ?_
        · intro hc
          rw [if_pos hc] at h
          refine zw_push hm_136 dX11_barrierToken_26 (v := .inl (-1 : Int32)) rfl ?_
          exact zw_iret hm_136 dX11_barrierToken_27 h
        · intro hc
          rw [if_neg hc] at h
          refine zw_push hm_136 dX11_barrierToken_22 (v := .inl (1 : Int32)) rfl ?_
          refine zw_goto hm_136 dX11_barrierToken_23 (t := 27) rfl ?_
          exact zw_iret hm_136 dX11_barrierToken_27 h
      · intro x S9 hx
        exact ⟨by decide, hx⟩
    · intro hc
      rw [if_neg hc] at h
      refine zw_push hm_136 dX11_barrierToken_10 (v := .inl (0 : Int32)) rfl ?_
      exact zw_iret hm_136 dX11_barrierToken_11 h
  · intro x S9 hx
    exact ⟨by decide, hx⟩
theorem sp_136_64_sq {X : Nat × (Nat → Int32)} {d w : Nat} {f : Nat → Nat → Int32} {r : Nat → Nat → Option Nat} {C Z N : Nat} {Q : Option ma_V ⊕ Nat → ma_S → Prop} {I0 : Nat→Nat→Int32} {L0 : Nat→Nat→Int64} {R0 : zRT} {S : ma_S}  (hd : 6 ≤ d) (hw : 122 ≤ w) (hI : zY0 f r C Z N S) (hpre0 : zFm I0 L0 R0 S) (K : ∀ v S₉, zY0 f r C Z N S₉ → (-1 ≤ v.toInt ∧ v.toInt ≤ 3) → (v.toInt = zBar (f 65) (f 64 2) ((f 64 3).toInt - (f 64 2).toInt)) → (zFm I0 L0 R0 S₉) → Q (.inl (some (.inl v))) S₉) : ma_wp X d w 136 0 [(0, .inr (.inr (some 64)))] [] S Q := by
  refine g_136_64_sq_0  (by omega) (by omega) (zG_T hI) ?_
  refine sp_131_64_17_sq (I0 := I0) (L0 := L0) (R0 := R0) (by omega) (by omega) hI (show zFm I0 L0 R0 S from by first | (exact hpre0)) (fun v2 S1 hI_S1 hp_v2 rp0_S1 rp1_S1 => zi_n ⟨zG_T hI_S1, ?_⟩)
  have rp0_S1 : (v2 = 1 ∧ zwd (f 65) (f 64 2) ((f 64 3).toInt - (f 64 2).toInt) 112 105 99 116 117 114 101) ∨ (v2 = 0 ∧ ¬ zwd (f 65) (f 64 2) ((f 64 3).toInt - (f 64 2).toInt) 112 105 99 116 117 114 101) := rp0_S1
  have rp1_S1 : zFm I0 L0 R0 S1 := rp1_S1
  have b1 := i_bd v2
  have li2 : (0 : Int32).toInt = 0 := rfl
  refine zd (fun h3 => ?_) (fun h3 => ?_)
  · skip
    have g4 := i_eq h3
    refine sp_131_64_18_sq (I0 := I0) (L0 := L0) (R0 := R0) (by omega) (by omega) hI_S1 (show zFm I0 L0 R0 S1 from by first | (exact rp1_S1)) (fun v4 S3 hI_S3 hp_v4 rp0_S3 rp1_S3 => zi_n ⟨zG_T hI_S3, ?_⟩)
    have rp0_S3 : (v4 = 1 ∧ zwd (f 65) (f 64 2) ((f 64 3).toInt - (f 64 2).toInt) 110 101 119 115 0 0 0) ∨ (v4 = 0 ∧ ¬ zwd (f 65) (f 64 2) ((f 64 3).toInt - (f 64 2).toInt) 110 101 119 115 0 0 0) := rp0_S3
    have rp1_S3 : zFm I0 L0 R0 S3 := rp1_S3
    have b5 := i_bd v4
    refine zd (fun h6 => ?_) (fun h6 => ?_)
    · skip
      have g7 := i_eq h6
      have li8 : (-1 : Int32).toInt = -1 := rfl
      exact K ((-1 : Int32)) _ hI_S3 (by omega) (show (-1 : Int32).toInt = zBar (f 65) (f 64 2) ((f 64 3).toInt - (f 64 2).toInt) from by first | (unfold zBar; rw [if_neg (zno rp0_S1 (by assumption)), if_neg (zno rp0_S3 (by assumption))]; first | done | rfl) | (unfold zBar; rw [if_neg (zno rp0_S1 (by assumption)), if_neg (zno rp0_S3 (by assumption))]) | (omega) | (exfalso; omega)) (show zFm I0 L0 R0 S3 from by first | (exact rp1_S3))
    · skip
      have g9 := i_ne h6
      have li10 : (1 : Int32).toInt = 1 := rfl
      exact K ((1 : Int32)) _ hI_S3 (by omega) (show (1 : Int32).toInt = zBar (f 65) (f 64 2) ((f 64 3).toInt - (f 64 2).toInt) from by first | (unfold zBar; rw [if_neg (zno rp0_S1 (by assumption)), if_pos (zyes rp0_S3 (by assumption))]; first | done | rfl) | (unfold zBar; rw [if_neg (zno rp0_S1 (by assumption)), if_pos (zyes rp0_S3 (by assumption))]) | (omega) | (exfalso; omega)) (show zFm I0 L0 R0 S3 from by first | (exact rp1_S3))
  · skip
    have g11 := i_ne h3
    exact K ((0 : Int32)) _ hI_S1 (by omega) (show (0 : Int32).toInt = zBar (f 65) (f 64 2) ((f 64 3).toInt - (f 64 2).toInt) from by first | (unfold zBar; rw [if_pos (zyes rp0_S1 (by assumption))]; first | done | rfl) | (unfold zBar; rw [if_pos (zyes rp0_S1 (by assumption))]) | (omega) | (exfalso; omega)) (show zFm I0 L0 R0 S1 from by first | (exact rp1_S1))
theorem g_134_64_sq_0 {X : Nat × (Nat → Int32)} {d w : Nat} {S : ma_S} {Q : Option ma_V ⊕ Nat → ma_S → Prop} (a : Int32) (b : Int32) (hd : 0 ≤ d) (hw : 0 ≤ w) (hS : zT S) (h : if (mI S 64 3) = (mI S 64 2) then (Q (.inl (some (.inl (-1 : Int32)))) S) else (if ((mI S 64 3) - (mI S 64 2)) ≤ (5 : Int32) then (ma_wp X d w 134 34 [(0, .inr (.inr (some 64))), (1, .inl a), (2, .inl b), (3, .inl (0 : Int32)), (4, .inl (mI S 64 2))] [] S Q) else (Q (.inl (some (.inl (-1 : Int32)))) S))) : ma_wp X d w 134 0 [(0, .inr (.inr (some 64))), (1, .inl a), (2, .inl b)] [] S Q := by
  refine zw_push hm_134 dX11_numberToken_0 (v := .inr (.inr (some 64))) rfl ?_
  refine zw_gf hm_134 dX11_numberToken_1 (v := .inl (mI S 64 3)) (zT_is hS s_64) (zT_t hS s_64) rfl f_11_275_11 rfl ?_
  refine zw_push hm_134 dX11_numberToken_4 (v := .inr (.inr (some 64))) rfl ?_
  refine zw_gf hm_134 dX11_numberToken_5 (v := .inl (mI S 64 2)) (zT_is hS s_64) (zT_t hS s_64) rfl f_11_92_11 rfl ?_
  refine zw_if2 hm_134 dX11_numberToken_8 (t := 24) rfl zc2_eq ?_ ?_
  · intro hc
    rw [if_pos hc] at h
    refine zw_push hm_134 dX11_numberToken_24 (v := .inl (-1 : Int32)) rfl ?_
    exact zw_iret hm_134 dX11_numberToken_25 h
  · intro hc
    rw [if_neg hc] at h
    refine zw_push hm_134 dX11_numberToken_11 (v := .inr (.inr (some 64))) rfl ?_
    refine zw_gf hm_134 dX11_numberToken_12 (v := .inl (mI S 64 3)) (zT_is hS s_64) (zT_t hS s_64) rfl f_11_275_11 rfl ?_
    refine zw_push hm_134 dX11_numberToken_15 (v := .inr (.inr (some 64))) rfl ?_
    refine zw_gf hm_134 dX11_numberToken_16 (v := .inl (mI S 64 2)) (zT_is hS s_64) (zT_t hS s_64) rfl f_11_92_11 rfl ?_
    refine zw_stk hm_134 dX11_numberToken_19 (st₉ := [.inl ((mI S 64 3) - (mI S 64 2))]) rfl rfl ?_
    refine zw_push hm_134 dX11_numberToken_20 (v := .inl (5 : Int32)) rfl ?_
    refine zw_if2 hm_134 dX11_numberToken_21 (t := 26) rfl zc2_le ?_ ?_
    · intro hc
      rw [if_pos hc] at h
      refine zw_push hm_134 dX11_numberToken_26 (v := .inl (0 : Int32)) rfl ?_
      refine zw_sto hm_134 dX11_numberToken_27 [(3, .inl (0 : Int32)), (0, .inr (.inr (some 64))), (1, .inl a), (2, .inl b)] rfl rfl rfl ?_
      refine zw_push hm_134 dX11_numberToken_28 (v := .inr (.inr (some 64))) rfl ?_
      refine zw_gf hm_134 dX11_numberToken_29 (v := .inl (mI S 64 2)) (zT_is hS s_64) (zT_t hS s_64) rfl f_11_92_11 rfl ?_
      refine zw_sto hm_134 dX11_numberToken_32 [(4, .inl (mI S 64 2)), (3, .inl (0 : Int32)), (0, .inr (.inr (some 64))), (1, .inl a), (2, .inl b)] rfl rfl rfl ?_
      exact zw_sub (ma_nd_of (ks := [0, 1, 2, 3, 4]) rfl (by decide)) (ma_nd_of (ks := [4, 3, 0, 1, 2]) rfl (by decide)) (ma_le_cons rfl (ma_le_cons rfl (ma_le_cons rfl (ma_le_cons rfl (ma_le_cons rfl (ma_le_nil _)))))) h
    · intro hc
      rw [if_neg hc] at h
      refine zw_push hm_134 dX11_numberToken_24 (v := .inl (-1 : Int32)) rfl ?_
      exact zw_iret hm_134 dX11_numberToken_25 h
theorem g_134_64_sq_34 {X : Nat × (Nat → Int32)} {d w : Nat} {S : ma_S} {Q : Option ma_V ⊕ Nat → ma_S → Prop} (l1 : Int32) (l2 : Int32) (l3 : Int32) (l4 : Int32) (hd : 0 ≤ d) (hw : 0 ≤ w) (hS : zT S) (h : if (mI S 64 3) ≤ l4 then (if l3 < l1 then (Q (.inl (some (.inl (-1 : Int32)))) S) else (if l2 < l3 then (Q (.inl (some (.inl (-1 : Int32)))) S) else (Q (.inl (some (.inl l3))) S))) else (if (100 : Int32) ≤ l4 then (if l3 < l1 then (Q (.inl (some (.inl (-1 : Int32)))) S) else (if l2 < l3 then (Q (.inl (some (.inl (-1 : Int32)))) S) else (Q (.inl (some (.inl l3))) S))) else ((0 ≤ l4 ∧ l4.toNatClampNeg < 100) ∧ (if ((mI S 65 l4.toNatClampNeg) - (48 : Int32)) < 0 then (Q (.inl (some (.inl (-1 : Int32)))) S) else (if ((mI S 65 l4.toNatClampNeg) - (48 : Int32)) ≤ (9 : Int32) then (ma_wp X d w 134 34 [(0, .inr (.inr (some 64))), (1, .inl l1), (2, .inl l2), (3, .inl ((l3 * (10 : Int32)) + ((mI S 65 l4.toNatClampNeg) - (48 : Int32)))), (4, .inl (l4 + (1 : Int32)))] [] S Q) else (Q (.inl (some (.inl (-1 : Int32)))) S)))))) : ma_wp X d w 134 34 [(0, .inr (.inr (some 64))), (1, .inl l1), (2, .inl l2), (3, .inl l3), (4, .inl l4)] [] S Q := by
  refine zw_push hm_134 dX11_numberToken_34 (v := .inl l4) rfl ?_
  refine zw_push hm_134 dX11_numberToken_36 (v := .inr (.inr (some 64))) rfl ?_
  refine zw_gf hm_134 dX11_numberToken_37 (v := .inl (mI S 64 3)) (zT_is hS s_64) (zT_t hS s_64) rfl f_11_275_11 rfl ?_
  refine zw_if2 hm_134 dX11_numberToken_40 (t := 90) rfl zc2_ge ?_ ?_
  · intro hc
    rw [if_pos hc] at h
    refine zw_push hm_134 dX11_numberToken_90 (v := .inl l3) rfl ?_
    refine zw_push hm_134 dX11_numberToken_91 (v := .inl l1) rfl ?_
    refine zw_if2 hm_134 dX11_numberToken_92 (t := 104) rfl zc2_lt ?_ ?_
    · intro hc
      rw [if_pos hc] at h
      refine zw_push hm_134 dX11_numberToken_104 (v := .inl (-1 : Int32)) rfl ?_
      exact zw_iret hm_134 dX11_numberToken_105 h
    · intro hc
      rw [if_neg hc] at h
      refine zw_push hm_134 dX11_numberToken_95 (v := .inl l3) rfl ?_
      refine zw_push hm_134 dX11_numberToken_96 (v := .inl l2) rfl ?_
      refine zw_if2 hm_134 dX11_numberToken_97 (t := 104) rfl zc2_gt ?_ ?_
      · intro hc
        rw [if_pos hc] at h
        refine zw_push hm_134 dX11_numberToken_104 (v := .inl (-1 : Int32)) rfl ?_
        exact zw_iret hm_134 dX11_numberToken_105 h
      · intro hc
        rw [if_neg hc] at h
        refine zw_push hm_134 dX11_numberToken_100 (v := .inl l3) rfl ?_
        refine zw_goto hm_134 dX11_numberToken_101 (t := 105) rfl ?_
        exact zw_iret hm_134 dX11_numberToken_105 h
  · intro hc
    rw [if_neg hc] at h
    refine zw_push hm_134 dX11_numberToken_43 (v := .inl l4) rfl ?_
    refine zw_push hm_134 dX11_numberToken_45 (v := .inl (100 : Int32)) rfl ?_
    refine zw_if2 hm_134 dX11_numberToken_47 (t := 90) rfl zc2_ge ?_ ?_
    · intro hc
      rw [if_pos hc] at h
      refine zw_push hm_134 dX11_numberToken_90 (v := .inl l3) rfl ?_
      refine zw_push hm_134 dX11_numberToken_91 (v := .inl l1) rfl ?_
      refine zw_if2 hm_134 dX11_numberToken_92 (t := 104) rfl zc2_lt ?_ ?_
      · intro hc
        rw [if_pos hc] at h
        refine zw_push hm_134 dX11_numberToken_104 (v := .inl (-1 : Int32)) rfl ?_
        exact zw_iret hm_134 dX11_numberToken_105 h
      · intro hc
        rw [if_neg hc] at h
        refine zw_push hm_134 dX11_numberToken_95 (v := .inl l3) rfl ?_
        refine zw_push hm_134 dX11_numberToken_96 (v := .inl l2) rfl ?_
        refine zw_if2 hm_134 dX11_numberToken_97 (t := 104) rfl zc2_gt ?_ ?_
        · intro hc
          rw [if_pos hc] at h
          refine zw_push hm_134 dX11_numberToken_104 (v := .inl (-1 : Int32)) rfl ?_
          exact zw_iret hm_134 dX11_numberToken_105 h
        · intro hc
          rw [if_neg hc] at h
          refine zw_push hm_134 dX11_numberToken_100 (v := .inl l3) rfl ?_
          refine zw_goto hm_134 dX11_numberToken_101 (t := 105) rfl ?_
          exact zw_iret hm_134 dX11_numberToken_105 h
    · intro hc
      rw [if_neg hc] at h
      refine zw_push hm_134 dX11_numberToken_50 (v := .inr (.inr (some 64))) rfl ?_
      refine zw_gf hm_134 dX11_numberToken_51 (v := .inr (.inr (some 65))) (zT_is hS s_64) (zT_t hS s_64) rfl f_11_9_11 (zT_f hS r_64_0) ?_
      refine zw_push hm_134 dX11_numberToken_54 (v := .inl l4) rfl ?_
      obtain ⟨hg, h⟩ := h
      refine zw_ba hm_134 dX11_numberToken_56 (zT_is hS s_65) (zT_h hS s_65) rfl rfl hg ?_
      show ma_wp X d w 134 57 [(0, .inr (.inr (some 64))), (1, .inl l1), (2, .inl l2), (3, .inl l3), (4, .inl l4)] [.inl (mI S 65 l4.toNatClampNeg)] S _
      refine zw_push hm_134 dX11_numberToken_57 (v := .inl (48 : Int32)) rfl ?_
      refine zw_stk hm_134 dX11_numberToken_59 (st₉ := [.inl ((mI S 65 l4.toNatClampNeg) - (48 : Int32))]) rfl rfl ?_
      refine zw_sto hm_134 dX11_numberToken_60 [(5, .inl ((mI S 65 l4.toNatClampNeg) - (48 : Int32))), (0, .inr (.inr (some 64))), (1, .inl l1), (2, .inl l2), (3, .inl l3), (4, .inl l4)] rfl rfl rfl ?_
      refine zw_push hm_134 dX11_numberToken_62 (v := .inl ((mI S 65 l4.toNatClampNeg) - (48 : Int32))) rfl ?_
      refine zw_if0 hm_134 dX11_numberToken_64 (t := 74) rfl zc0_lt ?_ ?_
      · intro hc
        rw [if_pos hc] at h
        refine zw_push hm_134 dX11_numberToken_74 (v := .inl (-1 : Int32)) rfl ?_
        exact zw_iret hm_134 dX11_numberToken_75 h
      · intro hc
        rw [if_neg hc] at h
        refine zw_push hm_134 dX11_numberToken_67 (v := .inl ((mI S 65 l4.toNatClampNeg) - (48 : Int32))) rfl ?_
        refine zw_push hm_134 dX11_numberToken_69 (v := .inl (9 : Int32)) rfl ?_
        refine zw_if2 hm_134 dX11_numberToken_71 (t := 76) rfl zc2_le ?_ ?_
        · intro hc
          rw [if_pos hc] at h
          refine zw_push hm_134 dX11_numberToken_76 (v := .inl l3) rfl ?_
          refine zw_push hm_134 dX11_numberToken_77 (v := .inl (10 : Int32)) rfl ?_
          refine zw_stk hm_134 dX11_numberToken_79 (st₉ := [.inl (l3 * (10 : Int32))]) rfl rfl ?_
          refine zw_push hm_134 dX11_numberToken_80 (v := .inl ((mI S 65 l4.toNatClampNeg) - (48 : Int32))) rfl ?_
          refine zw_stk hm_134 dX11_numberToken_82 (st₉ := [.inl ((l3 * (10 : Int32)) + ((mI S 65 l4.toNatClampNeg) - (48 : Int32)))]) rfl rfl ?_
          refine zw_sto hm_134 dX11_numberToken_83 [(3, .inl ((l3 * (10 : Int32)) + ((mI S 65 l4.toNatClampNeg) - (48 : Int32)))), (5, .inl ((mI S 65 l4.toNatClampNeg) - (48 : Int32))), (0, .inr (.inr (some 64))), (1, .inl l1), (2, .inl l2), (4, .inl l4)] rfl rfl rfl ?_
          refine zw_sto hm_134 dX11_numberToken_84 [(4, .inl (l4 + (1 : Int32))), (3, .inl ((l3 * (10 : Int32)) + ((mI S 65 l4.toNatClampNeg) - (48 : Int32)))), (5, .inl ((mI S 65 l4.toNatClampNeg) - (48 : Int32))), (0, .inr (.inr (some 64))), (1, .inl l1), (2, .inl l2)] rfl rfl rfl ?_
          refine zw_goto hm_134 dX11_numberToken_87 (t := 34) rfl ?_
          exact zw_sub (ma_nd_of (ks := [0, 1, 2, 3, 4]) rfl (by decide)) (ma_nd_of (ks := [4, 3, 5, 0, 1, 2]) rfl (by decide)) (ma_le_cons rfl (ma_le_cons rfl (ma_le_cons rfl (ma_le_cons rfl (ma_le_cons rfl (ma_le_nil _)))))) h
        · intro hc
          rw [if_neg hc] at h
          refine zw_push hm_134 dX11_numberToken_74 (v := .inl (-1 : Int32)) rfl ?_
          exact zw_iret hm_134 dX11_numberToken_75 h
theorem lp_134_64_sq_34 {X : Nat × (Nat → Int32)} {d w : Nat} {f : Nat → Nat → Int32} {r : Nat → Nat → Option Nat} {C Z N : Nat} {Q : Option ma_V ⊕ Nat → ma_S → Prop} {I0 : Nat→Nat→Int32} {L0 : Nat→Nat→Int64} {R0 : zRT} {a : Int32} {b : Int32} (hd : 0 ≤ d) (hw : 0 ≤ w) (K : ∀ v S₉, zY0 f r C Z N S₉ → (v.toInt = -1 ∨ (a.toInt ≤ v.toInt ∧ v.toInt ≤ b.toInt)) → (v.toInt = zNum (f 65) (f 64 2).toInt (f 64 3).toInt a.toInt b.toInt) → (zFm I0 L0 R0 S₉) → Q (.inl (some (.inl v))) S₉) : ∀ (n : Nat) (S : ma_S) (l1 : Int32) (l2 : Int32) (l3 : Int32) (l4 : Int32), (100 - l4.toInt).toNat = n → zY0 f r C Z N S → (0 ≤ l4.toInt) → (l1.toInt = a.toInt) → (l2.toInt = b.toInt) → ((f 64 2).toInt ≤ l4.toInt ∧ l4.toInt ≤ (f 64 3).toInt ∧ (f 64 2).toInt < (f 64 3).toInt ∧ (f 64 3).toInt - (f 64 2).toInt ≤ 5 ∧ (f 64 3).toInt ≤ 100 ∧ 0 ≤ (f 64 2).toInt) → (zfo (f 65) (f 64 3).toInt l4.toInt l3.toInt = zfo (f 65) (f 64 3).toInt (f 64 2).toInt 0) → (zok (f 64 2).toInt l4.toInt l3.toInt) → (zFm I0 L0 R0 S) → ma_wp X d w 134 34 [(0, .inr (.inr (some 64))), (1, .inl l1), (2, .inl l2), (3, .inl l3), (4, .inl l4)] [] S Q := by
  intro n
  induction n using Nat.strongRecOn with
  | _ n IH =>
    intro S l1 l2 l3 l4 hmu hI  hi0 hi1 hi2 hi3 hi4 hi5 hi6
    refine g_134_64_sq_34 l1 l2 l3 l4 (by omega) (by omega) (zG_T hI) ?_
    have zk : ¬ l4.toInt < (f 64 3).toInt ∨ (0 ≤ l3.toInt ∧ l3.toInt ≤ 9999) := by
      by_cases c : l4.toInt < (f 64 3).toInt
      · exact Or.inr (zok_4 hi5 (by omega))
      · exact Or.inl c
    have dg := i_dig (mI S 65 l4.toNatClampNeg)
    have z5 := zok_5 hi5 (by omega)
    have q1 : (mI S 64 3).toInt = (f 64 3).toInt := zG_zi hI rfl
    have f2 := zG_s hI (0) (100) (c := 64) (k := 3) (by decide)
    have b3 := i_bd l4
    refine zd (fun h4 => ?_) (fun h4 => ?_)
    · skip
      have g5 := i_le h4
      have b6 := i_bd l3
      have b7 := i_bd l1
      refine zd (fun h8 => ?_) (fun h8 => ?_)
      · skip
        have g9 := i_lt h8
        have li10 : (-1 : Int32).toInt = -1 := rfl
        exact K ((-1 : Int32)) _ hI (by omega) (show (-1 : Int32).toInt = zNum (f 65) (f 64 2).toInt (f 64 3).toInt a.toInt b.toInt from by first | (exact (zNum_no (by omega)).symm) | (exact (zNum_in (by omega) (hi4.symm.trans (zfo_end (by omega))) (by omega) (by omega) (by omega)).symm) | (exact (zNum_out (hi4.symm.trans (zfo_end (by omega))) (by omega)).symm) | (exact (zNum_bad (hi4.symm.trans (zfo_bad (x := mI S 65 l4.toNatClampNeg) (by omega) (zG_z hI rfl) (by omega)))).symm) | (omega) | (exfalso; omega)) (show zFm I0 L0 R0 S from by first | (exact hi6))
      · skip
        have g11 := i_nlt h8
        have b12 := i_bd l2
        refine zd (fun h13 => ?_) (fun h13 => ?_)
        · skip
          have g14 := i_lt h13
          have li15 : (-1 : Int32).toInt = -1 := rfl
          exact K ((-1 : Int32)) _ hI (by omega) (show (-1 : Int32).toInt = zNum (f 65) (f 64 2).toInt (f 64 3).toInt a.toInt b.toInt from by first | (exact (zNum_no (by omega)).symm) | (exact (zNum_in (by omega) (hi4.symm.trans (zfo_end (by omega))) (by omega) (by omega) (by omega)).symm) | (exact (zNum_out (hi4.symm.trans (zfo_end (by omega))) (by omega)).symm) | (exact (zNum_bad (hi4.symm.trans (zfo_bad (x := mI S 65 l4.toNatClampNeg) (by omega) (zG_z hI rfl) (by omega)))).symm) | (omega) | (exfalso; omega)) (show zFm I0 L0 R0 S from by first | (exact hi6))
        · skip
          have g16 := i_nlt h13
          exact K (l3) _ hI (by omega) (show l3.toInt = zNum (f 65) (f 64 2).toInt (f 64 3).toInt a.toInt b.toInt from by first | (exact (zNum_no (by omega)).symm) | (exact (zNum_in (by omega) (hi4.symm.trans (zfo_end (by omega))) (by omega) (by omega) (by omega)).symm) | (exact (zNum_out (hi4.symm.trans (zfo_end (by omega))) (by omega)).symm) | (exact (zNum_bad (hi4.symm.trans (zfo_bad (x := mI S 65 l4.toNatClampNeg) (by omega) (zG_z hI rfl) (by omega)))).symm) | (omega) | (exfalso; omega)) (show zFm I0 L0 R0 S from by first | (exact hi6))
    · skip
      have g17 := i_nle h4
      have li18 : (100 : Int32).toInt = 100 := rfl
      refine zd (fun h19 => ?_) (fun h19 => ?_)
      · skip
        have g20 := i_le h19
        have b21 := i_bd l3
        have b22 := i_bd l1
        refine zd (fun h23 => ?_) (fun h23 => ?_)
        · skip
          have g24 := i_lt h23
          have li25 : (-1 : Int32).toInt = -1 := rfl
          exact K ((-1 : Int32)) _ hI (by omega) (show (-1 : Int32).toInt = zNum (f 65) (f 64 2).toInt (f 64 3).toInt a.toInt b.toInt from by first | (exact (zNum_no (by omega)).symm) | (exact (zNum_in (by omega) (hi4.symm.trans (zfo_end (by omega))) (by omega) (by omega) (by omega)).symm) | (exact (zNum_out (hi4.symm.trans (zfo_end (by omega))) (by omega)).symm) | (exact (zNum_bad (hi4.symm.trans (zfo_bad (x := mI S 65 l4.toNatClampNeg) (by omega) (zG_z hI rfl) (by omega)))).symm) | (omega) | (exfalso; omega)) (show zFm I0 L0 R0 S from by first | (exact hi6))
        · skip
          have g26 := i_nlt h23
          have b27 := i_bd l2
          refine zd (fun h28 => ?_) (fun h28 => ?_)
          · skip
            have g29 := i_lt h28
            have li30 : (-1 : Int32).toInt = -1 := rfl
            exact K ((-1 : Int32)) _ hI (by omega) (show (-1 : Int32).toInt = zNum (f 65) (f 64 2).toInt (f 64 3).toInt a.toInt b.toInt from by first | (exact (zNum_no (by omega)).symm) | (exact (zNum_in (by omega) (hi4.symm.trans (zfo_end (by omega))) (by omega) (by omega) (by omega)).symm) | (exact (zNum_out (hi4.symm.trans (zfo_end (by omega))) (by omega)).symm) | (exact (zNum_bad (hi4.symm.trans (zfo_bad (x := mI S 65 l4.toNatClampNeg) (by omega) (zG_z hI rfl) (by omega)))).symm) | (omega) | (exfalso; omega)) (show zFm I0 L0 R0 S from by first | (exact hi6))
          · skip
            have g31 := i_nlt h28
            exact K (l3) _ hI (by omega) (show l3.toInt = zNum (f 65) (f 64 2).toInt (f 64 3).toInt a.toInt b.toInt from by first | (exact (zNum_no (by omega)).symm) | (exact (zNum_in (by omega) (hi4.symm.trans (zfo_end (by omega))) (by omega) (by omega) (by omega)).symm) | (exact (zNum_out (hi4.symm.trans (zfo_end (by omega))) (by omega)).symm) | (exact (zNum_bad (hi4.symm.trans (zfo_bad (x := mI S 65 l4.toNatClampNeg) (by omega) (zG_z hI rfl) (by omega)))).symm) | (omega) | (exfalso; omega)) (show zFm I0 L0 R0 S from by first | (exact hi6))
      · skip
        have g32 := i_nle h19
        refine ⟨i_ix (by omega) (by omega), ?_⟩
        have q33 : (mI S 65 l4.toNatClampNeg).toInt = (f 65 l4.toNatClampNeg).toInt := zG_zi hI rfl
        have b34 := i_bd (mI S 65 l4.toNatClampNeg)
        first | have e35 : ((mI S 65 l4.toNatClampNeg) - (48 : Int32)).toInt = (mI S 65 l4.toNatClampNeg).toInt - (48) := i_subk rfl (by omega) (by omega) | have b36 := i_bd ((mI S 65 l4.toNatClampNeg) - (48 : Int32))
        have li37 : (0 : Int32).toInt = 0 := rfl
        refine zd (fun h38 => ?_) (fun h38 => ?_)
        · skip
          have g39 := i_lt h38
          have li40 : (-1 : Int32).toInt = -1 := rfl
          exact K ((-1 : Int32)) _ hI (by omega) (show (-1 : Int32).toInt = zNum (f 65) (f 64 2).toInt (f 64 3).toInt a.toInt b.toInt from by first | (exact (zNum_no (by omega)).symm) | (exact (zNum_in (by omega) (hi4.symm.trans (zfo_end (by omega))) (by omega) (by omega) (by omega)).symm) | (exact (zNum_out (hi4.symm.trans (zfo_end (by omega))) (by omega)).symm) | (exact (zNum_bad (hi4.symm.trans (zfo_bad (x := mI S 65 l4.toNatClampNeg) (by omega) (zG_z hI rfl) (by omega)))).symm) | (omega) | (exfalso; omega)) (show zFm I0 L0 R0 S from by first | (exact hi6))
        · skip
          have g41 := i_nlt h38
          have li42 : (9 : Int32).toInt = 9 := rfl
          refine zd (fun h43 => ?_) (fun h43 => ?_)
          · skip
            have g44 := i_le h43
            have b45 := i_bd l1
            have b46 := i_bd l2
            have b47 := i_bd l3
            have li48 : (10 : Int32).toInt = 10 := rfl
            first | have e49 : (l3 * (10 : Int32)).toInt = l3.toInt * 10 := i_mulk rfl (by omega) (by omega) | have b50 := i_bd (l3 * (10 : Int32))
            first | have e51 : ((l3 * (10 : Int32)) + ((mI S 65 l4.toNatClampNeg) - (48 : Int32))).toInt = (l3 * (10 : Int32)).toInt + ((mI S 65 l4.toNatClampNeg) - (48 : Int32)).toInt := i_add (by omega) (by omega) | have b52 := i_bd ((l3 * (10 : Int32)) + ((mI S 65 l4.toNatClampNeg) - (48 : Int32)))
            first | have e53 : (l4 + (1 : Int32)).toInt = l4.toInt + (1) := i_addk rfl (by omega) (by omega) | have b54 := i_bd (l4 + (1 : Int32))
            exact IH _ (by omega) _ (l1) (l2) (((l3 * (10 : Int32)) + ((mI S 65 l4.toNatClampNeg) - (48 : Int32)))) ((l4 + (1 : Int32))) rfl hI (by omega) (by omega) (by omega) (show (f 64 2).toInt ≤ ((l4 + (1 : Int32))).toInt ∧ ((l4 + (1 : Int32))).toInt ≤ (f 64 3).toInt ∧ (f 64 2).toInt < (f 64 3).toInt ∧ (f 64 3).toInt - (f 64 2).toInt ≤ 5 ∧ (f 64 3).toInt ≤ 100 ∧ 0 ≤ (f 64 2).toInt from by omega) (show zfo (f 65) (f 64 3).toInt ((l4 + (1 : Int32))).toInt (((l3 * (10 : Int32)) + ((mI S 65 l4.toNatClampNeg) - (48 : Int32)))).toInt = zfo (f 65) (f 64 3).toInt (f 64 2).toInt 0 from by first | (exact congrArg (fun q => zfo (f 65) (f 64 3).toInt q 0) (show (mI S 64 2).toInt = (f 64 2).toInt from by omega)) | (exact (zfo_go (x := mI S 65 l4.toNatClampNeg) (by omega) (zG_z hI rfl) (by omega) (by omega) (by omega) (by omega)).symm.trans hi4) | (omega) | (exfalso; omega)) (show zok (f 64 2).toInt ((l4 + (1 : Int32))).toInt (((l3 * (10 : Int32)) + ((mI S 65 l4.toNatClampNeg) - (48 : Int32)))).toInt from by first | (exact (show (mI S 64 2).toInt = (f 64 2).toInt by omega) ▸ zok_0) | (exact zok_st hi5 (by omega) (show 0 ≤ ((mI S 65 l4.toNatClampNeg) - (48 : Int32)).toInt by omega) (by omega) (by omega) (by omega)) | (omega) | (exfalso; omega)) (show zFm I0 L0 R0 S from by first | (exact hi6))
          · skip
            have g55 := i_nle h43
            have li56 : (-1 : Int32).toInt = -1 := rfl
            exact K ((-1 : Int32)) _ hI (by omega) (show (-1 : Int32).toInt = zNum (f 65) (f 64 2).toInt (f 64 3).toInt a.toInt b.toInt from by first | (exact (zNum_no (by omega)).symm) | (exact (zNum_in (by omega) (hi4.symm.trans (zfo_end (by omega))) (by omega) (by omega) (by omega)).symm) | (exact (zNum_out (hi4.symm.trans (zfo_end (by omega))) (by omega)).symm) | (exact (zNum_bad (hi4.symm.trans (zfo_bad (x := mI S 65 l4.toNatClampNeg) (by omega) (zG_z hI rfl) (by omega)))).symm) | (omega) | (exfalso; omega)) (show zFm I0 L0 R0 S from by first | (exact hi6))
theorem sp_134_64_sq {X : Nat × (Nat → Int32)} {d w : Nat} {f : Nat → Nat → Int32} {r : Nat → Nat → Option Nat} {C Z N : Nat} {Q : Option ma_V ⊕ Nat → ma_S → Prop} {I0 : Nat→Nat→Int32} {L0 : Nat→Nat→Int64} {R0 : zRT} {S : ma_S} (a : Int32) (b : Int32) (hd : 0 ≤ d) (hw : 0 ≤ w) (hI : zY0 f r C Z N S) (hpre0 : (mI S 64 2).toInt ≤ (mI S 64 3).toInt) (hpre1 : zFm I0 L0 R0 S) (K : ∀ v S₉, zY0 f r C Z N S₉ → (v.toInt = -1 ∨ (a.toInt ≤ v.toInt ∧ v.toInt ≤ b.toInt)) → (v.toInt = zNum (f 65) (f 64 2).toInt (f 64 3).toInt a.toInt b.toInt) → (zFm I0 L0 R0 S₉) → Q (.inl (some (.inl v))) S₉) : ma_wp X d w 134 0 [(0, .inr (.inr (some 64))), (1, .inl a), (2, .inl b)] [] S Q := by
  refine g_134_64_sq_0 a b (by omega) (by omega) (zG_T hI) ?_
  have q1 : (mI S 64 2).toInt = (f 64 2).toInt := zG_zi hI rfl
  have f2 := zG_s hI (0) (100) (c := 64) (k := 2) (by decide)
  have q3 : (mI S 64 3).toInt = (f 64 3).toInt := zG_zi hI rfl
  have f4 := zG_s hI (0) (100) (c := 64) (k := 3) (by decide)
  refine zd (fun h5 => ?_) (fun h5 => ?_)
  · skip
    have g6 := i_eq h5
    have li7 : (-1 : Int32).toInt = -1 := rfl
    exact K ((-1 : Int32)) _ hI (by omega) (show (-1 : Int32).toInt = zNum (f 65) (f 64 2).toInt (f 64 3).toInt a.toInt b.toInt from by first | (exact (zNum_no (by omega)).symm) | (omega) | (exfalso; omega)) (show zFm I0 L0 R0 S from by first | (exact hpre1))
  · skip
    have g8 := i_ne h5
    first | have e9 : ((mI S 64 3) - (mI S 64 2)).toInt = (mI S 64 3).toInt - (mI S 64 2).toInt := i_sub (by omega) (by omega) | have b10 := i_bd ((mI S 64 3) - (mI S 64 2))
    have li11 : (5 : Int32).toInt = 5 := rfl
    refine zd (fun h12 => ?_) (fun h12 => ?_)
    · skip
      have g13 := i_le h12
      have b14 := i_bd a
      have b15 := i_bd b
      have li16 : (0 : Int32).toInt = 0 := rfl
      exact lp_134_64_sq_34 (by omega) (by omega) K _ _ (a) (b) ((0 : Int32)) ((mI S 64 2)) rfl hI (by omega) (by omega) (by omega) (show (f 64 2).toInt ≤ ((mI S 64 2)).toInt ∧ ((mI S 64 2)).toInt ≤ (f 64 3).toInt ∧ (f 64 2).toInt < (f 64 3).toInt ∧ (f 64 3).toInt - (f 64 2).toInt ≤ 5 ∧ (f 64 3).toInt ≤ 100 ∧ 0 ≤ (f 64 2).toInt from by omega) (show zfo (f 65) (f 64 3).toInt ((mI S 64 2)).toInt ((0 : Int32)).toInt = zfo (f 65) (f 64 3).toInt (f 64 2).toInt 0 from by first | (exact congrArg (fun q => zfo (f 65) (f 64 3).toInt q 0) (show (mI S 64 2).toInt = (f 64 2).toInt from by omega)) | (omega) | (exfalso; omega)) (show zok (f 64 2).toInt ((mI S 64 2)).toInt ((0 : Int32)).toInt from by first | (exact (show (mI S 64 2).toInt = (f 64 2).toInt by omega) ▸ zok_0) | (omega) | (exfalso; omega)) (show zFm I0 L0 R0 S from by first | (exact hpre1))
    · skip
      have g17 := i_nle h12
      have li18 : (-1 : Int32).toInt = -1 := rfl
      exact K ((-1 : Int32)) _ hI (by omega) (show (-1 : Int32).toInt = zNum (f 65) (f 64 2).toInt (f 64 3).toInt a.toInt b.toInt from by first | (exact (zNum_no (by omega)).symm) | (omega) | (exfalso; omega)) (show zFm I0 L0 R0 S from by first | (exact hpre1))

/-! from 95.i27 -/
/-! the class opens a heap (written by wip/tools/gen18c.py) -/
theorem g_138_64_sq_0 {X : Nat × (Nat → Int32)} {d w : Nat} {S : ma_S} {Q : Option ma_V ⊕ Nat → ma_S → Prop} (x : Int32) (hd : 0 ≤ d) (hw : 0 ≤ w) (hS : zT S) (h : if (100 : Int32) ≤ (mI S 64 1) then (Q (.inl none) S) else ((0 ≤ (mI S 64 1) ∧ (mI S 64 1).toNatClampNeg < 100) ∧ (if (100 : Int32) ≤ ((mI S 64 1) + (1 : Int32)) then (Q (.inl none) (ma_put (ma_put S 65 (mI S 64 1).toNatClampNeg (.inl (vp_nar .byte (((x.toUInt32 >>> ((24 : Int32).toUInt32 &&& Int32.toUInt32 31)).toInt32).toInt8.toInt32)))) 64 1 (.inl ((mI S 64 1) + (1 : Int32))))) else ((0 ≤ ((mI S 64 1) + (1 : Int32)) ∧ ((mI S 64 1) + (1 : Int32)).toNatClampNeg < 100) ∧ (if (100 : Int32) ≤ (((mI S 64 1) + (1 : Int32)) + (1 : Int32)) then (Q (.inl none) (ma_put (ma_put (ma_put (ma_put S 65 (mI S 64 1).toNatClampNeg (.inl (vp_nar .byte (((x.toUInt32 >>> ((24 : Int32).toUInt32 &&& Int32.toUInt32 31)).toInt32).toInt8.toInt32)))) 64 1 (.inl ((mI S 64 1) + (1 : Int32)))) 65 ((mI S 64 1) + (1 : Int32)).toNatClampNeg (.inl (vp_nar .byte (((x.toUInt32 >>> ((16 : Int32).toUInt32 &&& Int32.toUInt32 31)).toInt32).toInt8.toInt32)))) 64 1 (.inl (((mI S 64 1) + (1 : Int32)) + (1 : Int32))))) else ((0 ≤ (((mI S 64 1) + (1 : Int32)) + (1 : Int32)) ∧ (((mI S 64 1) + (1 : Int32)) + (1 : Int32)).toNatClampNeg < 100) ∧ (if (100 : Int32) ≤ ((((mI S 64 1) + (1 : Int32)) + (1 : Int32)) + (1 : Int32)) then (Q (.inl none) (ma_put (ma_put (ma_put (ma_put (ma_put (ma_put S 65 (mI S 64 1).toNatClampNeg (.inl (vp_nar .byte (((x.toUInt32 >>> ((24 : Int32).toUInt32 &&& Int32.toUInt32 31)).toInt32).toInt8.toInt32)))) 64 1 (.inl ((mI S 64 1) + (1 : Int32)))) 65 ((mI S 64 1) + (1 : Int32)).toNatClampNeg (.inl (vp_nar .byte (((x.toUInt32 >>> ((16 : Int32).toUInt32 &&& Int32.toUInt32 31)).toInt32).toInt8.toInt32)))) 64 1 (.inl (((mI S 64 1) + (1 : Int32)) + (1 : Int32)))) 65 (((mI S 64 1) + (1 : Int32)) + (1 : Int32)).toNatClampNeg (.inl (vp_nar .byte (((x.toUInt32 >>> ((8 : Int32).toUInt32 &&& Int32.toUInt32 31)).toInt32).toInt8.toInt32)))) 64 1 (.inl ((((mI S 64 1) + (1 : Int32)) + (1 : Int32)) + (1 : Int32))))) else ((0 ≤ ((((mI S 64 1) + (1 : Int32)) + (1 : Int32)) + (1 : Int32)) ∧ ((((mI S 64 1) + (1 : Int32)) + (1 : Int32)) + (1 : Int32)).toNatClampNeg < 100) ∧ (Q (.inl none) (ma_put (ma_put (ma_put (ma_put (ma_put (ma_put (ma_put (ma_put S 65 (mI S 64 1).toNatClampNeg (.inl (vp_nar .byte (((x.toUInt32 >>> ((24 : Int32).toUInt32 &&& Int32.toUInt32 31)).toInt32).toInt8.toInt32)))) 64 1 (.inl ((mI S 64 1) + (1 : Int32)))) 65 ((mI S 64 1) + (1 : Int32)).toNatClampNeg (.inl (vp_nar .byte (((x.toUInt32 >>> ((16 : Int32).toUInt32 &&& Int32.toUInt32 31)).toInt32).toInt8.toInt32)))) 64 1 (.inl (((mI S 64 1) + (1 : Int32)) + (1 : Int32)))) 65 (((mI S 64 1) + (1 : Int32)) + (1 : Int32)).toNatClampNeg (.inl (vp_nar .byte (((x.toUInt32 >>> ((8 : Int32).toUInt32 &&& Int32.toUInt32 31)).toInt32).toInt8.toInt32)))) 64 1 (.inl ((((mI S 64 1) + (1 : Int32)) + (1 : Int32)) + (1 : Int32)))) 65 ((((mI S 64 1) + (1 : Int32)) + (1 : Int32)) + (1 : Int32)).toNatClampNeg (.inl (vp_nar .byte (((x.toUInt32 >>> ((0 : Int32).toUInt32 &&& Int32.toUInt32 31)).toInt32).toInt8.toInt32)))) 64 1 (.inl (((((mI S 64 1) + (1 : Int32)) + (1 : Int32)) + (1 : Int32)) + (1 : Int32))))))))))))) : ma_wp X d w 138 0 [(0, .inr (.inr (some 64))), (1, .inl x)] [] S Q := by
  refine zw_push hm_138 dX11_addBytes_0 (v := .inl (24 : Int32)) rfl ?_
  refine zw_sto hm_138 dX11_addBytes_2 [(2, .inl (24 : Int32)), (0, .inr (.inr (some 64))), (1, .inl x)] rfl rfl rfl ?_
  refine zw_push hm_138 dX11_addBytes_3 (v := .inl (24 : Int32)) rfl ?_
  refine zw_if0 hm_138 dX11_addBytes_4 (t := 45) rfl zc0_lt (fun hc => absurd hc (by decide)) (fun _ => ?_)
  refine zw_push hm_138 dX11_addBytes_7 (v := .inr (.inr (some 64))) rfl ?_
  refine zw_gf hm_138 dX11_addBytes_8 (v := .inl (mI S 64 1)) (zT_is hS s_64) (zT_t hS s_64) rfl f_11_68_11 rfl ?_
  refine zw_push hm_138 dX11_addBytes_11 (v := .inl (100 : Int32)) rfl ?_
  refine zw_if2 hm_138 dX11_addBytes_13 (t := 45) rfl zc2_ge ?_ ?_
  · intro hc
    rw [if_pos hc] at h
    exact zw_vret hm_138 dX11_addBytes_45 h
  · intro hc
    rw [if_neg hc] at h
    refine zw_push hm_138 dX11_addBytes_16 (v := .inr (.inr (some 64))) rfl ?_
    refine zw_gf hm_138 dX11_addBytes_17 (v := .inr (.inr (some 65))) (zT_is hS s_64) (zT_t hS s_64) rfl f_11_9_11 (zT_f hS r_64_0) ?_
    refine zw_push hm_138 dX11_addBytes_20 (v := .inr (.inr (some 64))) rfl ?_
    refine zw_gf hm_138 dX11_addBytes_21 (v := .inl (mI S 64 1)) (zT_is hS s_64) (zT_t hS s_64) rfl f_11_68_11 rfl ?_
    refine zw_push hm_138 dX11_addBytes_24 (v := .inl x) rfl ?_
    refine zw_push hm_138 dX11_addBytes_25 (v := .inl (24 : Int32)) rfl ?_
    refine zw_stk hm_138 dX11_addBytes_26 (st₉ := [.inl ((x.toUInt32 >>> ((24 : Int32).toUInt32 &&& Int32.toUInt32 31)).toInt32), .inl (mI S 64 1), .inr (.inr (some 65))]) rfl rfl ?_
    refine zw_stk hm_138 dX11_addBytes_27 (st₉ := [.inl (((x.toUInt32 >>> ((24 : Int32).toUInt32 &&& Int32.toUInt32 31)).toInt32).toInt8.toInt32), .inl (mI S 64 1), .inr (.inr (some 65))]) rfl rfl ?_
    obtain ⟨hg, h⟩ := h
    refine zw_bas21 hm_138 dX11_addBytes_28 (zT_is hS s_65) (zT_h hS s_65) rfl hg ?_
    refine zw_push hm_138 dX11_addBytes_29 (v := .inr (.inr (some 64))) rfl ?_
    refine zw_stk hm_138 dX11_addBytes_30 (st₉ := [.inr (.inr (some 64)), .inr (.inr (some 64))]) rfl rfl ?_
    refine zw_gf hm_138 dX11_addBytes_31 (v := .inl (mI S 64 1)) (zT_is (zT_pi hS) s_64) (zT_t (zT_pi hS) s_64) rfl f_11_68_11 rfl ?_
    refine zw_push hm_138 dX11_addBytes_34 (v := .inl (1 : Int32)) rfl ?_
    refine zw_stk hm_138 dX11_addBytes_35 (st₉ := [.inl ((mI S 64 1) + (1 : Int32)), .inr (.inr (some 64))]) rfl rfl ?_
    refine zw_pf hm_138 dX11_addBytes_36 (zT_is (zT_pi hS) s_64) (zT_t (zT_pi hS) s_64) p_11_68_11 zk_int ?_
    refine zw_sto hm_138 dX11_addBytes_39 [(2, .inl (16 : Int32)), (0, .inr (.inr (some 64))), (1, .inl x)] rfl rfl rfl ?_
    refine zw_goto hm_138 dX11_addBytes_42 (t := 3) rfl ?_
    refine zw_push hm_138 dX11_addBytes_3 (v := .inl (16 : Int32)) rfl ?_
    refine zw_if0 hm_138 dX11_addBytes_4 (t := 45) rfl zc0_lt (fun hc => absurd hc (by decide)) (fun _ => ?_)
    refine zw_push hm_138 dX11_addBytes_7 (v := .inr (.inr (some 64))) rfl ?_
    refine zw_gf hm_138 dX11_addBytes_8 (v := .inl ((mI S 64 1) + (1 : Int32))) (zT_is (zT_pi (zT_pi hS)) s_64) (zT_t (zT_pi (zT_pi hS)) s_64) rfl f_11_68_11 rfl ?_
    refine zw_push hm_138 dX11_addBytes_11 (v := .inl (100 : Int32)) rfl ?_
    refine zw_if2 hm_138 dX11_addBytes_13 (t := 45) rfl zc2_ge ?_ ?_
    · intro hc
      rw [if_pos hc] at h
      exact zw_vret hm_138 dX11_addBytes_45 h
    · intro hc
      rw [if_neg hc] at h
      refine zw_push hm_138 dX11_addBytes_16 (v := .inr (.inr (some 64))) rfl ?_
      refine zw_gf hm_138 dX11_addBytes_17 (v := .inr (.inr (some 65))) (zT_is (zT_pi (zT_pi hS)) s_64) (zT_t (zT_pi (zT_pi hS)) s_64) rfl f_11_9_11 (zT_f (zT_pi (zT_pi hS)) r_64_0) ?_
      refine zw_push hm_138 dX11_addBytes_20 (v := .inr (.inr (some 64))) rfl ?_
      refine zw_gf hm_138 dX11_addBytes_21 (v := .inl ((mI S 64 1) + (1 : Int32))) (zT_is (zT_pi (zT_pi hS)) s_64) (zT_t (zT_pi (zT_pi hS)) s_64) rfl f_11_68_11 rfl ?_
      refine zw_push hm_138 dX11_addBytes_24 (v := .inl x) rfl ?_
      refine zw_push hm_138 dX11_addBytes_25 (v := .inl (16 : Int32)) rfl ?_
      refine zw_stk hm_138 dX11_addBytes_26 (st₉ := [.inl ((x.toUInt32 >>> ((16 : Int32).toUInt32 &&& Int32.toUInt32 31)).toInt32), .inl ((mI S 64 1) + (1 : Int32)), .inr (.inr (some 65))]) rfl rfl ?_
      refine zw_stk hm_138 dX11_addBytes_27 (st₉ := [.inl (((x.toUInt32 >>> ((16 : Int32).toUInt32 &&& Int32.toUInt32 31)).toInt32).toInt8.toInt32), .inl ((mI S 64 1) + (1 : Int32)), .inr (.inr (some 65))]) rfl rfl ?_
      obtain ⟨hg, h⟩ := h
      refine zw_bas21 hm_138 dX11_addBytes_28 (zT_is (zT_pi (zT_pi hS)) s_65) (zT_h (zT_pi (zT_pi hS)) s_65) rfl hg ?_
      refine zw_push hm_138 dX11_addBytes_29 (v := .inr (.inr (some 64))) rfl ?_
      refine zw_stk hm_138 dX11_addBytes_30 (st₉ := [.inr (.inr (some 64)), .inr (.inr (some 64))]) rfl rfl ?_
      refine zw_gf hm_138 dX11_addBytes_31 (v := .inl ((mI S 64 1) + (1 : Int32))) (zT_is (zT_pi (zT_pi (zT_pi hS))) s_64) (zT_t (zT_pi (zT_pi (zT_pi hS))) s_64) rfl f_11_68_11 rfl ?_
      refine zw_push hm_138 dX11_addBytes_34 (v := .inl (1 : Int32)) rfl ?_
      refine zw_stk hm_138 dX11_addBytes_35 (st₉ := [.inl (((mI S 64 1) + (1 : Int32)) + (1 : Int32)), .inr (.inr (some 64))]) rfl rfl ?_
      refine zw_pf hm_138 dX11_addBytes_36 (zT_is (zT_pi (zT_pi (zT_pi hS))) s_64) (zT_t (zT_pi (zT_pi (zT_pi hS))) s_64) p_11_68_11 zk_int ?_
      refine zw_sto hm_138 dX11_addBytes_39 [(2, .inl (8 : Int32)), (0, .inr (.inr (some 64))), (1, .inl x)] rfl rfl rfl ?_
      refine zw_goto hm_138 dX11_addBytes_42 (t := 3) rfl ?_
      refine zw_push hm_138 dX11_addBytes_3 (v := .inl (8 : Int32)) rfl ?_
      refine zw_if0 hm_138 dX11_addBytes_4 (t := 45) rfl zc0_lt (fun hc => absurd hc (by decide)) (fun _ => ?_)
      refine zw_push hm_138 dX11_addBytes_7 (v := .inr (.inr (some 64))) rfl ?_
      refine zw_gf hm_138 dX11_addBytes_8 (v := .inl (((mI S 64 1) + (1 : Int32)) + (1 : Int32))) (zT_is (zT_pi (zT_pi (zT_pi (zT_pi hS)))) s_64) (zT_t (zT_pi (zT_pi (zT_pi (zT_pi hS)))) s_64) rfl f_11_68_11 rfl ?_
      refine zw_push hm_138 dX11_addBytes_11 (v := .inl (100 : Int32)) rfl ?_
      refine zw_if2 hm_138 dX11_addBytes_13 (t := 45) rfl zc2_ge ?_ ?_
      · intro hc
        rw [if_pos hc] at h
        exact zw_vret hm_138 dX11_addBytes_45 h
      · intro hc
        rw [if_neg hc] at h
        refine zw_push hm_138 dX11_addBytes_16 (v := .inr (.inr (some 64))) rfl ?_
        refine zw_gf hm_138 dX11_addBytes_17 (v := .inr (.inr (some 65))) (zT_is (zT_pi (zT_pi (zT_pi (zT_pi hS)))) s_64) (zT_t (zT_pi (zT_pi (zT_pi (zT_pi hS)))) s_64) rfl f_11_9_11 (zT_f (zT_pi (zT_pi (zT_pi (zT_pi hS)))) r_64_0) ?_
        refine zw_push hm_138 dX11_addBytes_20 (v := .inr (.inr (some 64))) rfl ?_
        refine zw_gf hm_138 dX11_addBytes_21 (v := .inl (((mI S 64 1) + (1 : Int32)) + (1 : Int32))) (zT_is (zT_pi (zT_pi (zT_pi (zT_pi hS)))) s_64) (zT_t (zT_pi (zT_pi (zT_pi (zT_pi hS)))) s_64) rfl f_11_68_11 rfl ?_
        refine zw_push hm_138 dX11_addBytes_24 (v := .inl x) rfl ?_
        refine zw_push hm_138 dX11_addBytes_25 (v := .inl (8 : Int32)) rfl ?_
        refine zw_stk hm_138 dX11_addBytes_26 (st₉ := [.inl ((x.toUInt32 >>> ((8 : Int32).toUInt32 &&& Int32.toUInt32 31)).toInt32), .inl (((mI S 64 1) + (1 : Int32)) + (1 : Int32)), .inr (.inr (some 65))]) rfl rfl ?_
        refine zw_stk hm_138 dX11_addBytes_27 (st₉ := [.inl (((x.toUInt32 >>> ((8 : Int32).toUInt32 &&& Int32.toUInt32 31)).toInt32).toInt8.toInt32), .inl (((mI S 64 1) + (1 : Int32)) + (1 : Int32)), .inr (.inr (some 65))]) rfl rfl ?_
        obtain ⟨hg, h⟩ := h
        refine zw_bas21 hm_138 dX11_addBytes_28 (zT_is (zT_pi (zT_pi (zT_pi (zT_pi hS)))) s_65) (zT_h (zT_pi (zT_pi (zT_pi (zT_pi hS)))) s_65) rfl hg ?_
        refine zw_push hm_138 dX11_addBytes_29 (v := .inr (.inr (some 64))) rfl ?_
        refine zw_stk hm_138 dX11_addBytes_30 (st₉ := [.inr (.inr (some 64)), .inr (.inr (some 64))]) rfl rfl ?_
        refine zw_gf hm_138 dX11_addBytes_31 (v := .inl (((mI S 64 1) + (1 : Int32)) + (1 : Int32))) (zT_is (zT_pi (zT_pi (zT_pi (zT_pi (zT_pi hS))))) s_64) (zT_t (zT_pi (zT_pi (zT_pi (zT_pi (zT_pi hS))))) s_64) rfl f_11_68_11 rfl ?_
        refine zw_push hm_138 dX11_addBytes_34 (v := .inl (1 : Int32)) rfl ?_
        refine zw_stk hm_138 dX11_addBytes_35 (st₉ := [.inl ((((mI S 64 1) + (1 : Int32)) + (1 : Int32)) + (1 : Int32)), .inr (.inr (some 64))]) rfl rfl ?_
        refine zw_pf hm_138 dX11_addBytes_36 (zT_is (zT_pi (zT_pi (zT_pi (zT_pi (zT_pi hS))))) s_64) (zT_t (zT_pi (zT_pi (zT_pi (zT_pi (zT_pi hS))))) s_64) p_11_68_11 zk_int ?_
        refine zw_sto hm_138 dX11_addBytes_39 [(2, .inl (0 : Int32)), (0, .inr (.inr (some 64))), (1, .inl x)] rfl rfl rfl ?_
        refine zw_goto hm_138 dX11_addBytes_42 (t := 3) rfl ?_
        refine zw_push hm_138 dX11_addBytes_3 (v := .inl (0 : Int32)) rfl ?_
        refine zw_if0 hm_138 dX11_addBytes_4 (t := 45) rfl zc0_lt (fun hc => absurd hc (by decide)) (fun _ => ?_)
        refine zw_push hm_138 dX11_addBytes_7 (v := .inr (.inr (some 64))) rfl ?_
        refine zw_gf hm_138 dX11_addBytes_8 (v := .inl ((((mI S 64 1) + (1 : Int32)) + (1 : Int32)) + (1 : Int32))) (zT_is (zT_pi (zT_pi (zT_pi (zT_pi (zT_pi (zT_pi hS)))))) s_64) (zT_t (zT_pi (zT_pi (zT_pi (zT_pi (zT_pi (zT_pi hS)))))) s_64) rfl f_11_68_11 rfl ?_
        refine zw_push hm_138 dX11_addBytes_11 (v := .inl (100 : Int32)) rfl ?_
        refine zw_if2 hm_138 dX11_addBytes_13 (t := 45) rfl zc2_ge ?_ ?_
        · intro hc
          rw [if_pos hc] at h
          exact zw_vret hm_138 dX11_addBytes_45 h
        · intro hc
          rw [if_neg hc] at h
          refine zw_push hm_138 dX11_addBytes_16 (v := .inr (.inr (some 64))) rfl ?_
          refine zw_gf hm_138 dX11_addBytes_17 (v := .inr (.inr (some 65))) (zT_is (zT_pi (zT_pi (zT_pi (zT_pi (zT_pi (zT_pi hS)))))) s_64) (zT_t (zT_pi (zT_pi (zT_pi (zT_pi (zT_pi (zT_pi hS)))))) s_64) rfl f_11_9_11 (zT_f (zT_pi (zT_pi (zT_pi (zT_pi (zT_pi (zT_pi hS)))))) r_64_0) ?_
          refine zw_push hm_138 dX11_addBytes_20 (v := .inr (.inr (some 64))) rfl ?_
          refine zw_gf hm_138 dX11_addBytes_21 (v := .inl ((((mI S 64 1) + (1 : Int32)) + (1 : Int32)) + (1 : Int32))) (zT_is (zT_pi (zT_pi (zT_pi (zT_pi (zT_pi (zT_pi hS)))))) s_64) (zT_t (zT_pi (zT_pi (zT_pi (zT_pi (zT_pi (zT_pi hS)))))) s_64) rfl f_11_68_11 rfl ?_
          refine zw_push hm_138 dX11_addBytes_24 (v := .inl x) rfl ?_
          refine zw_push hm_138 dX11_addBytes_25 (v := .inl (0 : Int32)) rfl ?_
          refine zw_stk hm_138 dX11_addBytes_26 (st₉ := [.inl ((x.toUInt32 >>> ((0 : Int32).toUInt32 &&& Int32.toUInt32 31)).toInt32), .inl ((((mI S 64 1) + (1 : Int32)) + (1 : Int32)) + (1 : Int32)), .inr (.inr (some 65))]) rfl rfl ?_
          refine zw_stk hm_138 dX11_addBytes_27 (st₉ := [.inl (((x.toUInt32 >>> ((0 : Int32).toUInt32 &&& Int32.toUInt32 31)).toInt32).toInt8.toInt32), .inl ((((mI S 64 1) + (1 : Int32)) + (1 : Int32)) + (1 : Int32)), .inr (.inr (some 65))]) rfl rfl ?_
          obtain ⟨hg, h⟩ := h
          refine zw_bas21 hm_138 dX11_addBytes_28 (zT_is (zT_pi (zT_pi (zT_pi (zT_pi (zT_pi (zT_pi hS)))))) s_65) (zT_h (zT_pi (zT_pi (zT_pi (zT_pi (zT_pi (zT_pi hS)))))) s_65) rfl hg ?_
          refine zw_push hm_138 dX11_addBytes_29 (v := .inr (.inr (some 64))) rfl ?_
          refine zw_stk hm_138 dX11_addBytes_30 (st₉ := [.inr (.inr (some 64)), .inr (.inr (some 64))]) rfl rfl ?_
          refine zw_gf hm_138 dX11_addBytes_31 (v := .inl ((((mI S 64 1) + (1 : Int32)) + (1 : Int32)) + (1 : Int32))) (zT_is (zT_pi (zT_pi (zT_pi (zT_pi (zT_pi (zT_pi (zT_pi hS))))))) s_64) (zT_t (zT_pi (zT_pi (zT_pi (zT_pi (zT_pi (zT_pi (zT_pi hS))))))) s_64) rfl f_11_68_11 rfl ?_
          refine zw_push hm_138 dX11_addBytes_34 (v := .inl (1 : Int32)) rfl ?_
          refine zw_stk hm_138 dX11_addBytes_35 (st₉ := [.inl (((((mI S 64 1) + (1 : Int32)) + (1 : Int32)) + (1 : Int32)) + (1 : Int32)), .inr (.inr (some 64))]) rfl rfl ?_
          refine zw_pf hm_138 dX11_addBytes_36 (zT_is (zT_pi (zT_pi (zT_pi (zT_pi (zT_pi (zT_pi (zT_pi hS))))))) s_64) (zT_t (zT_pi (zT_pi (zT_pi (zT_pi (zT_pi (zT_pi (zT_pi hS))))))) s_64) p_11_68_11 zk_int ?_
          refine zw_sto hm_138 dX11_addBytes_39 [(2, .inl (-8 : Int32)), (0, .inr (.inr (some 64))), (1, .inl x)] rfl rfl rfl ?_
          refine zw_goto hm_138 dX11_addBytes_42 (t := 3) rfl ?_
          refine zw_push hm_138 dX11_addBytes_3 (v := .inl (-8 : Int32)) rfl ?_
          refine zw_if0 hm_138 dX11_addBytes_4 (t := 45) rfl zc0_lt (fun _ => ?_) (fun hc => absurd (by decide) hc)
          exact zw_vret hm_138 dX11_addBytes_45 h
theorem sp_138_64_sq {X : Nat × (Nat → Int32)} {d w : Nat} {f : Nat → Nat → Int32} {r : Nat → Nat → Option Nat} {C Z N : Nat} {Q : Option ma_V ⊕ Nat → ma_S → Prop} {LL : Int} {r0 : Nat→Int32} {I0 : Nat→Nat→Int32} {L0 : Nat→Nat→Int64} {R0 : zRT} {S : ma_S} (x : Int32) (hd : 0 ≤ d) (hw : 0 ≤ w) (hI : zFe f r C Z N S) (hpre0 : (mI S 64 1).toInt = LL ∧ (mI S 64 1).toInt ≤ 96) (hpre1 : (mI S 65) = r0) (hpre2 : zFm I0 L0 R0 S) (K : ∀ S₉, zFe f r C Z N S₉ → ((mI S₉ 64 1).toInt = LL + 4) → (zFq r0 (mI S₉ 65) LL x) → (zFm I0 L0 R0 S₉) → Q (.inl none) S₉) : ma_wp X d w 138 0 [(0, .inr (.inr (some 64))), (1, .inl x)] [] S Q := by
  refine g_138_64_sq_0 x (by omega) (by omega) (zG_T hI) ?_
  have f1 := zG_s hI (0) (100) (c := 64) (k := 1) (by decide)
  have li2 : (100 : Int32).toInt = 100 := rfl
  refine zd (fun h3 => ?_) (fun h3 => ?_)
  · skip
    have g4 := i_le h3
    exact K _ hI (show (mI S 64 1).toInt = LL + 4 from by first | (omega)) (show zFq r0 (mI S 65) LL x from by first | (omega) | (exfalso; omega)) (show zFm I0 L0 R0 S from by first | (exact hpre2))
  · skip
    have g5 := i_nle h3
    refine ⟨i_ix (by omega) (by omega), ?_⟩
    first | have e6 : ((mI S 64 1) + (1 : Int32)).toInt = (mI S 64 1).toInt + (1) := i_addk rfl (by omega) (by omega) | have b7 := i_bd ((mI S 64 1) + (1 : Int32))
    refine zd (fun h8 => ?_) (fun h8 => ?_)
    · skip
      have g9 := i_le h8
      have hI10 : zFe f r C Z N (ma_put S 65 (mI S 64 1).toNatClampNeg (.inl (vp_nar .byte (((x.toUInt32 >>> ((24 : Int32).toUInt32 &&& Int32.toUInt32 31)).toInt32).toInt8.toInt32)))) := zG_fa hI rfl (by decide) (by decide) (by decide) trivial
      have hI11 : zFe f r C Z N (ma_put (ma_put S 65 (mI S 64 1).toNatClampNeg (.inl (vp_nar .byte (((x.toUInt32 >>> ((24 : Int32).toUInt32 &&& Int32.toUInt32 31)).toInt32).toInt8.toInt32)))) 64 1 (.inl ((mI S 64 1) + (1 : Int32)))) := zG_sp hI10 (0) (100) rfl (by decide) (by decide) (by decide) trivial (by omega) (by omega)
      exact K _ hI11 (show ((mI S 64 1) + (1 : Int32)).toInt = LL + 4 from by first | (omega)) (show zFq r0 (mI (ma_put (ma_put S 65 (mI S 64 1).toNatClampNeg (.inl (vp_nar .byte (((x.toUInt32 >>> ((24 : Int32).toUInt32 &&& Int32.toUInt32 31)).toInt32).toInt8.toInt32)))) 64 1 (.inl ((mI S 64 1) + (1 : Int32)))) 65) LL x from by first | (omega) | (exfalso; omega)) (show zFm I0 L0 R0 (ma_put (ma_put S 65 (mI S 64 1).toNatClampNeg (.inl (vp_nar .byte (((x.toUInt32 >>> ((24 : Int32).toUInt32 &&& Int32.toUInt32 31)).toInt32).toInt8.toInt32)))) 64 1 (.inl ((mI S 64 1) + (1 : Int32)))) from by first | (exact (fn9_p (fn9_p hpre2 (by decide)) (by decide))))
    · skip
      have g12 := i_nle h8
      refine ⟨i_ix (by omega) (by omega), ?_⟩
      first | have e13 : (((mI S 64 1) + (1 : Int32)) + (1 : Int32)).toInt = ((mI S 64 1) + (1 : Int32)).toInt + (1) := i_addk rfl (by omega) (by omega) | have b14 := i_bd (((mI S 64 1) + (1 : Int32)) + (1 : Int32))
      refine zd (fun h15 => ?_) (fun h15 => ?_)
      · skip
        have g16 := i_le h15
        have hI17 : zFe f r C Z N (ma_put S 65 (mI S 64 1).toNatClampNeg (.inl (vp_nar .byte (((x.toUInt32 >>> ((24 : Int32).toUInt32 &&& Int32.toUInt32 31)).toInt32).toInt8.toInt32)))) := zG_fa hI rfl (by decide) (by decide) (by decide) trivial
        have hI18 : zFe f r C Z N (ma_put (ma_put S 65 (mI S 64 1).toNatClampNeg (.inl (vp_nar .byte (((x.toUInt32 >>> ((24 : Int32).toUInt32 &&& Int32.toUInt32 31)).toInt32).toInt8.toInt32)))) 64 1 (.inl ((mI S 64 1) + (1 : Int32)))) := zG_sp hI17 (0) (100) rfl (by decide) (by decide) (by decide) trivial (by omega) (by omega)
        have hI19 : zFe f r C Z N (ma_put (ma_put (ma_put S 65 (mI S 64 1).toNatClampNeg (.inl (vp_nar .byte (((x.toUInt32 >>> ((24 : Int32).toUInt32 &&& Int32.toUInt32 31)).toInt32).toInt8.toInt32)))) 64 1 (.inl ((mI S 64 1) + (1 : Int32)))) 65 ((mI S 64 1) + (1 : Int32)).toNatClampNeg (.inl (vp_nar .byte (((x.toUInt32 >>> ((16 : Int32).toUInt32 &&& Int32.toUInt32 31)).toInt32).toInt8.toInt32)))) := zG_fa hI18 rfl (by decide) (by decide) (by decide) trivial
        have hI20 : zFe f r C Z N (ma_put (ma_put (ma_put (ma_put S 65 (mI S 64 1).toNatClampNeg (.inl (vp_nar .byte (((x.toUInt32 >>> ((24 : Int32).toUInt32 &&& Int32.toUInt32 31)).toInt32).toInt8.toInt32)))) 64 1 (.inl ((mI S 64 1) + (1 : Int32)))) 65 ((mI S 64 1) + (1 : Int32)).toNatClampNeg (.inl (vp_nar .byte (((x.toUInt32 >>> ((16 : Int32).toUInt32 &&& Int32.toUInt32 31)).toInt32).toInt8.toInt32)))) 64 1 (.inl (((mI S 64 1) + (1 : Int32)) + (1 : Int32)))) := zG_sp hI19 (0) (100) rfl (by decide) (by decide) (by decide) trivial (by omega) (by omega)
        exact K _ hI20 (show (((mI S 64 1) + (1 : Int32)) + (1 : Int32)).toInt = LL + 4 from by first | (omega)) (show zFq r0 (mI (ma_put (ma_put (ma_put (ma_put S 65 (mI S 64 1).toNatClampNeg (.inl (vp_nar .byte (((x.toUInt32 >>> ((24 : Int32).toUInt32 &&& Int32.toUInt32 31)).toInt32).toInt8.toInt32)))) 64 1 (.inl ((mI S 64 1) + (1 : Int32)))) 65 ((mI S 64 1) + (1 : Int32)).toNatClampNeg (.inl (vp_nar .byte (((x.toUInt32 >>> ((16 : Int32).toUInt32 &&& Int32.toUInt32 31)).toInt32).toInt8.toInt32)))) 64 1 (.inl (((mI S 64 1) + (1 : Int32)) + (1 : Int32)))) 65) LL x from by first | (omega) | (exfalso; omega)) (show zFm I0 L0 R0 (ma_put (ma_put (ma_put (ma_put S 65 (mI S 64 1).toNatClampNeg (.inl (vp_nar .byte (((x.toUInt32 >>> ((24 : Int32).toUInt32 &&& Int32.toUInt32 31)).toInt32).toInt8.toInt32)))) 64 1 (.inl ((mI S 64 1) + (1 : Int32)))) 65 ((mI S 64 1) + (1 : Int32)).toNatClampNeg (.inl (vp_nar .byte (((x.toUInt32 >>> ((16 : Int32).toUInt32 &&& Int32.toUInt32 31)).toInt32).toInt8.toInt32)))) 64 1 (.inl (((mI S 64 1) + (1 : Int32)) + (1 : Int32)))) from by first | (exact (fn9_p (fn9_p (fn9_p (fn9_p hpre2 (by decide)) (by decide)) (by decide)) (by decide))))
      · skip
        have g21 := i_nle h15
        refine ⟨i_ix (by omega) (by omega), ?_⟩
        first | have e22 : ((((mI S 64 1) + (1 : Int32)) + (1 : Int32)) + (1 : Int32)).toInt = (((mI S 64 1) + (1 : Int32)) + (1 : Int32)).toInt + (1) := i_addk rfl (by omega) (by omega) | have b23 := i_bd ((((mI S 64 1) + (1 : Int32)) + (1 : Int32)) + (1 : Int32))
        refine zd (fun h24 => ?_) (fun h24 => ?_)
        · skip
          have g25 := i_le h24
          have hI26 : zFe f r C Z N (ma_put S 65 (mI S 64 1).toNatClampNeg (.inl (vp_nar .byte (((x.toUInt32 >>> ((24 : Int32).toUInt32 &&& Int32.toUInt32 31)).toInt32).toInt8.toInt32)))) := zG_fa hI rfl (by decide) (by decide) (by decide) trivial
          have hI27 : zFe f r C Z N (ma_put (ma_put S 65 (mI S 64 1).toNatClampNeg (.inl (vp_nar .byte (((x.toUInt32 >>> ((24 : Int32).toUInt32 &&& Int32.toUInt32 31)).toInt32).toInt8.toInt32)))) 64 1 (.inl ((mI S 64 1) + (1 : Int32)))) := zG_sp hI26 (0) (100) rfl (by decide) (by decide) (by decide) trivial (by omega) (by omega)
          have hI28 : zFe f r C Z N (ma_put (ma_put (ma_put S 65 (mI S 64 1).toNatClampNeg (.inl (vp_nar .byte (((x.toUInt32 >>> ((24 : Int32).toUInt32 &&& Int32.toUInt32 31)).toInt32).toInt8.toInt32)))) 64 1 (.inl ((mI S 64 1) + (1 : Int32)))) 65 ((mI S 64 1) + (1 : Int32)).toNatClampNeg (.inl (vp_nar .byte (((x.toUInt32 >>> ((16 : Int32).toUInt32 &&& Int32.toUInt32 31)).toInt32).toInt8.toInt32)))) := zG_fa hI27 rfl (by decide) (by decide) (by decide) trivial
          have hI29 : zFe f r C Z N (ma_put (ma_put (ma_put (ma_put S 65 (mI S 64 1).toNatClampNeg (.inl (vp_nar .byte (((x.toUInt32 >>> ((24 : Int32).toUInt32 &&& Int32.toUInt32 31)).toInt32).toInt8.toInt32)))) 64 1 (.inl ((mI S 64 1) + (1 : Int32)))) 65 ((mI S 64 1) + (1 : Int32)).toNatClampNeg (.inl (vp_nar .byte (((x.toUInt32 >>> ((16 : Int32).toUInt32 &&& Int32.toUInt32 31)).toInt32).toInt8.toInt32)))) 64 1 (.inl (((mI S 64 1) + (1 : Int32)) + (1 : Int32)))) := zG_sp hI28 (0) (100) rfl (by decide) (by decide) (by decide) trivial (by omega) (by omega)
          have hI30 : zFe f r C Z N (ma_put (ma_put (ma_put (ma_put (ma_put S 65 (mI S 64 1).toNatClampNeg (.inl (vp_nar .byte (((x.toUInt32 >>> ((24 : Int32).toUInt32 &&& Int32.toUInt32 31)).toInt32).toInt8.toInt32)))) 64 1 (.inl ((mI S 64 1) + (1 : Int32)))) 65 ((mI S 64 1) + (1 : Int32)).toNatClampNeg (.inl (vp_nar .byte (((x.toUInt32 >>> ((16 : Int32).toUInt32 &&& Int32.toUInt32 31)).toInt32).toInt8.toInt32)))) 64 1 (.inl (((mI S 64 1) + (1 : Int32)) + (1 : Int32)))) 65 (((mI S 64 1) + (1 : Int32)) + (1 : Int32)).toNatClampNeg (.inl (vp_nar .byte (((x.toUInt32 >>> ((8 : Int32).toUInt32 &&& Int32.toUInt32 31)).toInt32).toInt8.toInt32)))) := zG_fa hI29 rfl (by decide) (by decide) (by decide) trivial
          have hI31 : zFe f r C Z N (ma_put (ma_put (ma_put (ma_put (ma_put (ma_put S 65 (mI S 64 1).toNatClampNeg (.inl (vp_nar .byte (((x.toUInt32 >>> ((24 : Int32).toUInt32 &&& Int32.toUInt32 31)).toInt32).toInt8.toInt32)))) 64 1 (.inl ((mI S 64 1) + (1 : Int32)))) 65 ((mI S 64 1) + (1 : Int32)).toNatClampNeg (.inl (vp_nar .byte (((x.toUInt32 >>> ((16 : Int32).toUInt32 &&& Int32.toUInt32 31)).toInt32).toInt8.toInt32)))) 64 1 (.inl (((mI S 64 1) + (1 : Int32)) + (1 : Int32)))) 65 (((mI S 64 1) + (1 : Int32)) + (1 : Int32)).toNatClampNeg (.inl (vp_nar .byte (((x.toUInt32 >>> ((8 : Int32).toUInt32 &&& Int32.toUInt32 31)).toInt32).toInt8.toInt32)))) 64 1 (.inl ((((mI S 64 1) + (1 : Int32)) + (1 : Int32)) + (1 : Int32)))) := zG_sp hI30 (0) (100) rfl (by decide) (by decide) (by decide) trivial (by omega) (by omega)
          exact K _ hI31 (show ((((mI S 64 1) + (1 : Int32)) + (1 : Int32)) + (1 : Int32)).toInt = LL + 4 from by first | (omega)) (show zFq r0 (mI (ma_put (ma_put (ma_put (ma_put (ma_put (ma_put S 65 (mI S 64 1).toNatClampNeg (.inl (vp_nar .byte (((x.toUInt32 >>> ((24 : Int32).toUInt32 &&& Int32.toUInt32 31)).toInt32).toInt8.toInt32)))) 64 1 (.inl ((mI S 64 1) + (1 : Int32)))) 65 ((mI S 64 1) + (1 : Int32)).toNatClampNeg (.inl (vp_nar .byte (((x.toUInt32 >>> ((16 : Int32).toUInt32 &&& Int32.toUInt32 31)).toInt32).toInt8.toInt32)))) 64 1 (.inl (((mI S 64 1) + (1 : Int32)) + (1 : Int32)))) 65 (((mI S 64 1) + (1 : Int32)) + (1 : Int32)).toNatClampNeg (.inl (vp_nar .byte (((x.toUInt32 >>> ((8 : Int32).toUInt32 &&& Int32.toUInt32 31)).toInt32).toInt8.toInt32)))) 64 1 (.inl ((((mI S 64 1) + (1 : Int32)) + (1 : Int32)) + (1 : Int32)))) 65) LL x from by first | (omega) | (exfalso; omega)) (show zFm I0 L0 R0 (ma_put (ma_put (ma_put (ma_put (ma_put (ma_put S 65 (mI S 64 1).toNatClampNeg (.inl (vp_nar .byte (((x.toUInt32 >>> ((24 : Int32).toUInt32 &&& Int32.toUInt32 31)).toInt32).toInt8.toInt32)))) 64 1 (.inl ((mI S 64 1) + (1 : Int32)))) 65 ((mI S 64 1) + (1 : Int32)).toNatClampNeg (.inl (vp_nar .byte (((x.toUInt32 >>> ((16 : Int32).toUInt32 &&& Int32.toUInt32 31)).toInt32).toInt8.toInt32)))) 64 1 (.inl (((mI S 64 1) + (1 : Int32)) + (1 : Int32)))) 65 (((mI S 64 1) + (1 : Int32)) + (1 : Int32)).toNatClampNeg (.inl (vp_nar .byte (((x.toUInt32 >>> ((8 : Int32).toUInt32 &&& Int32.toUInt32 31)).toInt32).toInt8.toInt32)))) 64 1 (.inl ((((mI S 64 1) + (1 : Int32)) + (1 : Int32)) + (1 : Int32)))) from by first | (exact (fn9_p (fn9_p (fn9_p (fn9_p (fn9_p (fn9_p hpre2 (by decide)) (by decide)) (by decide)) (by decide)) (by decide)) (by decide))))
        · skip
          have g32 := i_nle h24
          refine ⟨i_ix (by omega) (by omega), ?_⟩
          have hI33 : zFe f r C Z N (ma_put S 65 (mI S 64 1).toNatClampNeg (.inl (vp_nar .byte (((x.toUInt32 >>> ((24 : Int32).toUInt32 &&& Int32.toUInt32 31)).toInt32).toInt8.toInt32)))) := zG_fa hI rfl (by decide) (by decide) (by decide) trivial
          have hI34 : zFe f r C Z N (ma_put (ma_put S 65 (mI S 64 1).toNatClampNeg (.inl (vp_nar .byte (((x.toUInt32 >>> ((24 : Int32).toUInt32 &&& Int32.toUInt32 31)).toInt32).toInt8.toInt32)))) 64 1 (.inl ((mI S 64 1) + (1 : Int32)))) := zG_sp hI33 (0) (100) rfl (by decide) (by decide) (by decide) trivial (by omega) (by omega)
          have hI35 : zFe f r C Z N (ma_put (ma_put (ma_put S 65 (mI S 64 1).toNatClampNeg (.inl (vp_nar .byte (((x.toUInt32 >>> ((24 : Int32).toUInt32 &&& Int32.toUInt32 31)).toInt32).toInt8.toInt32)))) 64 1 (.inl ((mI S 64 1) + (1 : Int32)))) 65 ((mI S 64 1) + (1 : Int32)).toNatClampNeg (.inl (vp_nar .byte (((x.toUInt32 >>> ((16 : Int32).toUInt32 &&& Int32.toUInt32 31)).toInt32).toInt8.toInt32)))) := zG_fa hI34 rfl (by decide) (by decide) (by decide) trivial
          have hI36 : zFe f r C Z N (ma_put (ma_put (ma_put (ma_put S 65 (mI S 64 1).toNatClampNeg (.inl (vp_nar .byte (((x.toUInt32 >>> ((24 : Int32).toUInt32 &&& Int32.toUInt32 31)).toInt32).toInt8.toInt32)))) 64 1 (.inl ((mI S 64 1) + (1 : Int32)))) 65 ((mI S 64 1) + (1 : Int32)).toNatClampNeg (.inl (vp_nar .byte (((x.toUInt32 >>> ((16 : Int32).toUInt32 &&& Int32.toUInt32 31)).toInt32).toInt8.toInt32)))) 64 1 (.inl (((mI S 64 1) + (1 : Int32)) + (1 : Int32)))) := zG_sp hI35 (0) (100) rfl (by decide) (by decide) (by decide) trivial (by omega) (by omega)
          have hI37 : zFe f r C Z N (ma_put (ma_put (ma_put (ma_put (ma_put S 65 (mI S 64 1).toNatClampNeg (.inl (vp_nar .byte (((x.toUInt32 >>> ((24 : Int32).toUInt32 &&& Int32.toUInt32 31)).toInt32).toInt8.toInt32)))) 64 1 (.inl ((mI S 64 1) + (1 : Int32)))) 65 ((mI S 64 1) + (1 : Int32)).toNatClampNeg (.inl (vp_nar .byte (((x.toUInt32 >>> ((16 : Int32).toUInt32 &&& Int32.toUInt32 31)).toInt32).toInt8.toInt32)))) 64 1 (.inl (((mI S 64 1) + (1 : Int32)) + (1 : Int32)))) 65 (((mI S 64 1) + (1 : Int32)) + (1 : Int32)).toNatClampNeg (.inl (vp_nar .byte (((x.toUInt32 >>> ((8 : Int32).toUInt32 &&& Int32.toUInt32 31)).toInt32).toInt8.toInt32)))) := zG_fa hI36 rfl (by decide) (by decide) (by decide) trivial
          have hI38 : zFe f r C Z N (ma_put (ma_put (ma_put (ma_put (ma_put (ma_put S 65 (mI S 64 1).toNatClampNeg (.inl (vp_nar .byte (((x.toUInt32 >>> ((24 : Int32).toUInt32 &&& Int32.toUInt32 31)).toInt32).toInt8.toInt32)))) 64 1 (.inl ((mI S 64 1) + (1 : Int32)))) 65 ((mI S 64 1) + (1 : Int32)).toNatClampNeg (.inl (vp_nar .byte (((x.toUInt32 >>> ((16 : Int32).toUInt32 &&& Int32.toUInt32 31)).toInt32).toInt8.toInt32)))) 64 1 (.inl (((mI S 64 1) + (1 : Int32)) + (1 : Int32)))) 65 (((mI S 64 1) + (1 : Int32)) + (1 : Int32)).toNatClampNeg (.inl (vp_nar .byte (((x.toUInt32 >>> ((8 : Int32).toUInt32 &&& Int32.toUInt32 31)).toInt32).toInt8.toInt32)))) 64 1 (.inl ((((mI S 64 1) + (1 : Int32)) + (1 : Int32)) + (1 : Int32)))) := zG_sp hI37 (0) (100) rfl (by decide) (by decide) (by decide) trivial (by omega) (by omega)
          have hI39 : zFe f r C Z N (ma_put (ma_put (ma_put (ma_put (ma_put (ma_put (ma_put S 65 (mI S 64 1).toNatClampNeg (.inl (vp_nar .byte (((x.toUInt32 >>> ((24 : Int32).toUInt32 &&& Int32.toUInt32 31)).toInt32).toInt8.toInt32)))) 64 1 (.inl ((mI S 64 1) + (1 : Int32)))) 65 ((mI S 64 1) + (1 : Int32)).toNatClampNeg (.inl (vp_nar .byte (((x.toUInt32 >>> ((16 : Int32).toUInt32 &&& Int32.toUInt32 31)).toInt32).toInt8.toInt32)))) 64 1 (.inl (((mI S 64 1) + (1 : Int32)) + (1 : Int32)))) 65 (((mI S 64 1) + (1 : Int32)) + (1 : Int32)).toNatClampNeg (.inl (vp_nar .byte (((x.toUInt32 >>> ((8 : Int32).toUInt32 &&& Int32.toUInt32 31)).toInt32).toInt8.toInt32)))) 64 1 (.inl ((((mI S 64 1) + (1 : Int32)) + (1 : Int32)) + (1 : Int32)))) 65 ((((mI S 64 1) + (1 : Int32)) + (1 : Int32)) + (1 : Int32)).toNatClampNeg (.inl (vp_nar .byte (((x.toUInt32 >>> ((0 : Int32).toUInt32 &&& Int32.toUInt32 31)).toInt32).toInt8.toInt32)))) := zG_fa hI38 rfl (by decide) (by decide) (by decide) trivial
          first | have e41 : (((((mI S 64 1) + (1 : Int32)) + (1 : Int32)) + (1 : Int32)) + (1 : Int32)).toInt = ((((mI S 64 1) + (1 : Int32)) + (1 : Int32)) + (1 : Int32)).toInt + (1) := i_addk rfl (by omega) (by omega) | have b42 := i_bd (((((mI S 64 1) + (1 : Int32)) + (1 : Int32)) + (1 : Int32)) + (1 : Int32))
          have hI40 : zFe f r C Z N (ma_put (ma_put (ma_put (ma_put (ma_put (ma_put (ma_put (ma_put S 65 (mI S 64 1).toNatClampNeg (.inl (vp_nar .byte (((x.toUInt32 >>> ((24 : Int32).toUInt32 &&& Int32.toUInt32 31)).toInt32).toInt8.toInt32)))) 64 1 (.inl ((mI S 64 1) + (1 : Int32)))) 65 ((mI S 64 1) + (1 : Int32)).toNatClampNeg (.inl (vp_nar .byte (((x.toUInt32 >>> ((16 : Int32).toUInt32 &&& Int32.toUInt32 31)).toInt32).toInt8.toInt32)))) 64 1 (.inl (((mI S 64 1) + (1 : Int32)) + (1 : Int32)))) 65 (((mI S 64 1) + (1 : Int32)) + (1 : Int32)).toNatClampNeg (.inl (vp_nar .byte (((x.toUInt32 >>> ((8 : Int32).toUInt32 &&& Int32.toUInt32 31)).toInt32).toInt8.toInt32)))) 64 1 (.inl ((((mI S 64 1) + (1 : Int32)) + (1 : Int32)) + (1 : Int32)))) 65 ((((mI S 64 1) + (1 : Int32)) + (1 : Int32)) + (1 : Int32)).toNatClampNeg (.inl (vp_nar .byte (((x.toUInt32 >>> ((0 : Int32).toUInt32 &&& Int32.toUInt32 31)).toInt32).toInt8.toInt32)))) 64 1 (.inl (((((mI S 64 1) + (1 : Int32)) + (1 : Int32)) + (1 : Int32)) + (1 : Int32)))) := zG_sp hI39 (0) (100) rfl (by decide) (by decide) (by decide) trivial (by omega) (by omega)
          exact K _ hI40 (show (((((mI S 64 1) + (1 : Int32)) + (1 : Int32)) + (1 : Int32)) + (1 : Int32)).toInt = LL + 4 from by first | (omega)) (show zFq r0 (mI (ma_put (ma_put (ma_put (ma_put (ma_put (ma_put (ma_put (ma_put S 65 (mI S 64 1).toNatClampNeg (.inl (vp_nar .byte (((x.toUInt32 >>> ((24 : Int32).toUInt32 &&& Int32.toUInt32 31)).toInt32).toInt8.toInt32)))) 64 1 (.inl ((mI S 64 1) + (1 : Int32)))) 65 ((mI S 64 1) + (1 : Int32)).toNatClampNeg (.inl (vp_nar .byte (((x.toUInt32 >>> ((16 : Int32).toUInt32 &&& Int32.toUInt32 31)).toInt32).toInt8.toInt32)))) 64 1 (.inl (((mI S 64 1) + (1 : Int32)) + (1 : Int32)))) 65 (((mI S 64 1) + (1 : Int32)) + (1 : Int32)).toNatClampNeg (.inl (vp_nar .byte (((x.toUInt32 >>> ((8 : Int32).toUInt32 &&& Int32.toUInt32 31)).toInt32).toInt8.toInt32)))) 64 1 (.inl ((((mI S 64 1) + (1 : Int32)) + (1 : Int32)) + (1 : Int32)))) 65 ((((mI S 64 1) + (1 : Int32)) + (1 : Int32)) + (1 : Int32)).toNatClampNeg (.inl (vp_nar .byte (((x.toUInt32 >>> ((0 : Int32).toUInt32 &&& Int32.toUInt32 31)).toInt32).toInt8.toInt32)))) 64 1 (.inl (((((mI S 64 1) + (1 : Int32)) + (1 : Int32)) + (1 : Int32)) + (1 : Int32)))) 65) LL x from by first | (exact fq_of (i0 := (mI S 64 1).toNatClampNeg) (b0 := (vp_nar .byte (((x.toUInt32 >>> ((24 : Int32).toUInt32 &&& Int32.toUInt32 31)).toInt32).toInt8.toInt32))) (i1 := ((mI S 64 1) + (1 : Int32)).toNatClampNeg) (b1 := (vp_nar .byte (((x.toUInt32 >>> ((16 : Int32).toUInt32 &&& Int32.toUInt32 31)).toInt32).toInt8.toInt32))) (i2 := (((mI S 64 1) + (1 : Int32)) + (1 : Int32)).toNatClampNeg) (b2 := (vp_nar .byte (((x.toUInt32 >>> ((8 : Int32).toUInt32 &&& Int32.toUInt32 31)).toInt32).toInt8.toInt32))) (i3 := ((((mI S 64 1) + (1 : Int32)) + (1 : Int32)) + (1 : Int32)).toNatClampNeg) (b3 := (vp_nar .byte (((x.toUInt32 >>> ((0 : Int32).toUInt32 &&& Int32.toUInt32 31)).toInt32).toInt8.toInt32))) (fun k => by rw [pr_o, pr_s, pr_o, pr_s, pr_o, pr_s, pr_o, pr_s, hpre1]) (by rw [tn_cast (by omega)]; omega) (by rw [tn_cast (by omega)]; omega) (by rw [tn_cast (by omega)]; omega) (by rw [tn_cast (by omega)]; omega) (zb_24 _) (zb_16 _) (zb_8 _) (zb_0 _))) (show zFm I0 L0 R0 (ma_put (ma_put (ma_put (ma_put (ma_put (ma_put (ma_put (ma_put S 65 (mI S 64 1).toNatClampNeg (.inl (vp_nar .byte (((x.toUInt32 >>> ((24 : Int32).toUInt32 &&& Int32.toUInt32 31)).toInt32).toInt8.toInt32)))) 64 1 (.inl ((mI S 64 1) + (1 : Int32)))) 65 ((mI S 64 1) + (1 : Int32)).toNatClampNeg (.inl (vp_nar .byte (((x.toUInt32 >>> ((16 : Int32).toUInt32 &&& Int32.toUInt32 31)).toInt32).toInt8.toInt32)))) 64 1 (.inl (((mI S 64 1) + (1 : Int32)) + (1 : Int32)))) 65 (((mI S 64 1) + (1 : Int32)) + (1 : Int32)).toNatClampNeg (.inl (vp_nar .byte (((x.toUInt32 >>> ((8 : Int32).toUInt32 &&& Int32.toUInt32 31)).toInt32).toInt8.toInt32)))) 64 1 (.inl ((((mI S 64 1) + (1 : Int32)) + (1 : Int32)) + (1 : Int32)))) 65 ((((mI S 64 1) + (1 : Int32)) + (1 : Int32)) + (1 : Int32)).toNatClampNeg (.inl (vp_nar .byte (((x.toUInt32 >>> ((0 : Int32).toUInt32 &&& Int32.toUInt32 31)).toInt32).toInt8.toInt32)))) 64 1 (.inl (((((mI S 64 1) + (1 : Int32)) + (1 : Int32)) + (1 : Int32)) + (1 : Int32)))) from by first | (exact (fn9_p (fn9_p (fn9_p (fn9_p (fn9_p (fn9_p (fn9_p (fn9_p hpre2 (by decide)) (by decide)) (by decide)) (by decide)) (by decide)) (by decide)) (by decide)) (by decide))))

/-! from 95.i28 -/
/-! the class opens a heap (written by wip/tools/gen18c.py) -/
theorem g_137_64_sq_0 {X : Nat × (Nat → Int32)} {d w : Nat} {S : ma_S} {Q : Option ma_V ⊕ Nat → ma_S → Prop} (xa : Int32) (xb : Int32) (xc : Int32) (xd : Int32) (xe : Int32) (hd : 6 ≤ d) (hw : 89 ≤ w) (hS : zT S) (h : if ((mI S 64 1) + (20 : Int32)) ≤ (100 : Int32) then (ma_wp X (d - 1) (w - 22) 138 0 [(0, .inr (.inr (some 64))), (1, .inl xa)] [] S (zv (fun S1 => zT S1 ∧ (ma_wp X (d - 1) (w - 22) 138 0 [(0, .inr (.inr (some 64))), (1, .inl xb)] [] S1 (zv (fun S3 => zT S3 ∧ (ma_wp X (d - 1) (w - 22) 138 0 [(0, .inr (.inr (some 64))), (1, .inl xc)] [] S3 (zv (fun S5 => zT S5 ∧ (ma_wp X (d - 1) (w - 22) 138 0 [(0, .inr (.inr (some 64))), (1, .inl xd)] [] S5 (zv (fun S7 => zT S7 ∧ (ma_wp X (d - 1) (w - 22) 138 0 [(0, .inr (.inr (some 64))), (1, .inl xe)] [] S7 (zv (fun S9 => zT S9 ∧ (Q (.inl (some (.inl (mI S9 64 1)))) S9)) (fun x S9 => Q (.inr x) S9)))) (fun x S9 => Q (.inr x) S9)))) (fun x S9 => Q (.inr x) S9)))) (fun x S9 => Q (.inr x) S9)))) (fun x S9 => Q (.inr x) S9))) else (Q (.inr 1) (ma_bump S))) : ma_wp X d w 137 0 [(0, .inr (.inr (some 64))), (1, .inl xa), (2, .inl xb), (3, .inl xc), (4, .inl xd), (5, .inl xe)] [] S Q := by
  refine zw_push hm_137 dX11_feed_0 (v := .inr (.inr (some 64))) rfl ?_
  refine zw_gf hm_137 dX11_feed_1 (v := .inl (mI S 64 1)) (zT_is hS s_64) (zT_t hS s_64) rfl f_11_68_11 rfl ?_
  refine zw_push hm_137 dX11_feed_4 (v := .inl (20 : Int32)) rfl ?_
  refine zw_stk hm_137 dX11_feed_6 (st₉ := [.inl ((mI S 64 1) + (20 : Int32))]) rfl rfl ?_
  refine zw_push hm_137 dX11_feed_7 (v := .inl (100 : Int32)) rfl ?_
  refine zw_if2 hm_137 dX11_feed_9 (t := 20) rfl zc2_le ?_ ?_
  · intro hc
    rw [if_pos hc] at h
    refine zw_push hm_137 dX11_feed_20 (v := .inr (.inr (some 64))) rfl ?_
    refine zw_push hm_137 dX11_feed_21 (v := .inl xa) rfl ?_
    refine zw_cv hm_137 dX11_feed_22 v_11_75_11 hm_138 [.inl xa] [] rfl (zT_rt hS s_64 rfl) ⟨by omega, by omega⟩ rfl (zw_mono h (zv_go ?_ ?_))
    · intro S1 hv
      obtain ⟨hS1, h⟩ := hv
      refine zw_push hm_137 dX11_feed_25 (v := .inr (.inr (some 64))) rfl ?_
      refine zw_push hm_137 dX11_feed_26 (v := .inl xb) rfl ?_
      refine zw_cv hm_137 dX11_feed_27 v_11_75_11 hm_138 [.inl xb] [] rfl (zT_rt hS1 s_64 rfl) ⟨by omega, by omega⟩ rfl (zw_mono h (zv_go ?_ ?_))
      · intro S3 hv
        obtain ⟨hS3, h⟩ := hv
        refine zw_push hm_137 dX11_feed_30 (v := .inr (.inr (some 64))) rfl ?_
        refine zw_push hm_137 dX11_feed_31 (v := .inl xc) rfl ?_
        refine zw_cv hm_137 dX11_feed_32 v_11_75_11 hm_138 [.inl xc] [] rfl (zT_rt hS3 s_64 rfl) ⟨by omega, by omega⟩ rfl (zw_mono h (zv_go ?_ ?_))
        · intro S5 hv
          obtain ⟨hS5, h⟩ := hv
          refine zw_push hm_137 dX11_feed_35 (v := .inr (.inr (some 64))) rfl ?_
          refine zw_push hm_137 dX11_feed_36 (v := .inl xd) rfl ?_
          refine zw_cv hm_137 dX11_feed_38 v_11_75_11 hm_138 [.inl xd] [] rfl (zT_rt hS5 s_64 rfl) ⟨by omega, by omega⟩ rfl (zw_mono h (zv_go ?_ ?_))
          · intro S7 hv
            obtain ⟨hS7, h⟩ := hv
            refine zw_push hm_137 dX11_feed_41 (v := .inr (.inr (some 64))) rfl ?_
            refine zw_push hm_137 dX11_feed_42 (v := .inl xe) rfl ?_
            refine zw_cv hm_137 dX11_feed_44 v_11_75_11 hm_138 [.inl xe] [] rfl (zT_rt hS7 s_64 rfl) ⟨by omega, by omega⟩ rfl (zw_mono h (zv_go ?_ ?_))
            · intro S9 hv
              obtain ⟨hS9, h⟩ := hv
              refine zw_push hm_137 dX11_feed_47 (v := .inr (.inr (some 64))) rfl ?_
              refine zw_gf hm_137 dX11_feed_48 (v := .inl (mI S9 64 1)) (zT_is hS9 s_64) (zT_t hS9 s_64) rfl f_11_68_11 rfl ?_
              exact zw_iret hm_137 dX11_feed_51 h
            · intro x S9 hx
              exact ⟨by decide, hx⟩
          · intro x S9 hx
            exact ⟨by decide, hx⟩
        · intro x S9 hx
          exact ⟨by decide, hx⟩
      · intro x S9 hx
        exact ⟨by decide, hx⟩
    · intro x S9 hx
      exact ⟨by decide, hx⟩
  · intro hc
    rw [if_neg hc] at h
    exact zw_thr hm_137 dX11_feed_12 dX11_feed_15 dX11_feed_16 dX11_feed_19 x_11_72_74 n_11_72 (by omega) (by show 0 + 81 ≤ w; omega) h
theorem sp_137_64_sq {X : Nat × (Nat → Int32)} {d w : Nat} {f : Nat → Nat → Int32} {r : Nat → Nat → Option Nat} {C Z N : Nat} {Q : Option ma_V ⊕ Nat → ma_S → Prop} {r0 : Nat→Int32} {I0 : Nat→Nat→Int32} {L0 : Nat→Nat→Int64} {R0 : zRT} {S : ma_S} (xa : Int32) (xb : Int32) (xc : Int32) (xd : Int32) (xe : Int32) (hd : 6 ≤ d) (hw : 89 ≤ w) (hI : zFe f r C Z N S) (hpre0 : (mI S 64 1).toInt = (mI S 94 3).toInt) (hpre1 : (mI S 65) = r0) (hpre2 : zFm I0 L0 R0 S) (K : ∀ v S₉, zFe f r C Z N S₉ → (v.toInt = (mI S₉ 94 3).toInt + 20 ∧ (mI S₉ 64 1).toInt = (mI S₉ 94 3).toInt + 20 ∧ (mI S₉ 94 3).toInt ≤ 80) → (zFd r0 (mI S₉ 65) (f 94 3).toInt 5 (zw5 xa xb xc xd xe)) → (zFm I0 L0 R0 S₉) → Q (.inl (some (.inl v))) S₉) (KX : ∀ x S₉, (x = 1) → zFe f r C Z N S₉ → ((mI S₉ 64 1).toInt = (mI S₉ 94 3).toInt ∧ 81 ≤ (mI S₉ 94 3).toInt) → ((mI S₉ 65) = r0) → (zFm I0 L0 R0 S₉) → Q (.inr x) (ma_bump S₉)) : ma_wp X d w 137 0 [(0, .inr (.inr (some 64))), (1, .inl xa), (2, .inl xb), (3, .inl xc), (4, .inl xd), (5, .inl xe)] [] S Q := by
  refine g_137_64_sq_0 xa xb xc xd xe (by omega) (by omega) (zG_T hI) ?_
  have f1 := zG_s hI (0) (100) (c := 64) (k := 1) (by decide)
  have q2 : (mI S 94 3).toInt = (f 94 3).toInt := zG_zi hI rfl
  have b3 := i_bd (mI S 94 3)
  first | have e4 : ((mI S 64 1) + (20 : Int32)).toInt = (mI S 64 1).toInt + (20) := i_addk rfl (by omega) (by omega) | have b5 := i_bd ((mI S 64 1) + (20 : Int32))
  have li6 : (100 : Int32).toInt = 100 := rfl
  refine zd (fun h7 => ?_) (fun h7 => ?_)
  · skip
    have g8 := i_le h7
    have b9 := i_bd xa
    refine sp_138_64_sq (LL := ((mI S 64 1).toInt)) (r0 := (mI S 65)) (I0 := I0) (L0 := L0) (R0 := R0) (xa) (by omega) (by omega) hI (show (mI S 64 1).toInt = ((mI S 64 1).toInt) ∧ (mI S 64 1).toInt ≤ 96 from by omega) (show (mI S 65) = (mI S 65) from by first | (exact rfl)) (show zFm I0 L0 R0 S from by first | (exact hpre2)) (fun S1 hI_S1 rp0_S1 rp1_S1 rp2_S1 => zv_n ⟨zG_T hI_S1, ?_⟩)
    have f10 := zG_s hI_S1 (0) (100) (c := 64) (k := 1) (by decide)
    have rp0_S1 : (mI S1 64 1).toInt = ((mI S 64 1).toInt) + 4 := rp0_S1
    have rp1_S1 : zFq (mI S 65) (mI S1 65) ((mI S 64 1).toInt) xa := rp1_S1
    have rp2_S1 : zFm I0 L0 R0 S1 := rp2_S1
    have b11 := i_bd xb
    refine sp_138_64_sq (LL := ((mI S1 64 1).toInt)) (r0 := (mI S1 65)) (I0 := I0) (L0 := L0) (R0 := R0) (xb) (by omega) (by omega) hI_S1 (show (mI S1 64 1).toInt = ((mI S1 64 1).toInt) ∧ (mI S1 64 1).toInt ≤ 96 from by omega) (show (mI S1 65) = (mI S1 65) from by first | (exact rfl)) (show zFm I0 L0 R0 S1 from by first | (exact rp2_S1)) (fun S3 hI_S3 rp0_S3 rp1_S3 rp2_S3 => zv_n ⟨zG_T hI_S3, ?_⟩)
    have f12 := zG_s hI_S3 (0) (100) (c := 64) (k := 1) (by decide)
    have rp0_S3 : (mI S3 64 1).toInt = ((mI S1 64 1).toInt) + 4 := rp0_S3
    have rp1_S3 : zFq (mI S1 65) (mI S3 65) ((mI S1 64 1).toInt) xb := rp1_S3
    have rp2_S3 : zFm I0 L0 R0 S3 := rp2_S3
    have b13 := i_bd xc
    refine sp_138_64_sq (LL := ((mI S3 64 1).toInt)) (r0 := (mI S3 65)) (I0 := I0) (L0 := L0) (R0 := R0) (xc) (by omega) (by omega) hI_S3 (show (mI S3 64 1).toInt = ((mI S3 64 1).toInt) ∧ (mI S3 64 1).toInt ≤ 96 from by omega) (show (mI S3 65) = (mI S3 65) from by first | (exact rfl)) (show zFm I0 L0 R0 S3 from by first | (exact rp2_S3)) (fun S5 hI_S5 rp0_S5 rp1_S5 rp2_S5 => zv_n ⟨zG_T hI_S5, ?_⟩)
    have f14 := zG_s hI_S5 (0) (100) (c := 64) (k := 1) (by decide)
    have rp0_S5 : (mI S5 64 1).toInt = ((mI S3 64 1).toInt) + 4 := rp0_S5
    have rp1_S5 : zFq (mI S3 65) (mI S5 65) ((mI S3 64 1).toInt) xc := rp1_S5
    have rp2_S5 : zFm I0 L0 R0 S5 := rp2_S5
    have b15 := i_bd xd
    refine sp_138_64_sq (LL := ((mI S5 64 1).toInt)) (r0 := (mI S5 65)) (I0 := I0) (L0 := L0) (R0 := R0) (xd) (by omega) (by omega) hI_S5 (show (mI S5 64 1).toInt = ((mI S5 64 1).toInt) ∧ (mI S5 64 1).toInt ≤ 96 from by omega) (show (mI S5 65) = (mI S5 65) from by first | (exact rfl)) (show zFm I0 L0 R0 S5 from by first | (exact rp2_S5)) (fun S7 hI_S7 rp0_S7 rp1_S7 rp2_S7 => zv_n ⟨zG_T hI_S7, ?_⟩)
    have f16 := zG_s hI_S7 (0) (100) (c := 64) (k := 1) (by decide)
    have rp0_S7 : (mI S7 64 1).toInt = ((mI S5 64 1).toInt) + 4 := rp0_S7
    have rp1_S7 : zFq (mI S5 65) (mI S7 65) ((mI S5 64 1).toInt) xd := rp1_S7
    have rp2_S7 : zFm I0 L0 R0 S7 := rp2_S7
    have b17 := i_bd xe
    refine sp_138_64_sq (LL := ((mI S7 64 1).toInt)) (r0 := (mI S7 65)) (I0 := I0) (L0 := L0) (R0 := R0) (xe) (by omega) (by omega) hI_S7 (show (mI S7 64 1).toInt = ((mI S7 64 1).toInt) ∧ (mI S7 64 1).toInt ≤ 96 from by omega) (show (mI S7 65) = (mI S7 65) from by first | (exact rfl)) (show zFm I0 L0 R0 S7 from by first | (exact rp2_S7)) (fun S9 hI_S9 rp0_S9 rp1_S9 rp2_S9 => zv_n ⟨zG_T hI_S9, ?_⟩)
    have f18 := zG_s hI_S9 (0) (100) (c := 64) (k := 1) (by decide)
    have rp0_S9 : (mI S9 64 1).toInt = ((mI S7 64 1).toInt) + 4 := rp0_S9
    have rp1_S9 : zFq (mI S7 65) (mI S9 65) ((mI S7 64 1).toInt) xe := rp1_S9
    have rp2_S9 : zFm I0 L0 R0 S9 := rp2_S9
    have q19 : (mI S9 94 3).toInt = (f 94 3).toInt := zG_zi hI_S9 rfl
    have b20 := i_bd (mI S9 94 3)
    exact K ((mI S9 64 1)) _ hI_S9 (show (mI S9 64 1).toInt = (mI S9 94 3).toInt + 20 ∧ (mI S9 64 1).toInt = (mI S9 94 3).toInt + 20 ∧ (mI S9 94 3).toInt ≤ 80 from by omega) (show zFd r0 (mI S9 65) (f 94 3).toInt 5 (zw5 xa xb xc xd xe) from by first | (exact (fd_s (fd_s (fd_s (fd_s (fd_s (show zFd r0 (mI S 65) (f 94 3).toInt 0 (zw5 xa xb xc xd xe) from by rw [hpre1]; exact fd_0) (by omega) rp1_S1 (by omega) rfl) (by omega) rp1_S3 (by omega) rfl) (by omega) rp1_S5 (by omega) rfl) (by omega) rp1_S7 (by omega) rfl) (by omega) rp1_S9 (by omega) rfl))) (show zFm I0 L0 R0 S9 from by first | (exact rp2_S9))
  · skip
    have g21 := i_nle h7
    exact KX 1 _ (by decide) hI (show (mI S 64 1).toInt = (mI S 94 3).toInt ∧ 81 ≤ (mI S 94 3).toInt from by omega) (show (mI S 65) = r0 from by first | (exact hpre1)) (show zFm I0 L0 R0 S from by first | (exact hpre2))
theorem g_139_64_sq_0 {X : Nat × (Nat → Int32)} {d w : Nat} {S : ma_S} {Q : Option ma_V ⊕ Nat → ma_S → Prop} (n : Int32) (hd : 6 ≤ d) (hw : 89 ≤ w) (hS : zT S) (h : if n < 0 then (Q (.inr 2) (ma_bump S)) else (if n ≤ (mI S 64 1) then (Q (.inl (some (.inl n))) (ma_put S 64 1 (.inl n))) else (Q (.inr 2) (ma_bump S)))) : ma_wp X d w 139 0 [(0, .inr (.inr (some 64))), (1, .inl n)] [] S Q := by
  refine zw_push hm_139 dX11_end_0 (v := .inl n) rfl ?_
  refine zw_if0 hm_139 dX11_end_1 (t := 12) rfl zc0_lt ?_ ?_
  · intro hc
    rw [if_pos hc] at h
    exact zw_thr hm_139 dX11_end_12 dX11_end_15 dX11_end_16 dX11_end_19 x_11_79_81 n_11_79 (by omega) (by show 0 + 81 ≤ w; omega) h
  · intro hc
    rw [if_neg hc] at h
    refine zw_push hm_139 dX11_end_4 (v := .inl n) rfl ?_
    refine zw_push hm_139 dX11_end_5 (v := .inr (.inr (some 64))) rfl ?_
    refine zw_gf hm_139 dX11_end_6 (v := .inl (mI S 64 1)) (zT_is hS s_64) (zT_t hS s_64) rfl f_11_68_11 rfl ?_
    refine zw_if2 hm_139 dX11_end_9 (t := 20) rfl zc2_le ?_ ?_
    · intro hc
      rw [if_pos hc] at h
      refine zw_push hm_139 dX11_end_20 (v := .inr (.inr (some 64))) rfl ?_
      refine zw_push hm_139 dX11_end_21 (v := .inl n) rfl ?_
      refine zw_pf hm_139 dX11_end_22 (zT_is hS s_64) (zT_t hS s_64) p_11_68_11 zk_int ?_
      refine zw_push hm_139 dX11_end_25 (v := .inl n) rfl ?_
      exact zw_iret hm_139 dX11_end_26 h
    · intro hc
      rw [if_neg hc] at h
      exact zw_thr hm_139 dX11_end_12 dX11_end_15 dX11_end_16 dX11_end_19 x_11_79_81 n_11_79 (by omega) (by show 0 + 81 ≤ w; omega) h
theorem sp_139_64_sq {X : Nat × (Nat → Int32)} {d w : Nat} {f : Nat → Nat → Int32} {r : Nat → Nat → Option Nat} {C Z N : Nat} {Q : Option ma_V ⊕ Nat → ma_S → Prop} {I0 : Nat→Nat→Int32} {L0 : Nat→Nat→Int64} {R0 : zRT} {S : ma_S} (n : Int32) (hd : 6 ≤ d) (hw : 89 ≤ w) (hI : zX f r C Z N S) (hpre0 : (mI S 64 1).toInt = (mI S 94 3).toInt) (hpre1 : zFm I0 L0 R0 S) (K : ∀ v S₉, zX f r C Z N S₉ → ((mI S₉ 64 1).toInt = n.toInt ∧ 0 ≤ n.toInt ∧ n.toInt ≤ (mI S₉ 94 3).toInt ∧ v.toInt = n.toInt) → (zFm I0 L0 R0 S₉) → Q (.inl (some (.inl v))) S₉) (KX : ∀ x S₉, (x = 2) → zX f r C Z N S₉ → ((mI S₉ 64 1).toInt = (mI S₉ 94 3).toInt ∧ (n.toInt < 0 ∨ (mI S₉ 94 3).toInt < n.toInt)) → (zFm I0 L0 R0 S₉) → Q (.inr x) (ma_bump S₉)) : ma_wp X d w 139 0 [(0, .inr (.inr (some 64))), (1, .inl n)] [] S Q := by
  refine g_139_64_sq_0 n (by omega) (by omega) (zG_T hI) ?_
  have f1 := zG_s hI (0) (100) (c := 64) (k := 1) (by decide)
  have q2 : (mI S 94 3).toInt = (f 94 3).toInt := zG_zi hI rfl
  have b3 := i_bd (mI S 94 3)
  have b4 := i_bd n
  have li5 : (0 : Int32).toInt = 0 := rfl
  refine zd (fun h6 => ?_) (fun h6 => ?_)
  · skip
    have g7 := i_lt h6
    exact KX 2 _ (by decide) hI (show (mI S 64 1).toInt = (mI S 94 3).toInt ∧ (n.toInt < 0 ∨ (mI S 94 3).toInt < n.toInt) from by omega) (show zFm I0 L0 R0 S from by first | (exact hpre1))
  · skip
    have g8 := i_nlt h6
    refine zd (fun h9 => ?_) (fun h9 => ?_)
    · skip
      have g10 := i_le h9
      have hI11 : zX f r C Z N (ma_put S 64 1 (.inl n)) := zG_sp hI (0) (100) rfl (by decide) (by decide) (by decide) trivial (by omega) (by omega)
      exact K (n) _ hI11 (show n.toInt = n.toInt ∧ 0 ≤ n.toInt ∧ n.toInt ≤ (mI S 94 3).toInt ∧ n.toInt = n.toInt from by omega) (show zFm I0 L0 R0 (ma_put S 64 1 (.inl n)) from by first | (exact (fn9_p hpre1 (by decide))))
    · skip
      have g12 := i_nle h9
      exact KX 2 _ (by decide) hI (show (mI S 64 1).toInt = (mI S 94 3).toInt ∧ (n.toInt < 0 ∨ (mI S 94 3).toInt < n.toInt) from by omega) (show zFm I0 L0 R0 S from by first | (exact hpre1))
theorem g_140_64_zKd_sq_0 {X : Nat × (Nat → Int32)} {d w : Nat} {S : ma_S} {Q : Option ma_V ⊕ Nat → ma_S → Prop} (wd : Int32) (rf : Int32) (hd : 6 ≤ d) (hw : 89 ≤ w) (hS : zT S) (h : if wd < 0 then (Q (.inr 2) (ma_bump S)) else (if (8 : Int32) < wd then (Q (.inr 2) (ma_bump S)) else (if rf < 0 then (Q (.inr 2) (ma_bump S)) else (if rf < ((1 : Int32) <<< (wd &&& 31)) then (if (mI S 64 7) < (16 : Int32) then ((0 ≤ (mI S 64 7) ∧ (mI S 64 7).toNatClampNeg < 16) ∧ ((0 ≤ (mI S 64 7) ∧ (mI S 64 7).toNatClampNeg < 16) ∧ (Q (.inl (some (.inl (((mI S 64 7) + (1 : Int32)) - (1 : Int32))))) (ma_put (ma_put (ma_put S 67 (mI S 64 7).toNatClampNeg (.inl wd)) 68 (mI S 64 7).toNatClampNeg (.inl rf)) 64 7 (.inl ((mI S 64 7) + (1 : Int32))))))) else (Q (.inr 3) (ma_bump S))) else (Q (.inr 2) (ma_bump S)))))) : ma_wp X d w 140 0 [(0, .inr (.inr (some 64))), (1, .inl wd), (2, .inl rf)] [] S Q := by
  refine zw_push hm_140 dX11_kind_0 (v := .inl wd) rfl ?_
  refine zw_if0 hm_140 dX11_kind_1 (t := 21) rfl zc0_lt ?_ ?_
  · intro hc
    rw [if_pos hc] at h
    exact zw_thr hm_140 dX11_kind_21 dX11_kind_24 dX11_kind_25 dX11_kind_28 x_11_79_81 n_11_79 (by omega) (by show 0 + 81 ≤ w; omega) h
  · intro hc
    rw [if_neg hc] at h
    refine zw_push hm_140 dX11_kind_4 (v := .inl wd) rfl ?_
    refine zw_push hm_140 dX11_kind_5 (v := .inl (8 : Int32)) rfl ?_
    refine zw_if2 hm_140 dX11_kind_7 (t := 21) rfl zc2_gt ?_ ?_
    · intro hc
      rw [if_pos hc] at h
      exact zw_thr hm_140 dX11_kind_21 dX11_kind_24 dX11_kind_25 dX11_kind_28 x_11_79_81 n_11_79 (by omega) (by show 0 + 81 ≤ w; omega) h
    · intro hc
      rw [if_neg hc] at h
      refine zw_push hm_140 dX11_kind_10 (v := .inl rf) rfl ?_
      refine zw_if0 hm_140 dX11_kind_11 (t := 21) rfl zc0_lt ?_ ?_
      · intro hc
        rw [if_pos hc] at h
        exact zw_thr hm_140 dX11_kind_21 dX11_kind_24 dX11_kind_25 dX11_kind_28 x_11_79_81 n_11_79 (by omega) (by show 0 + 81 ≤ w; omega) h
      · intro hc
        rw [if_neg hc] at h
        refine zw_push hm_140 dX11_kind_14 (v := .inl rf) rfl ?_
        refine zw_push hm_140 dX11_kind_15 (v := .inl (1 : Int32)) rfl ?_
        refine zw_push hm_140 dX11_kind_16 (v := .inl wd) rfl ?_
        refine zw_stk hm_140 dX11_kind_17 (st₉ := [.inl ((1 : Int32) <<< (wd &&& 31)), .inl rf]) rfl rfl ?_
        refine zw_if2 hm_140 dX11_kind_18 (t := 29) rfl zc2_lt ?_ ?_
        · intro hc
          rw [if_pos hc] at h
          refine zw_push hm_140 dX11_kind_29 (v := .inr (.inr (some 64))) rfl ?_
          refine zw_gf hm_140 dX11_kind_30 (v := .inl (mI S 64 7)) (zT_is hS s_64) (zT_t hS s_64) rfl f_11_82_11 rfl ?_
          refine zw_push hm_140 dX11_kind_33 (v := .inl (16 : Int32)) rfl ?_
          refine zw_if2 hm_140 dX11_kind_35 (t := 46) rfl zc2_lt ?_ ?_
          · intro hc
            rw [if_pos hc] at h
            refine zw_push hm_140 dX11_kind_46 (v := .inr (.inr (some 64))) rfl ?_
            refine zw_gf hm_140 dX11_kind_47 (v := .inr (.inr (some 67))) (zT_is hS s_64) (zT_t hS s_64) rfl f_11_17_11 (zT_f hS r_64_5) ?_
            refine zw_push hm_140 dX11_kind_50 (v := .inr (.inr (some 64))) rfl ?_
            refine zw_gf hm_140 dX11_kind_51 (v := .inl (mI S 64 7)) (zT_is hS s_64) (zT_t hS s_64) rfl f_11_82_11 rfl ?_
            refine zw_push hm_140 dX11_kind_54 (v := .inl wd) rfl ?_
            obtain ⟨hg, h⟩ := h
            refine zw_ias hm_140 dX11_kind_55 (zT_is hS s_67) (zT_h hS s_67) rfl hg ?_
            refine zw_push hm_140 dX11_kind_56 (v := .inr (.inr (some 64))) rfl ?_
            refine zw_gf hm_140 dX11_kind_57 (v := .inr (.inr (some 68))) (zT_is (zT_pi hS) s_64) (zT_t (zT_pi hS) s_64) rfl f_11_20_11 (zT_f (zT_pi hS) r_64_6) ?_
            refine zw_push hm_140 dX11_kind_60 (v := .inr (.inr (some 64))) rfl ?_
            refine zw_gf hm_140 dX11_kind_61 (v := .inl (mI S 64 7)) (zT_is (zT_pi hS) s_64) (zT_t (zT_pi hS) s_64) rfl f_11_82_11 rfl ?_
            refine zw_push hm_140 dX11_kind_64 (v := .inl rf) rfl ?_
            obtain ⟨hg, h⟩ := h
            refine zw_ias hm_140 dX11_kind_65 (zT_is (zT_pi hS) s_68) (zT_h (zT_pi hS) s_68) rfl hg ?_
            refine zw_push hm_140 dX11_kind_66 (v := .inr (.inr (some 64))) rfl ?_
            refine zw_stk hm_140 dX11_kind_67 (st₉ := [.inr (.inr (some 64)), .inr (.inr (some 64))]) rfl rfl ?_
            refine zw_gf hm_140 dX11_kind_68 (v := .inl (mI S 64 7)) (zT_is (zT_pi (zT_pi hS)) s_64) (zT_t (zT_pi (zT_pi hS)) s_64) rfl f_11_82_11 rfl ?_
            refine zw_push hm_140 dX11_kind_71 (v := .inl (1 : Int32)) rfl ?_
            refine zw_stk hm_140 dX11_kind_72 (st₉ := [.inl ((mI S 64 7) + (1 : Int32)), .inr (.inr (some 64))]) rfl rfl ?_
            refine zw_pf hm_140 dX11_kind_73 (zT_is (zT_pi (zT_pi hS)) s_64) (zT_t (zT_pi (zT_pi hS)) s_64) p_11_82_11 zk_int ?_
            refine zw_push hm_140 dX11_kind_76 (v := .inr (.inr (some 64))) rfl ?_
            refine zw_gf hm_140 dX11_kind_77 (v := .inl ((mI S 64 7) + (1 : Int32))) (zT_is (zT_pi (zT_pi (zT_pi hS))) s_64) (zT_t (zT_pi (zT_pi (zT_pi hS))) s_64) rfl f_11_82_11 rfl ?_
            refine zw_push hm_140 dX11_kind_80 (v := .inl (1 : Int32)) rfl ?_
            refine zw_stk hm_140 dX11_kind_81 (st₉ := [.inl (((mI S 64 7) + (1 : Int32)) - (1 : Int32))]) rfl rfl ?_
            exact zw_iret hm_140 dX11_kind_82 h
          · intro hc
            rw [if_neg hc] at h
            exact zw_thr hm_140 dX11_kind_38 dX11_kind_41 dX11_kind_42 dX11_kind_45 x_11_85_87 n_11_85 (by omega) (by show 0 + 81 ≤ w; omega) h
        · intro hc
          rw [if_neg hc] at h
          exact zw_thr hm_140 dX11_kind_21 dX11_kind_24 dX11_kind_25 dX11_kind_28 x_11_79_81 n_11_79 (by omega) (by show 0 + 81 ≤ w; omega) h
theorem sp_140_64_zKd_sq {X : Nat × (Nat → Int32)} {d w : Nat} {f : Nat → Nat → Int32} {r : Nat → Nat → Option Nat} {C Z N : Nat} {Q : Option ma_V ⊕ Nat → ma_S → Prop} {I0 : Nat→Nat→Int32} {L0 : Nat→Nat→Int64} {R0 : zRT} {k67 : Nat→Int32} {k68 : Nat→Int32} {kn : Int32} {S : ma_S} (wd : Int32) (rf : Int32) (hd : 6 ≤ d) (hw : 89 ≤ w) (hI : zKd f r C Z N S) (hpre0 : (mI S 64 1).toInt = (mI S 94 3).toInt) (hpre1 : (mI S 64 7).toInt = (mI S 94 7).toInt) (hpre2 : zFm I0 L0 R0 S) (hpre3 : (mI S 67) = k67 ∧ (mI S 68) = k68 ∧ (mI S 64 7) = kn) (K : ∀ v S₉, zKd f r C Z N S₉ → ((mI S₉ 64 1).toInt = (mI S₉ 94 3).toInt ∧ v.toInt = (mI S₉ 94 7).toInt ∧ (mI S₉ 64 7).toInt = (mI S₉ 94 7).toInt + 1 ∧ (mI S₉ 94 7).toInt < 16 ∧ ¬ (wd.toInt < 0 ∨ 8 < wd.toInt ∨ rf.toInt < 0 ∨ ((1 : Int32) <<< (wd &&& 31)).toInt ≤ rf.toInt)) → (zFm I0 L0 R0 S₉) → ((mI S₉ 67) = zUp k67 kn.toNatClampNeg wd ∧ (mI S₉ 68) = zUp k68 kn.toNatClampNeg rf) → Q (.inl (some (.inl v))) S₉) (KX : ∀ x S₉, (x = 2 ∨ x = 3) → zKd f r C Z N S₉ → ((mI S₉ 64 1).toInt = (mI S₉ 94 3).toInt ∧ (mI S₉ 64 7).toInt = (mI S₉ 94 7).toInt ∧ (x = 2 → (wd.toInt < 0 ∨ 8 < wd.toInt ∨ rf.toInt < 0 ∨ ((1 : Int32) <<< (wd &&& 31)).toInt ≤ rf.toInt)) ∧ (x = 3 → ¬ (wd.toInt < 0 ∨ 8 < wd.toInt ∨ rf.toInt < 0 ∨ ((1 : Int32) <<< (wd &&& 31)).toInt ≤ rf.toInt) ∧ 16 ≤ (mI S₉ 94 7).toInt)) → (zFm I0 L0 R0 S₉) → ((mI S₉ 67) = k67 ∧ (mI S₉ 68) = k68 ∧ (mI S₉ 64 7) = kn) → Q (.inr x) (ma_bump S₉)) : ma_wp X d w 140 0 [(0, .inr (.inr (some 64))), (1, .inl wd), (2, .inl rf)] [] S Q := by
  refine g_140_64_zKd_sq_0 wd rf (by omega) (by omega) (zG_T hI) ?_
  have f1 := zG_s hI (0) (100) (c := 64) (k := 1) (by decide)
  have q2 : (mI S 94 3).toInt = (f 94 3).toInt := zG_zi hI rfl
  have b3 := i_bd (mI S 94 3)
  have f4 := zG_s hI (0) (16) (c := 64) (k := 7) (by decide)
  have q5 : (mI S 94 7).toInt = (f 94 7).toInt := zG_zi hI rfl
  have b6 := i_bd (mI S 94 7)
  have b7 := i_bd wd
  have li8 : (0 : Int32).toInt = 0 := rfl
  refine zd (fun h9 => ?_) (fun h9 => ?_)
  · skip
    have g10 := i_lt h9
    exact KX 2 _ (by decide) hI (show (mI S 64 1).toInt = (mI S 94 3).toInt ∧ (mI S 64 7).toInt = (mI S 94 7).toInt ∧ (2 = 2 → (wd.toInt < 0 ∨ 8 < wd.toInt ∨ rf.toInt < 0 ∨ ((1 : Int32) <<< (wd &&& 31)).toInt ≤ rf.toInt)) ∧ (2 = 3 → ¬ (wd.toInt < 0 ∨ 8 < wd.toInt ∨ rf.toInt < 0 ∨ ((1 : Int32) <<< (wd &&& 31)).toInt ≤ rf.toInt) ∧ 16 ≤ (mI S 94 7).toInt) from by omega) (show zFm I0 L0 R0 S from by first | (exact hpre2)) (show (mI S 67) = k67 ∧ (mI S 68) = k68 ∧ (mI S 64 7) = kn from by first | (exact hpre3))
  · skip
    have g11 := i_nlt h9
    have li12 : (8 : Int32).toInt = 8 := rfl
    refine zd (fun h13 => ?_) (fun h13 => ?_)
    · skip
      have g14 := i_lt h13
      exact KX 2 _ (by decide) hI (show (mI S 64 1).toInt = (mI S 94 3).toInt ∧ (mI S 64 7).toInt = (mI S 94 7).toInt ∧ (2 = 2 → (wd.toInt < 0 ∨ 8 < wd.toInt ∨ rf.toInt < 0 ∨ ((1 : Int32) <<< (wd &&& 31)).toInt ≤ rf.toInt)) ∧ (2 = 3 → ¬ (wd.toInt < 0 ∨ 8 < wd.toInt ∨ rf.toInt < 0 ∨ ((1 : Int32) <<< (wd &&& 31)).toInt ≤ rf.toInt) ∧ 16 ≤ (mI S 94 7).toInt) from by omega) (show zFm I0 L0 R0 S from by first | (exact hpre2)) (show (mI S 67) = k67 ∧ (mI S 68) = k68 ∧ (mI S 64 7) = kn from by first | (exact hpre3))
    · skip
      have g15 := i_nlt h13
      have b16 := i_bd rf
      refine zd (fun h17 => ?_) (fun h17 => ?_)
      · skip
        have g18 := i_lt h17
        exact KX 2 _ (by decide) hI (show (mI S 64 1).toInt = (mI S 94 3).toInt ∧ (mI S 64 7).toInt = (mI S 94 7).toInt ∧ (2 = 2 → (wd.toInt < 0 ∨ 8 < wd.toInt ∨ rf.toInt < 0 ∨ ((1 : Int32) <<< (wd &&& 31)).toInt ≤ rf.toInt)) ∧ (2 = 3 → ¬ (wd.toInt < 0 ∨ 8 < wd.toInt ∨ rf.toInt < 0 ∨ ((1 : Int32) <<< (wd &&& 31)).toInt ≤ rf.toInt) ∧ 16 ≤ (mI S 94 7).toInt) from by omega) (show zFm I0 L0 R0 S from by first | (exact hpre2)) (show (mI S 67) = k67 ∧ (mI S 68) = k68 ∧ (mI S 64 7) = kn from by first | (exact hpre3))
      · skip
        have g19 := i_nlt h17
        have b20 := i_bd ((1 : Int32) <<< (wd &&& 31))
        refine zd (fun h21 => ?_) (fun h21 => ?_)
        · skip
          have g22 := i_lt h21
          have li23 : (16 : Int32).toInt = 16 := rfl
          refine zd (fun h24 => ?_) (fun h24 => ?_)
          · skip
            have g25 := i_lt h24
            refine ⟨i_ix (by omega) (by omega), ?_⟩
            refine ⟨i_ix (by omega) (by omega), ?_⟩
            have hI26 : zKd f r C Z N (ma_put S 67 (mI S 64 7).toNatClampNeg (.inl wd)) := zG_sa hI (0) (8) rfl (by decide) (by decide) (by decide) trivial (by omega) (by omega)
            have hI27 : zKd f r C Z N (ma_put (ma_put S 67 (mI S 64 7).toNatClampNeg (.inl wd)) 68 (mI S 64 7).toNatClampNeg (.inl rf)) := zG_fa hI26 rfl (by decide) (by decide) (by decide) trivial
            first | have e29 : ((mI S 64 7) + (1 : Int32)).toInt = (mI S 64 7).toInt + (1) := i_addk rfl (by omega) (by omega) | have b30 := i_bd ((mI S 64 7) + (1 : Int32))
            have hI28 : zKd f r C Z N (ma_put (ma_put (ma_put S 67 (mI S 64 7).toNatClampNeg (.inl wd)) 68 (mI S 64 7).toNatClampNeg (.inl rf)) 64 7 (.inl ((mI S 64 7) + (1 : Int32)))) := zG_sp hI27 (0) (16) rfl (by decide) (by decide) (by decide) trivial (by omega) (by omega)
            first | have e31 : (((mI S 64 7) + (1 : Int32)) - (1 : Int32)).toInt = ((mI S 64 7) + (1 : Int32)).toInt - (1) := i_subk rfl (by omega) (by omega) | have b32 := i_bd (((mI S 64 7) + (1 : Int32)) - (1 : Int32))
            exact K ((((mI S 64 7) + (1 : Int32)) - (1 : Int32))) _ hI28 (show (mI S 64 1).toInt = (mI S 94 3).toInt ∧ (((mI S 64 7) + (1 : Int32)) - (1 : Int32)).toInt = (mI S 94 7).toInt ∧ ((mI S 64 7) + (1 : Int32)).toInt = (mI S 94 7).toInt + 1 ∧ (mI S 94 7).toInt < 16 ∧ ¬ (wd.toInt < 0 ∨ 8 < wd.toInt ∨ rf.toInt < 0 ∨ ((1 : Int32) <<< (wd &&& 31)).toInt ≤ rf.toInt) from by omega) (show zFm I0 L0 R0 (ma_put (ma_put (ma_put S 67 (mI S 64 7).toNatClampNeg (.inl wd)) 68 (mI S 64 7).toNatClampNeg (.inl rf)) 64 7 (.inl ((mI S 64 7) + (1 : Int32)))) from by first | (exact (fn9_p (fn9_p (fn9_p hpre2 (by decide)) (by decide)) (by decide)))) (show (mI (ma_put (ma_put (ma_put S 67 (mI S 64 7).toNatClampNeg (.inl wd)) 68 (mI S 64 7).toNatClampNeg (.inl rf)) 64 7 (.inl ((mI S 64 7) + (1 : Int32)))) 67) = zUp k67 kn.toNatClampNeg wd ∧ (mI (ma_put (ma_put (ma_put S 67 (mI S 64 7).toNatClampNeg (.inl wd)) 68 (mI S 64 7).toNatClampNeg (.inl rf)) 64 7 (.inl ((mI S 64 7) + (1 : Int32)))) 68) = zUp k68 kn.toNatClampNeg rf from by first | (refine ⟨up_67.trans ?_, up_68.trans ?_⟩; (rw [hpre3.1, hpre3.2.2]); (rw [hpre3.2.1, hpre3.2.2])))
          · skip
            have g33 := i_nlt h24
            exact KX 3 _ (by decide) hI (show (mI S 64 1).toInt = (mI S 94 3).toInt ∧ (mI S 64 7).toInt = (mI S 94 7).toInt ∧ (3 = 2 → (wd.toInt < 0 ∨ 8 < wd.toInt ∨ rf.toInt < 0 ∨ ((1 : Int32) <<< (wd &&& 31)).toInt ≤ rf.toInt)) ∧ (3 = 3 → ¬ (wd.toInt < 0 ∨ 8 < wd.toInt ∨ rf.toInt < 0 ∨ ((1 : Int32) <<< (wd &&& 31)).toInt ≤ rf.toInt) ∧ 16 ≤ (mI S 94 7).toInt) from by omega) (show zFm I0 L0 R0 S from by first | (exact hpre2)) (show (mI S 67) = k67 ∧ (mI S 68) = k68 ∧ (mI S 64 7) = kn from by first | (exact hpre3))
        · skip
          have g34 := i_nlt h21
          exact KX 2 _ (by decide) hI (show (mI S 64 1).toInt = (mI S 94 3).toInt ∧ (mI S 64 7).toInt = (mI S 94 7).toInt ∧ (2 = 2 → (wd.toInt < 0 ∨ 8 < wd.toInt ∨ rf.toInt < 0 ∨ ((1 : Int32) <<< (wd &&& 31)).toInt ≤ rf.toInt)) ∧ (2 = 3 → ¬ (wd.toInt < 0 ∨ 8 < wd.toInt ∨ rf.toInt < 0 ∨ ((1 : Int32) <<< (wd &&& 31)).toInt ≤ rf.toInt) ∧ 16 ≤ (mI S 94 7).toInt) from by omega) (show zFm I0 L0 R0 S from by first | (exact hpre2)) (show (mI S 67) = k67 ∧ (mI S 68) = k68 ∧ (mI S 64 7) = kn from by first | (exact hpre3))

/-! from 95.i29 -/
/-! the class opens a heap (written by wip/tools/gen18c.py) -/
theorem g_160_64_sq_p0_0 {X : Nat × (Nat → Int32)} {d w : Nat} {S : ma_S} {Q : Option ma_V ⊕ Nat → ma_S → Prop} (n : Int32) (hd : 7 ≤ d) (hw : 114 ≤ w) (hS : zT S) (h : if n < 0 then (Q (.inr 2) (ma_bump S)) else (if n ≤ (1000 : Int32) then (mR S 64 11 = none ∧ (Q (.inr 3) (ma_bump S))) else (Q (.inr 2) (ma_bump S)))) : ma_wp X d w 160 0 [(0, .inr (.inr (some 64))), (1, .inl n)] [] S Q := by
  refine zw_push hm_160 dX11_step_0 (v := .inl n) rfl ?_
  refine zw_if0 hm_160 dX11_step_1 (t := 11) rfl zc0_lt ?_ ?_
  · intro hc
    rw [if_pos hc] at h
    exact zw_thr hm_160 dX11_step_11 dX11_step_14 dX11_step_15 dX11_step_18 x_11_79_81 n_11_79 (by omega) (by show 0 + 81 ≤ w; omega) h
  · intro hc
    rw [if_neg hc] at h
    refine zw_push hm_160 dX11_step_4 (v := .inl n) rfl ?_
    refine zw_push hm_160 dX11_step_5 (v := .inl (1000 : Int32)) rfl ?_
    refine zw_if2 hm_160 dX11_step_8 (t := 19) rfl zc2_le ?_ ?_
    · intro hc
      rw [if_pos hc] at h
      refine zw_push hm_160 dX11_step_19 (v := .inr (.inr (some 64))) rfl ?_
      refine zw_cv hm_160 dX11_step_20 v_11_119_11 hm_144 [] [] rfl (zT_rt hS s_64 rfl) ⟨by omega, by omega⟩ rfl ?_
      show ma_wp X (d - 1) (w - 20) 144 0 [(0, .inr (.inr (some 64)))] [] S _
      refine zw_push hm_144 dX11_needCollector_0 (v := .inr (.inr (some 64))) rfl ?_
      obtain ⟨hg, h⟩ := h
      refine zw_gf hm_144 dX11_needCollector_1 (v := .inr (.inr none)) (zT_is hS s_64) (zT_t hS s_64) rfl f_11_98_11 (congrArg (fun z => Sum.inr (Sum.inr z)) hg) ?_
      refine zw_ifnonnull hm_144 dX11_needCollector_4 (t := 15) rfl (fun _ => ?_) (fun _ z => by cases z)
      exact zw_thr hm_144 dX11_needCollector_7 dX11_needCollector_10 dX11_needCollector_11 dX11_needCollector_14 x_11_85_87 n_11_85 (by omega) (by show 0 + 81 ≤ (w - 20); omega) ⟨by decide, h⟩
    · intro hc
      rw [if_neg hc] at h
      exact zw_thr hm_160 dX11_step_11 dX11_step_14 dX11_step_15 dX11_step_18 x_11_79_81 n_11_79 (by omega) (by show 0 + 81 ≤ w; omega) h
theorem sp_160_64_sq_p0 {X : Nat × (Nat → Int32)} {d w : Nat} {f : Nat → Nat → Int32} {r : Nat → Nat → Option Nat} {C Z N : Nat} {Q : Option ma_V ⊕ Nat → ma_S → Prop} {S : ma_S} (n : Int32) (hd : 7 ≤ d) (hw : 114 ≤ w) (hI : zB f r C Z N S) (hr : r 64 11 = none)  (K : ∀ v S₉, zB f r C Z N S₉ → ((0 : Int) = 1) → Q (.inl (some (.inl v))) S₉) (KX : ∀ x S₉, (x = 2 ∨ x = 3) → zB f r C Z N S₉ → ((x = 2 ∧ (n.toInt < 0 ∨ 1000 < n.toInt)) ∨ (x = 3 ∧ 0 ≤ n.toInt ∧ n.toInt ≤ 1000)) → Q (.inr x) (ma_bump S₉)) : ma_wp X d w 160 0 [(0, .inr (.inr (some 64))), (1, .inl n)] [] S Q := by
  refine g_160_64_sq_p0_0 n (by omega) (by omega) (zG_T hI) ?_
  have b1 := i_bd n
  have li2 : (0 : Int32).toInt = 0 := rfl
  refine zd (fun h3 => ?_) (fun h3 => ?_)
  · skip
    have g4 := i_lt h3
    exact KX 2 _ (by decide) hI (show (2 = 2 ∧ (n.toInt < 0 ∨ 1000 < n.toInt)) ∨ (2 = 3 ∧ 0 ≤ n.toInt ∧ n.toInt ≤ 1000) from by omega)
  · skip
    have g5 := i_nlt h3
    have li6 : (1000 : Int32).toInt = 1000 := rfl
    refine zd (fun h7 => ?_) (fun h7 => ?_)
    · skip
      have g8 := i_le h7
      refine ⟨((zG_r hI (by decide)).trans hr), ?_⟩
      exact KX 3 _ (by decide) hI (show (3 = 2 ∧ (n.toInt < 0 ∨ 1000 < n.toInt)) ∨ (3 = 3 ∧ 0 ≤ n.toInt ∧ n.toInt ≤ 1000) from by omega)
    · skip
      have g9 := i_nle h7
      exact KX 2 _ (by decide) hI (show (2 = 2 ∧ (n.toInt < 0 ∨ 1000 < n.toInt)) ∨ (2 = 3 ∧ 0 ≤ n.toInt ∧ n.toInt ≤ 1000) from by omega)
/-! from 95.i30 -/
/-! the class opens a heap (written by wip/tools/gen18c.py) -/
theorem g_80_69_sq_0 {X : Nat × (Nat → Int32)} {d w : Nat} {S : ma_S} {Q : Option ma_V ⊕ Nat → ma_S → Prop}  (hd : 1 ≤ d) (hw : 23 ≤ w) (hS : zT S) (h : ma_wp X d w 80 2 [(0, .inr (.inr (some 69))), (1, .inl (0 : Int32))] [] S Q) : ma_wp X d w 80 0 [(0, .inr (.inr (some 69)))] [] S Q := by
  refine zw_push hm_80 dX7_forgetAll_0 (v := .inl (0 : Int32)) rfl ?_
  refine zw_sto hm_80 dX7_forgetAll_1 [(1, .inl (0 : Int32)), (0, .inr (.inr (some 69)))] rfl rfl rfl ?_
  exact zw_sub (ma_nd_of (ks := [0, 1]) rfl (by decide)) (ma_nd_of (ks := [1, 0]) rfl (by decide)) (ma_le_cons rfl (ma_le_cons rfl (ma_le_nil _))) h
theorem g_80_69_sq_2 {X : Nat × (Nat → Int32)} {d w : Nat} {S : ma_S} {Q : Option ma_V ⊕ Nat → ma_S → Prop} (l1 : Int32) (hd : 1 ≤ d) (hw : 23 ≤ w) (hS : zT S) (h : if (512 : Int32) ≤ l1 then (ma_wp X (d - 1) (w - 23) 276 0 [(0, .inr (.inr (some 71))), (1, .inl (-1 : Int32))] [] S (zv (fun S1 => zT S1 ∧ (ma_wp X (d - 1) (w - 23) 276 0 [(0, .inr (.inr (some 72))), (1, .inl (-1 : Int32))] [] S1 (zv (fun S3 => zT S3 ∧ (ma_wp X (d - 1) (w - 23) 276 0 [(0, .inr (.inr (some 73))), (1, .inl (-1 : Int32))] [] S3 (zv (fun S5 => zT S5 ∧ (Q (.inl none) (ma_put (ma_put (ma_put (ma_put (ma_put (ma_put (ma_put (ma_put S5 69 5 (.inl (0 : Int32))) 69 6 (.inl (0 : Int32))) 69 7 (.inl (0 : Int32))) 69 8 (.inl (0 : Int32))) 69 9 (.inl (0 : Int32))) 69 10 (.inl (0 : Int32))) 69 11 (.inl (0 : Int32))) 69 12 (.inl (0 : Int32))))) (fun _ _ => False)))) (fun _ _ => False)))) (fun _ _ => False))) else ((0 ≤ l1 ∧ l1.toNatClampNeg < 512) ∧ (ma_wp X d w 80 2 [(0, .inr (.inr (some 69))), (1, .inl (l1 + (1 : Int32)))] [] (ma_put S 70 l1.toNatClampNeg (.inr (.inr none))) Q))) : ma_wp X d w 80 2 [(0, .inr (.inr (some 69))), (1, .inl l1)] [] S Q := by
  refine zw_push hm_80 dX7_forgetAll_2 (v := .inl l1) rfl ?_
  refine zw_push hm_80 dX7_forgetAll_3 (v := .inl (512 : Int32)) rfl ?_
  refine zw_if2 hm_80 dX7_forgetAll_6 (t := 22) rfl zc2_ge ?_ ?_
  · intro hc
    rw [if_pos hc] at h
    refine zw_push hm_80 dX7_forgetAll_22 (v := .inr (.inr (some 69))) rfl ?_
    refine zw_gf hm_80 dX7_forgetAll_23 (v := .inr (.inr (some 71))) (zT_is hS s_69) (zT_t hS s_69) rfl f_7_17_7 (zT_f hS r_69_1) ?_
    refine zw_push hm_80 dX7_forgetAll_26 (v := .inl (-1 : Int32)) rfl ?_
    refine zw_cs hm_80 dX7_forgetAll_27 pn_7_30 sl_7_30 hm_276 [.inl (-1 : Int32), .inr (.inr (some 71))] [] rfl ⟨by omega, by omega⟩ rfl (zw_mono h (zv_go ?_ ?_))
    · intro S1 hv
      obtain ⟨hS1, h⟩ := hv
      refine zw_push hm_80 dX7_forgetAll_30 (v := .inr (.inr (some 69))) rfl ?_
      refine zw_gf hm_80 dX7_forgetAll_31 (v := .inr (.inr (some 72))) (zT_is hS1 s_69) (zT_t hS1 s_69) rfl f_7_21_7 (zT_f hS1 r_69_2) ?_
      refine zw_push hm_80 dX7_forgetAll_34 (v := .inl (-1 : Int32)) rfl ?_
      refine zw_cs hm_80 dX7_forgetAll_35 pn_7_30 sl_7_30 hm_276 [.inl (-1 : Int32), .inr (.inr (some 72))] [] rfl ⟨by omega, by omega⟩ rfl (zw_mono h (zv_go ?_ ?_))
      · intro S3 hv
        obtain ⟨hS3, h⟩ := hv
        refine zw_push hm_80 dX7_forgetAll_38 (v := .inr (.inr (some 69))) rfl ?_
        refine zw_gf hm_80 dX7_forgetAll_39 (v := .inr (.inr (some 73))) (zT_is hS3 s_69) (zT_t hS3 s_69) rfl f_7_24_7 (zT_f hS3 r_69_3) ?_
        refine zw_push hm_80 dX7_forgetAll_42 (v := .inl (-1 : Int32)) rfl ?_
        refine zw_cs hm_80 dX7_forgetAll_43 pn_7_30 sl_7_30 hm_276 [.inl (-1 : Int32), .inr (.inr (some 73))] [] rfl ⟨by omega, by omega⟩ rfl (zw_mono h (zv_go ?_ ?_))
        · intro S5 hv
          obtain ⟨hS5, h⟩ := hv
          refine zw_push hm_80 dX7_forgetAll_46 (v := .inr (.inr (some 69))) rfl ?_
          refine zw_push hm_80 dX7_forgetAll_47 (v := .inl (0 : Int32)) rfl ?_
          refine zw_pf hm_80 dX7_forgetAll_48 (zT_is hS5 s_69) (zT_t hS5 s_69) p_7_36_7 zk_int ?_
          refine zw_push hm_80 dX7_forgetAll_51 (v := .inr (.inr (some 69))) rfl ?_
          refine zw_push hm_80 dX7_forgetAll_52 (v := .inl (0 : Int32)) rfl ?_
          refine zw_pf hm_80 dX7_forgetAll_53 (zT_is (zT_pi hS5) s_69) (zT_t (zT_pi hS5) s_69) p_7_40_7 zk_int ?_
          refine zw_push hm_80 dX7_forgetAll_56 (v := .inr (.inr (some 69))) rfl ?_
          refine zw_push hm_80 dX7_forgetAll_57 (v := .inl (0 : Int32)) rfl ?_
          refine zw_pf hm_80 dX7_forgetAll_58 (zT_is (zT_pi (zT_pi hS5)) s_69) (zT_t (zT_pi (zT_pi hS5)) s_69) p_7_43_7 zk_int ?_
          refine zw_push hm_80 dX7_forgetAll_61 (v := .inr (.inr (some 69))) rfl ?_
          refine zw_push hm_80 dX7_forgetAll_62 (v := .inl (0 : Int32)) rfl ?_
          refine zw_pf hm_80 dX7_forgetAll_63 (zT_is (zT_pi (zT_pi (zT_pi hS5))) s_69) (zT_t (zT_pi (zT_pi (zT_pi hS5))) s_69) p_7_46_7 zk_int ?_
          refine zw_push hm_80 dX7_forgetAll_66 (v := .inr (.inr (some 69))) rfl ?_
          refine zw_push hm_80 dX7_forgetAll_67 (v := .inl (0 : Int32)) rfl ?_
          refine zw_pf hm_80 dX7_forgetAll_68 (zT_is (zT_pi (zT_pi (zT_pi (zT_pi hS5)))) s_69) (zT_t (zT_pi (zT_pi (zT_pi (zT_pi hS5)))) s_69) p_7_49_7 zk_int ?_
          refine zw_push hm_80 dX7_forgetAll_71 (v := .inr (.inr (some 69))) rfl ?_
          refine zw_push hm_80 dX7_forgetAll_72 (v := .inl (0 : Int32)) rfl ?_
          refine zw_pf hm_80 dX7_forgetAll_73 (zT_is (zT_pi (zT_pi (zT_pi (zT_pi (zT_pi hS5))))) s_69) (zT_t (zT_pi (zT_pi (zT_pi (zT_pi (zT_pi hS5))))) s_69) p_7_52_7 zk_int ?_
          refine zw_push hm_80 dX7_forgetAll_76 (v := .inr (.inr (some 69))) rfl ?_
          refine zw_push hm_80 dX7_forgetAll_77 (v := .inl (0 : Int32)) rfl ?_
          refine zw_pf hm_80 dX7_forgetAll_78 (zT_is (zT_pi (zT_pi (zT_pi (zT_pi (zT_pi (zT_pi hS5)))))) s_69) (zT_t (zT_pi (zT_pi (zT_pi (zT_pi (zT_pi (zT_pi hS5)))))) s_69) p_7_55_7 zk_int ?_
          refine zw_push hm_80 dX7_forgetAll_81 (v := .inr (.inr (some 69))) rfl ?_
          refine zw_push hm_80 dX7_forgetAll_82 (v := .inl (0 : Int32)) rfl ?_
          refine zw_pf hm_80 dX7_forgetAll_83 (zT_is (zT_pi (zT_pi (zT_pi (zT_pi (zT_pi (zT_pi (zT_pi hS5))))))) s_69) (zT_t (zT_pi (zT_pi (zT_pi (zT_pi (zT_pi (zT_pi (zT_pi hS5))))))) s_69) p_7_58_7 zk_int ?_
          exact zw_vret hm_80 dX7_forgetAll_86 h
        · intro x S9 hx
          exact hx.elim
      · intro x S9 hx
        exact hx.elim
    · intro x S9 hx
      exact hx.elim
  · intro hc
    rw [if_neg hc] at h
    refine zw_push hm_80 dX7_forgetAll_9 (v := .inr (.inr (some 69))) rfl ?_
    refine zw_gf hm_80 dX7_forgetAll_10 (v := .inr (.inr (some 70))) (zT_is hS s_69) (zT_t hS s_69) rfl f_7_11_7 (zT_f hS r_69_0) ?_
    refine zw_push hm_80 dX7_forgetAll_13 (v := .inl l1) rfl ?_
    refine zw_push hm_80 dX7_forgetAll_14 (v := .inr (.inr none)) rfl ?_
    obtain ⟨hg, h⟩ := h
    refine zw_aas hm_80 dX7_forgetAll_15 (zT_is hS s_70) (zT_h hS s_70) rfl hg (fun _ z => by cases z) ?_
    refine zw_sto hm_80 dX7_forgetAll_16 [(1, .inl (l1 + (1 : Int32))), (0, .inr (.inr (some 69)))] rfl rfl rfl ?_
    refine zw_goto hm_80 dX7_forgetAll_19 (t := 2) rfl ?_
    exact zw_sub (ma_nd_of (ks := [0, 1]) rfl (by decide)) (ma_nd_of (ks := [1, 0]) rfl (by decide)) (ma_le_cons rfl (ma_le_cons rfl (ma_le_nil _))) h
theorem lp_80_69_sq_2 {X : Nat × (Nat → Int32)} {d w : Nat} {f : Nat → Nat → Int32} {r : Nat → Nat → Option Nat} {C Z N : Nat} {Q : Option ma_V ⊕ Nat → ma_S → Prop} {ab : Nat→Nat→Int32} (hd : 1 ≤ d) (hw : 23 ≤ w) (K : ∀ S₉, zS f r C Z N S₉ → (xB S₉ (mR S₉ 70)) → (aS 88 S₉ = aFg ab) → Q (.inl none) S₉) : ∀ (n : Nat) (S : ma_S) (l1 : Int32), (512 - l1.toInt).toNat = n → zS f r C Z N S → (0 ≤ l1.toInt) → (l1.toInt ≤ 512) → (zNt S l1.toInt) → (aS 88 S = zDe ab l1.toInt) → ma_wp X d w 80 2 [(0, .inr (.inr (some 69))), (1, .inl l1)] [] S Q := by
  intro n
  induction n using Nat.strongRecOn with
  | _ n IH =>
    intro S l1 hmu hI  hi0 hi1 hi2 hi3
    refine g_80_69_sq_2 l1 (by omega) (by omega) (zG_T hI) ?_
    have li1 : (512 : Int32).toInt = 512 := rfl
    have b2 := i_bd l1
    refine zd (fun h3 => ?_) (fun h3 => ?_)
    · skip
      have g4 := i_le h3
      have li5 : (-1 : Int32).toInt = -1 := rfl
      refine sp_276_71_s (ab := (aS 88 S)) ((-1 : Int32)) (by omega) (by omega) (zS_dn hI) (show xB S (mR S 70) from by first | (exact Nt_e (by have z := hi2; rw [show l1.toInt = 512 from by omega] at z; exact z))) (show aS 88 S = (aS 88 S) from by first | (exact rfl)) (fun S1 hL_S1 rp0_S1 rp1_S1 => zv_n ⟨zG_T hL_S1, ?_⟩)
      have hI_S1 := zS_up hI hL_S1
      have rp0_S1 : xB S1 (mR S1 70) := by
        have z := rp0_S1
        (try rw [show mI S 65 = f 65 from funext (fun k => zG_z hI rfl)] at z)
        (try rw [show mI S 64 1 = f 64 1 from zG_z hI rfl] at z)
        exact z
      have rp1_S1 : aS 88 S1 = zFl (aS 88 S) 71 (-1 : Int32) 4500 := by
        have z := rp1_S1
        (try rw [show mI S 65 = f 65 from funext (fun k => zG_z hI rfl)] at z)
        (try rw [show mI S 64 1 = f 64 1 from zG_z hI rfl] at z)
        exact z
      refine sp_276_72_s (ab := (aS 88 S1)) ((-1 : Int32)) (by omega) (by omega) (zS_dn hI_S1) (show xB S1 (mR S1 70) from by first | (exact xB_x (xC_o (W := 75) rp0_S1).2)) (show aS 88 S1 = (aS 88 S1) from by first | (exact rfl)) (fun S3 hL_S3 rp0_S3 rp1_S3 => zv_n ⟨zG_T hL_S3, ?_⟩)
      have hI_S3 := zS_up hI_S1 hL_S3
      have rp0_S3 : xB S3 (mR S3 70) := by
        have z := rp0_S3
        (try rw [show mI S1 65 = f 65 from funext (fun k => zG_z hI_S1 rfl)] at z)
        (try rw [show mI S1 64 1 = f 64 1 from zG_z hI_S1 rfl] at z)
        exact z
      have rp1_S3 : aS 88 S3 = zFl (aS 88 S1) 72 (-1 : Int32) 16 := by
        have z := rp1_S3
        (try rw [show mI S1 65 = f 65 from funext (fun k => zG_z hI_S1 rfl)] at z)
        (try rw [show mI S1 64 1 = f 64 1 from zG_z hI_S1 rfl] at z)
        exact z
      refine sp_276_73_s (ab := (aS 88 S3)) ((-1 : Int32)) (by omega) (by omega) (zS_dn hI_S3) (show xB S3 (mR S3 70) from by first | (exact xB_x (xC_o (W := 75) rp0_S3).2)) (show aS 88 S3 = (aS 88 S3) from by first | (exact rfl)) (fun S5 hL_S5 rp0_S5 rp1_S5 => zv_n ⟨zG_T hL_S5, ?_⟩)
      have hI_S5 := zS_up hI_S3 hL_S5
      have rp0_S5 : xB S5 (mR S5 70) := by
        have z := rp0_S5
        (try rw [show mI S3 65 = f 65 from funext (fun k => zG_z hI_S3 rfl)] at z)
        (try rw [show mI S3 64 1 = f 64 1 from zG_z hI_S3 rfl] at z)
        exact z
      have rp1_S5 : aS 88 S5 = zFl (aS 88 S3) 73 (-1 : Int32) 16 := by
        have z := rp1_S5
        (try rw [show mI S3 65 = f 65 from funext (fun k => zG_z hI_S3 rfl)] at z)
        (try rw [show mI S3 64 1 = f 64 1 from zG_z hI_S3 rfl] at z)
        exact z
      have li7 : (0 : Int32).toInt = 0 := rfl
      have hI6 : zS f r C Z N (ma_put S5 69 5 (.inl (0 : Int32))) := zG_sp hI_S5 (0) (512) rfl (by decide) (by decide) (by decide) trivial (by omega) (by omega)
      have hI8 : zS f r C Z N (ma_put (ma_put S5 69 5 (.inl (0 : Int32))) 69 6 (.inl (0 : Int32))) := zG_sp hI6 (0) (512) rfl (by decide) (by decide) (by decide) trivial (by omega) (by omega)
      have hI9 : zS f r C Z N (ma_put (ma_put (ma_put S5 69 5 (.inl (0 : Int32))) 69 6 (.inl (0 : Int32))) 69 7 (.inl (0 : Int32))) := zG_fr hI8 rfl (by decide) (by decide) (by decide) trivial
      have hI10 : zS f r C Z N (ma_put (ma_put (ma_put (ma_put S5 69 5 (.inl (0 : Int32))) 69 6 (.inl (0 : Int32))) 69 7 (.inl (0 : Int32))) 69 8 (.inl (0 : Int32))) := zG_fr hI9 rfl (by decide) (by decide) (by decide) trivial
      have hI11 : zS f r C Z N (ma_put (ma_put (ma_put (ma_put (ma_put S5 69 5 (.inl (0 : Int32))) 69 6 (.inl (0 : Int32))) 69 7 (.inl (0 : Int32))) 69 8 (.inl (0 : Int32))) 69 9 (.inl (0 : Int32))) := zG_fr hI10 rfl (by decide) (by decide) (by decide) trivial
      have hI12 : zS f r C Z N (ma_put (ma_put (ma_put (ma_put (ma_put (ma_put S5 69 5 (.inl (0 : Int32))) 69 6 (.inl (0 : Int32))) 69 7 (.inl (0 : Int32))) 69 8 (.inl (0 : Int32))) 69 9 (.inl (0 : Int32))) 69 10 (.inl (0 : Int32))) := zG_fr hI11 rfl (by decide) (by decide) (by decide) trivial
      have hI13 : zS f r C Z N (ma_put (ma_put (ma_put (ma_put (ma_put (ma_put (ma_put S5 69 5 (.inl (0 : Int32))) 69 6 (.inl (0 : Int32))) 69 7 (.inl (0 : Int32))) 69 8 (.inl (0 : Int32))) 69 9 (.inl (0 : Int32))) 69 10 (.inl (0 : Int32))) 69 11 (.inl (0 : Int32))) := zG_fr hI12 rfl (by decide) (by decide) (by decide) trivial
      have hI14 : zS f r C Z N (ma_put (ma_put (ma_put (ma_put (ma_put (ma_put (ma_put (ma_put S5 69 5 (.inl (0 : Int32))) 69 6 (.inl (0 : Int32))) 69 7 (.inl (0 : Int32))) 69 8 (.inl (0 : Int32))) 69 9 (.inl (0 : Int32))) 69 10 (.inl (0 : Int32))) 69 11 (.inl (0 : Int32))) 69 12 (.inl (0 : Int32))) := zG_fr hI13 rfl (by decide) (by decide) (by decide) trivial
      exact K _ hI14 (show xB (ma_put (ma_put (ma_put (ma_put (ma_put (ma_put (ma_put (ma_put S5 69 5 (.inl (0 : Int32))) 69 6 (.inl (0 : Int32))) 69 7 (.inl (0 : Int32))) 69 8 (.inl (0 : Int32))) 69 9 (.inl (0 : Int32))) 69 10 (.inl (0 : Int32))) 69 11 (.inl (0 : Int32))) 69 12 (.inl (0 : Int32))) (mR (ma_put (ma_put (ma_put (ma_put (ma_put (ma_put (ma_put (ma_put S5 69 5 (.inl (0 : Int32))) 69 6 (.inl (0 : Int32))) 69 7 (.inl (0 : Int32))) 69 8 (.inl (0 : Int32))) 69 9 (.inl (0 : Int32))) 69 10 (.inl (0 : Int32))) 69 11 (.inl (0 : Int32))) 69 12 (.inl (0 : Int32))) 70) from by first | (exact xB_x (xC_n (c := 69) (k := 12) (x := (0 : Int32)) (xC_p (c := 69) (k := 11) (x := (0 : Int32)) (xC_n (c := 69) (k := 10) (x := (0 : Int32)) (xC_n (c := 69) (k := 9) (x := (0 : Int32)) (xC_p (c := 69) (k := 8) (x := (0 : Int32)) (xC_n (c := 69) (k := 7) (x := (0 : Int32)) (xC_p (c := 69) (k := 6) (x := (0 : Int32)) (xC_p (c := 69) (k := 5) (x := (0 : Int32)) (xC_o (W := 75) rp0_S5) 69 xW75 rfl rfl) 69 xW75 rfl rfl) ⟨by decide, Or.inl ⟨rfl, rfl⟩⟩) 69 xW75 rfl rfl) ⟨by decide, Or.inl ⟨rfl, rfl⟩⟩) ⟨by decide, Or.inl ⟨rfl, rfl⟩⟩) 69 xW75 rfl rfl) ⟨by decide, Or.inl ⟨rfl, rfl⟩⟩).2)) (show aS 88 (ma_put (ma_put (ma_put (ma_put (ma_put (ma_put (ma_put (ma_put S5 69 5 (.inl (0 : Int32))) 69 6 (.inl (0 : Int32))) 69 7 (.inl (0 : Int32))) 69 8 (.inl (0 : Int32))) 69 9 (.inl (0 : Int32))) 69 10 (.inl (0 : Int32))) 69 11 (.inl (0 : Int32))) 69 12 (.inl (0 : Int32))) = aFg ab from by first | (refine (xC_n (c := 69) (k := 12) (x := (0 : Int32)) (xC_p (c := 69) (k := 11) (x := (0 : Int32)) (xC_n (c := 69) (k := 10) (x := (0 : Int32)) (xC_n (c := 69) (k := 9) (x := (0 : Int32)) (xC_p (c := 69) (k := 8) (x := (0 : Int32)) (xC_n (c := 69) (k := 7) (x := (0 : Int32)) (xC_p (c := 69) (k := 6) (x := (0 : Int32)) (xC_p (c := 69) (k := 5) (x := (0 : Int32)) (xC_o (W := 88) rp0_S5) 69 xW88 rfl rfl) 69 xW88 rfl rfl) ⟨by decide, Or.inr ⟨rfl, Or.inr ⟨rfl, by decide⟩⟩⟩) 69 xW88 rfl rfl) ⟨by decide, Or.inr ⟨rfl, Or.inr ⟨rfl, by decide⟩⟩⟩) ⟨by decide, Or.inr ⟨rfl, Or.inr ⟨rfl, by decide⟩⟩⟩) 69 xW88 rfl rfl) ⟨by decide, Or.inr ⟨rfl, Or.inr ⟨rfl, by decide⟩⟩⟩).1.trans ?_; rw [rp1_S5, rp1_S3, rp1_S1, hi3, show l1.toInt = 512 from by omega]; rfl))
    · skip
      have g15 := i_nle h3
      refine ⟨i_ix (by omega) (by omega), ?_⟩
      have hI16 : zS f r C Z N (ma_put S 70 l1.toNatClampNeg (.inr (.inr none))) := zG_rf hI (by decide) (by decide +kernel) (fun _ z => by cases z)
      first | have e17 : (l1 + (1 : Int32)).toInt = l1.toInt + (1) := i_addk rfl (by omega) (by omega) | have b18 := i_bd (l1 + (1 : Int32))
      exact IH _ (by omega) _ ((l1 + (1 : Int32))) rfl hI16 (by omega) (by omega) (show zNt (ma_put S 70 l1.toNatClampNeg (.inr (.inr none))) ((l1 + (1 : Int32))).toInt from by first | (exact Nt_0) | (exact Nt_s hi2 (by omega) (by omega))) (show aS 88 (ma_put S 70 l1.toNatClampNeg (.inr (.inr none))) = zDe ab ((l1 + (1 : Int32))).toInt from by first | (refine aS_n0.trans ?_; rw [hi3]; exact zDe_s (by omega) (by omega)))
theorem sp_80_69_sq {X : Nat × (Nat → Int32)} {d w : Nat} {f : Nat → Nat → Int32} {r : Nat → Nat → Option Nat} {C Z N : Nat} {Q : Option ma_V ⊕ Nat → ma_S → Prop} {ab : Nat→Nat→Int32} {S : ma_S}  (hd : 1 ≤ d) (hw : 23 ≤ w) (hI : zS f r C Z N S) (hpre0 : aS 88 S = ab) (K : ∀ S₉, zS f r C Z N S₉ → (xB S₉ (mR S₉ 70)) → (aS 88 S₉ = aFg ab) → Q (.inl none) S₉) : ma_wp X d w 80 0 [(0, .inr (.inr (some 69)))] [] S Q := by
  refine g_80_69_sq_0  (by omega) (by omega) (zG_T hI) ?_
  have li1 : (0 : Int32).toInt = 0 := rfl
  exact lp_80_69_sq_2 (by omega) (by omega) K _ _ ((0 : Int32)) rfl hI (by omega) (by omega) (show zNt S ((0 : Int32)).toInt from by first | (exact Nt_0)) (show aS 88 S = zDe ab ((0 : Int32)).toInt from by first | (rw [hpre0]; exact zDe_0.symm))
theorem g_101_87_sq_0 {X : Nat × (Nat → Int32)} {d w : Nat} {S : ma_S} {Q : Option ma_V ⊕ Nat → ma_S → Prop}  (hd : 0 ≤ d) (hw : 0 ≤ w) (hS : zT S) (h : Q (.inl (some (.inl (mI S 87 0)))) S) : ma_wp X d w 101 0 [(0, .inr (.inr (some 87)))] [] S Q := by
  refine zw_push hm_101 dX8_total_0 (v := .inr (.inr (some 87))) rfl ?_
  refine zw_gf hm_101 dX8_total_1 (v := .inl (mI S 87 0)) (zT_is hS s_87) (zT_t hS s_87) rfl f_8_9_6 rfl ?_
  exact zw_iret hm_101 dX8_total_4 h
theorem sp_101_87_sq {X : Nat × (Nat → Int32)} {d w : Nat} {f : Nat → Nat → Int32} {r : Nat → Nat → Option Nat} {C Z N : Nat} {Q : Option ma_V ⊕ Nat → ma_S → Prop} {S : ma_S}  (hd : 0 ≤ d) (hw : 0 ≤ w) (hI : zJ87 f r C Z N S)  (K : ∀ v S₉, S₉ = S → (True) → Q (.inl (some (.inl v))) S₉) : ma_wp X d w 101 0 [(0, .inr (.inr (some 87)))] [] S Q := by
  refine g_101_87_sq_0  (by omega) (by omega) (zG_T hI) ?_
  have f1 := zG_s hI (0) (1500) (c := 87) (k := 0) (by decide)
  exact K ((mI S 87 0)) _ rfl trivial

/-! from 95.i31 -/
/-! the class opens a heap (written by wip/tools/gen18c.py) -/
theorem hp_ng {v s : Int32} {Z : Int} {W : Prop} (h : (v.toInt = -1 ∧ -1 - s.toInt = Z) ∨ (v.toInt ≠ -1 ∧ W)) (hv : v.toInt = -1) (h0 : 0 ≤ s.toInt) : Z < 0 := by
  rcases h with h | h
  · omega
  · exact absurd hv h.1
/-! from 95.j00 -/
/-! TWO HEAPS ALIKE: all but the walk's own cells; while marking: under news the walk's too, under picture what it will have come to -/
section SM
variable {a b c a₉ b₉ : Nat → Nat → Int32} {x y z i : Int32} {n k u v : Nat} {p q : Int}
def zNA (b : Nat → Nat → Int32) : Prop := ∀ x, zNn b x → xAl b x
def qSm (a b : Nat → Nat → Int32) : Prop := zOf a b ∧ (b 87 8 ≠ 0 → zPP a b ∧ zNA b ∧ (b 87 7 = 1 → zJJ a b))
theorem Mk_al (h : zNA a) (hm : zMk a u) : xAl a u := hm _ (fun g w => h g w) (fun _ _ _ _ e => e.1)
theorem of_u (h : zOf a b) : zOf (ma_u a n k x) (ma_u b n k x) := fun c₉ k₉ q1 q2 q3 => by
  by_cases w : c₉ = n ∧ k₉ = k
  · rw [w.1, w.2, xu_s, xu_s]
  · rw [xu_o w, xu_o w]
    exact h c₉ k₉ q1 q2 q3
theorem WQ_JJ (h : zJJ a b) (hw : zWQ b) : zWQ a := by
  obtain ⟨h1, ⟨e3, e4, e5⟩, h3, h4, h5⟩ := h
  obtain ⟨q1, q2, q3, q4, q5, q6⟩ := hw
  have ec : cnt (a 77) 512 = cnt (b 77) 512 := cnt_congr (fun j hj => by rw [h3 j hj])
  refine ⟨?_, fun j j1 j2 => ?_, fun j j₉ j1 j2 j3 => ?_, fun x hx w => ?_, fun x hx => ?_, ?_, fun x hx => ?_⟩
  · unfold zQ1 at q1 ⊢
    rw [e3, e4, ec]
    exact q1
  · have e := h4 j j2
    rw [e3] at j1
    rw [e4] at j2
    have w := q2 j j1 j2
    have cw := tn_cast w.1
    rw [e, h1 126 _ (by decide) (by decide) (by decide), h3 _ (by have := w.2.1; omega)]
    exact w
  · have f1 := h4 j (by omega)
    have f2 := h4 j₉ j3
    rw [e3] at j1
    rw [e4] at j3
    rw [f1, f2]
    exact q3 j j₉ j1 j2 j3
  · rw [h3 x hx] at w
    obtain ⟨j, j1, j2, j3⟩ := q4 x hx w
    rw [← e3] at j1
    rw [← e4] at j2
    exact ⟨j, j1, j2, by rw [h4 j j2]; exact j3⟩
  · rw [h3 x hx]
    exact q5 x hx
  · rw [e5]
    exact q6.1
  · have al : xAl b x := (Of_al h1).mpr hx
    rw [h1 130 _ (by decide) (by decide) (by decide)]
    exact q6.2 x al
theorem JJ_nd (h : zJJ a b) : (∀ u, zNn a u ↔ zNn b u) ∧ ∀ u, zDn a u ↔ zDn b u := by
  refine ⟨fun u => ?_, fun u => ?_⟩
  · unfold zNn
    constructor
    · intro w
      rw [← h.2.2.1 u w.1]
      exact w
    · intro w
      rw [h.2.2.1 u w.1]
      exact w
  · unfold zDn
    constructor
    · intro w
      rw [← h.2.2.1 u w.1]
      exact w
    · intro w
      rw [h.2.2.1 u w.1]
      exact w
theorem PP_JJ (h : zJJ a b) (hw : zWQ b) : zPP a b := by
  have nd := JJ_nd h
  exact ⟨h.1, WQ_JJ h hw, hw, h.2.1.1, fun x => zM_cg nd.1 nd.2 (fun u y => (Of_ed h.1).symm), cD_cg nd.2⟩
theorem Sm_J (h : zJJ a b) (hw : zWQ b) (hn : zNA b) : qSm a b := ⟨h.1, fun _ => ⟨PP_JJ h hw, hn, fun _ => h⟩⟩
theorem Sm_0 (h : zOf a b) (h8 : b 87 8 = 0) : qSm a b := ⟨h, fun w => absurd h8 w⟩
theorem Sm_r (h8 : a 87 8 = 0) : qSm a a := Sm_0 Of_rf h8
/-- a change apart from the walk -/
theorem JJ_g (h : zJJ a b) (o : zOf a₉ b₉) (e1 : a₉ 75 = a 75) (e2 : a₉ 76 = a 76) (e3 : a₉ 77 = a 77) (f1 : b₉ 75 = b 75) (f2 : b₉ 76 = b 76) (f3 : b₉ 77 = b 77) : zJJ a₉ b₉ := by
  refine ⟨o, ?_⟩
  rw [e1, e2, e3, f1, f2, f3]
  exact h.2
theorem PP_g (h : zPP a b) (o : zOf a₉ b₉) (e1 : a₉ 75 = a 75) (e2 : a₉ 76 = a 76) (e3 : a₉ 77 = a 77) (e4 : a₉ 126 = a 126) (e5 : a₉ 130 = a 130) (f1 : b₉ 75 = b 75) (f2 : b₉ 76 = b 76) (f3 : b₉ 77 = b 77) (f4 : b₉ 126 = b 126) (f5 : b₉ 130 = b 130) (g1 : zEd a₉ = zEd a) (g2 : zEd b₉ = zEd b) : zPP a₉ b₉ := by
  refine ⟨o, WQ_cg h.2.1 e1.symm e2.symm e3.symm e4.symm e5.symm, WQ_cg h.2.2.1 f1.symm f2.symm f3.symm f4.symm f5.symm, ?_, fun x => ?_, ?_⟩
  · rw [e1, f1]
    exact h.2.2.2.1
  · rw [(Mk_cg e3 g1).1, (Mk_cg f3 g2).1]
    exact h.2.2.2.2.1 x
  · unfold cD
    rw [e3, f3]
    exact h.2.2.2.2.2
theorem NA_g (h : zNA b) (f3 : b₉ 77 = b 77) (f4 : b₉ 126 = b 126) : zNA b₉ := by
  intro x hx
  unfold zNn at hx
  unfold xAl
  rw [f3] at hx
  rw [f4]
  exact h x hx
theorem Sm_g (h : qSm a b) (o : zOf a₉ b₉) (e1 : a₉ 75 = a 75) (e2 : a₉ 76 = a 76) (e3 : a₉ 77 = a 77) (e4 : a₉ 126 = a 126) (e5 : a₉ 130 = a 130) (f1 : b₉ 75 = b 75) (f2 : b₉ 76 = b 76) (f3 : b₉ 77 = b 77) (f4 : b₉ 126 = b 126) (f5 : b₉ 130 = b 130) (g1 : zEd a₉ = zEd a) (g2 : zEd b₉ = zEd b) (f8 : b₉ 87 = b 87) : qSm a₉ b₉ := by
  refine ⟨o, fun m => ?_⟩
  rw [f8] at m ⊢
  have w := h.2 m
  exact ⟨PP_g w.1 o e1 e2 e3 e4 e5 f1 f2 f3 f4 f5 g1 g2, NA_g w.2.1 f3 f4, fun w7 => JJ_g (w.2.2 w7) o e1 e2 e3 f1 f2 f3⟩
theorem Sm_u (h : qSm a b) (hn : n = 72 ∨ n = 73 ∨ n = 74 ∨ n = 133 ∨ n = 134 ∨ n = 69) : qSm (ma_u a n k x) (ma_u b n k x) := Sm_g h (of_u h.1) (un (by omega)) (un (by omega)) (un (by omega)) (un (by omega)) (un (by omega)) (un (by omega)) (un (by omega)) (un (by omega)) (un (by omega)) (un (by omega)) (Ed_u (by omega)) (Ed_u (by omega)) (un (by omega))
/-- one comes -/
theorem NA_gr {T : Nat → Prop} (h : zNA a) (g : zGr a b T) : zNA b := fun x hx => (Of_al g.2.1).mpr (((g.2.2.2.1 x).mp hx).elim (fun w => h x w) (fun w => w.1))
theorem of_cm (h : zOf a b) : zOf (aCm a y) (aCm b y) := Of_tr (Of_sy cm_of) (Of_tr h cm_of)
theorem Sm_cm (h : qSm a b) : qSm (aCm a y) (aCm b y) := by
  refine ⟨of_cm h.1, fun m => ?_⟩
  rw [aCm_o ⟨by decide, by decide, by decide⟩] at m ⊢
  have w := h.2 m
  exact ⟨PP_cm w.1, NA_gr w.2.1 (gr_cm w.1.2.2.1), fun w7 => JJ_cm (w.2.2 w7)⟩
theorem Nm_of (h : zOf a b) : aNm a y = aNm b y := by
  unfold aNm
  rw [h 126 _ (by decide) (by decide) (by decide)]
theorem Sm_nc (h : qSm a b) : qSm (aNc a y z) (aNc b y z) := by
  unfold aNc
  rw [h.1 87 8 (by decide) (by decide) (by decide), h.1 87 7 (by decide) (by decide) (by decide), Nm_of h.1, Nm_of (y := z) h.1]
  split
  · exact Sm_cm h
  · exact h
theorem Sm_rt (h : qSm a b) : qSm (aRt a i y) (aRt b i y) := by
  unfold aRt
  rw [Nm_of h.1, h.1 72 _ (by decide) (by decide) (by decide)]
  exact Sm_nc (Sm_u h (by decide))
/-- the first of WISHES is taken -/
theorem Tw_of (h : zOf a b) : zOf (aTw a) (aTw b) ∧ aTy a = aTy b := by
  have e5 := h 69 5 (by decide) (by decide) (by decide)
  refine ⟨?_, ?_⟩
  · unfold aTw
    rw [e5]
    split
    · have o := of_u (n := 69) (k := 5) (x := b 69 5 - 1) h
      intro c₉ k₉ q1 q2 q3
      unfold zSh
      rw [o 74 _ (by decide) (by decide) (by decide), o c₉ k₉ q1 q2 q3]
    · exact h
  · unfold aTy
    rw [e5, h 74 0 (by decide) (by decide) (by decide)]
theorem Tw_e (hn : n ≠ 69) (h4 : n ≠ 74) : aTw a n = a n := by
  unfold aTw
  split
  · funext j
    unfold zSh
    rw [if_neg (fun w => h4 w.1), xu_o (fun w => hn w.1)]
  · rfl
theorem Ed_te : zEd (aTw a) = zEd a := Ed_cg (Tw_e (by decide) (by decide)) (Tw_e (by decide) (by decide)) (fun j i => rf_cg (Tw_e (by omega) (by omega)) (Tw_e (by decide) (by decide)) (Tw_e (by decide) (by decide)))
theorem Sm_tw (h : qSm a b) : qSm (aTw a) (aTw b) := Sm_g h (Tw_of h.1).1 (Tw_e (by decide) (by decide)) (Tw_e (by decide) (by decide)) (Tw_e (by decide) (by decide)) (Tw_e (by decide) (by decide)) (Tw_e (by decide) (by decide)) (Tw_e (by decide) (by decide)) (Tw_e (by decide) (by decide)) (Tw_e (by decide) (by decide)) (Tw_e (by decide) (by decide)) (Tw_e (by decide) (by decide)) Ed_te Ed_te (Tw_e (by decide) (by decide))
/-- two come, in either order -/
theorem PP_tr (h : zPP a b) (h2 : zPP b c) : zPP a c := ⟨Of_tr h.1 h2.1, h.2.1, h2.2.2.1, h.2.2.2.1.trans h2.2.2.2.1, fun x => (h.2.2.2.2.1 x).trans (h2.2.2.2.2.1 x), h.2.2.2.2.2.trans h2.2.2.2.2.2⟩
theorem PP_sw (h : zWQ a) : zPP (aCm (aCm a x) y) (aCm (aCm a y) x) := by
  have g := gr_tr (gr_cm (y := x) h) (gr_cm (y := y) (WQ_cm h))
  have g2 := gr_tr (gr_cm (y := y) h) (gr_cm (y := x) (WQ_cm h))
  have o := Of_tr (Of_sy g.2.1) g2.2.1
  have nn : ∀ u, zNn (aCm (aCm a x) y) u ↔ zNn (aCm (aCm a y) x) u := fun u => by
    rw [g.2.2.2.1 u, g2.2.2.2.1 u]
    exact ⟨fun w => w.imp id (fun w2 => ⟨w2.1, w2.2.symm⟩), fun w => w.imp id (fun w2 => ⟨w2.1, w2.2.symm⟩)⟩
  have dn : ∀ u, zDn (aCm (aCm a x) y) u ↔ zDn (aCm (aCm a y) x) u := fun u => by rw [g.2.2.1 u, g2.2.2.1 u]
  exact ⟨o, g.1, g2.1, by rw [g.2.2.2.2, g2.2.2.2.2], fun u => zM_cg nn dn (fun u y => (Of_ed o).symm), cD_cg dn⟩
theorem cm_u (hn : n ≠ 75 ∧ n ≠ 76 ∧ n ≠ 77 ∧ n ≠ 126 ∧ n ≠ 130) : aCm (ma_u a n k z) y = ma_u (aCm a y) n k z := by
  have e75 : ma_u a n k z 75 = a 75 := un (by omega)
  have e77 : ma_u a n k z 77 = a 77 := un (by omega)
  have e126 : ma_u a n k z 126 = a 126 := un (by omega)
  have e130 : ma_u a n k z 130 = a 130 := un (by omega)
  have cc : aCc (ma_u a n k z) y ↔ aCc a y := by
    unfold aCc
    rw [e75, e77, e126, e130]
  by_cases h : aCc a y
  · rw [aCm_y h, aCm_y (cc.mpr h), e75]
    funext c₉ k₉
    by_cases w : c₉ = n ∧ k₉ = k
    · rw [w.1, w.2, xu_s, xu_o (by omega), xu_o (by omega), xu_o (by omega), xu_s]
    · rw [xu_o (c₉ := n) w]
      by_cases w1 : c₉ = 75 ∧ k₉ = 4
      · rw [w1.1, w1.2, xu_s, xu_s]
      · rw [xu_o w1, xu_o w1]
        by_cases w2 : c₉ = 76 ∧ k₉ = (a 75 4).toNatClampNeg
        · rw [w2.1, w2.2, xu_s, xu_s]
        · rw [xu_o w2, xu_o w2]
          by_cases w3 : c₉ = 77 ∧ k₉ = y.toNatClampNeg
          · rw [w3.1, w3.2, xu_s, xu_s]
          · rw [xu_o w3, xu_o w3, xu_o w]
  · rw [aCm_n h, aCm_n (fun w => h (cc.mp w))]
theorem Sm_sg (h : qSm a b) (hx : aNm b x ≠ -1) : qSm (aSt (aRt a i x) x) (aRt (aSt b x) i x) := by
  have e8 := h.1 87 8 (by decide) (by decide) (by decide)
  have nx : aNm b x = x := by
    unfold aNm at hx ⊢
    split
    · rfl
    · rename_i w
      rw [if_neg w] at hx
      exact absurd rfl hx
  by_cases m : b 87 8 = 0
  · have ea : ∀ d : Nat → Nat → Int32, d 87 8 = 0 → aSt d x = d := fun d hd => by
      unfold aSt
      rw [if_neg (fun w => w hd)]
    have er : aRt a i x 87 8 = 0 := by
      unfold aRt
      rw [← NC_of 87 8 (by decide) (by decide) (by decide), xu_o (by omega), e8]
      exact m
    rw [ea b m, ea _ er]
    exact Sm_rt h
  · have st : ∀ d : Nat → Nat → Int32, d 87 8 ≠ 0 → aSt d x = aCm d x := fun d hd => by
      unfold aSt
      rw [if_pos hd]
    have er : aRt a i x 87 8 ≠ 0 := by
      unfold aRt
      rw [← NC_of 87 8 (by decide) (by decide) (by decide), xu_o (by omega), e8]
      exact m
    rw [st _ er, st b m]
    unfold aRt
    have n1 : aNm (aCm b x) x = x := by
      rw [← Nm_of (a := b) cm_of]
      exact nx
    rw [Nm_of h.1, nx, n1, h.1 72 _ (by decide) (by decide) (by decide), aCm_o (c := 72) ⟨by decide, by decide, by decide⟩, ← cm_u (by decide)]
    have h1 : qSm (ma_u a 72 i.toNatClampNeg x) (ma_u b 72 i.toNatClampNeg x) := Sm_u h (by decide)
    have m1 : ma_u b 72 i.toNatClampNeg x 87 8 ≠ 0 := by
      rw [xu_o (by omega)]
      exact m
    generalize hA : ma_u a 72 i.toNatClampNeg x = A at *
    generalize hB : ma_u b 72 i.toNatClampNeg x = B at *
    generalize b 72 i.toNatClampNeg = w at *
    have mA : A 87 8 ≠ 0 := by
      rw [h1.1 87 8 (by decide) (by decide) (by decide)]
      exact m1
    have mB : aCm B x 87 8 ≠ 0 := by
      rw [aCm_o ⟨by decide, by decide, by decide⟩]
      exact m1
    have nB : ∀ y, aNm (aCm B x) y = aNm B y := fun y => (Nm_of cm_of).symm
    by_cases s : aNm B w = aNm B x
    · rw [aNc_n (fun q => q.2 (by rw [Nm_of h1.1, Nm_of (y := x) h1.1]; exact s)), aNc_n (fun q => q.2 (by rw [nB, nB]; exact s))]
      exact Sm_cm h1
    · rw [aNc_y mA (by rw [Nm_of h1.1, Nm_of (y := x) h1.1]; exact s), aNc_y mB (by rw [nB, nB]; exact s), aCm_o (c := 87) ⟨by decide, by decide, by decide⟩, h1.1 87 7 (by decide) (by decide) (by decide)]
      by_cases s7 : B 87 7 = 0
      · rw [if_pos s7]
        have hs : qSm (aCm (aCm A x) w) (aCm (aCm B x) w) := Sm_cm (Sm_cm h1)
        have pa : zPP (aCm (aCm A w) x) (aCm (aCm A x) w) := PP_sw (h1.2 m1).1.2.1
        refine ⟨Of_tr pa.1 hs.1, fun m2 => ?_⟩
        have q := hs.2 m2
        refine ⟨PP_tr pa q.1, q.2.1, fun q7 => ?_⟩
        rw [aCm_o (c := 87) ⟨by decide, by decide, by decide⟩, aCm_o (c := 87) ⟨by decide, by decide, by decide⟩, s7] at q7
        exact absurd q7 (by decide)
      · rw [if_neg s7]
        exact Sm_cm (Sm_cm h1)
end SM

/-! from 95.j01 -/
/-! THE END OF A MARKING, STEPS, CLEANING, ROOM: alike in both -/
section SM1
variable {a b c a₉ b₉ : Nat → Nat → Int32} {x y z i : Int32} {n k u v : Nat} {p q : Int}
theorem Uw_of (h : zOf a b) : zOf (zUw a y p) (zUw b y p) := fun c₉ k₉ q1 q2 q3 => by
  unfold zUw
  rw [h 73 k₉ (by decide) (by decide) (by decide), h c₉ k₉ q1 q2 q3]
theorem gr_of (h : zOf a b) : zOf (aGr a y) (aGr b y) := by
  unfold aGr
  rw [h 69 5 (by decide) (by decide) (by decide)]
  split
  · exact of_u (of_u (of_u (Uw_of h)))
  · exact of_u (Uw_of h)
theorem rm_of (h : zOf a b) : zOf (aRm a y) (aRm b y) := by
  have f : ∀ p e : Int, zOf (zFr (zUw a y 16) p e) (zFr (zUw b y 16) p e) := fun p e c₉ k₉ q1 q2 q3 => by
    unfold zFr
    rw [Uw_of h c₉ k₉ q1 q2 q3]
  have g : ∀ (p e : Int) (m : Nat), zOf (zNo (zFr (zUw a y 16) p e) m) (zNo (zFr (zUw b y 16) p e) m) := fun p e m c₉ k₉ q1 q2 q3 => by
    unfold zNo
    rw [f p e c₉ k₉ q1 q2 q3]
  unfold aRm
  rw [h 130 _ (by decide) (by decide) (by decide), h 128 _ (by decide) (by decide) (by decide), h 69 8 (by decide) (by decide) (by decide), h 69 11 (by decide) (by decide) (by decide)]
  exact of_u (of_u (g _ _ _))
theorem rm_f (hf : 126 ≤ n) (h1 : n < 1000) : aRm a y n k = if k = y.toNatClampNeg then 0 else a n k := by
  show (if n = 69 ∧ k = 11 then _ else if n = 69 ∧ k = 8 then _ else zNo _ _ n k) = _
  rw [if_neg (by omega), if_neg (by omega)]
  unfold zNo
  by_cases w : k = y.toNatClampNeg
  · rw [if_pos (Or.inl ⟨hf, h1, w⟩), if_pos w]
  · rw [if_neg (by omega), if_neg w, zFr_o (by omega), zUw_o (by omega)]
theorem rm_fp (h : xFp a) : xFp (aRm a y) := by
  refine ⟨?_, fun x hx => ?_⟩
  · rw [aRm_o (by decide) ⟨by decide, by decide, by decide, by decide⟩]
    exact h.1
  · unfold xAl at hx
    rw [rm_f (by decide) (by decide)] at hx ⊢
    by_cases w : x = y.toNatClampNeg
    · rw [if_pos w]
      decide
    · rw [if_neg w] at hx ⊢
      exact h.2 x hx
def zPM (a b : Nat → Nat → Int32) : Prop := zOf a b ∧ (∀ x, zNn a x ↔ zNn b x) ∧ xFp a ∧ xFp b
theorem PM_0 (h : ∀ x, zNn a x ↔ zNn b x) (hx : u < 512) (w : a 77 u = 0) : b 77 u = 0 := Decidable.byContradiction (fun q => ((h u).mpr ⟨hx, q⟩).2 w)
theorem MC_1 (h : zPM a b) (w : aMc a x) : aMc b x := by
  obtain ⟨w1, w2, w3, w4, w5⟩ := w
  have cx := tn_cast w1
  have e := h.1 126 x.toNatClampNeg (by decide) (by decide) (by decide)
  rw [e] at w3
  have f := h.2.2.2
  have p := f.2 x.toNatClampNeg ⟨by omega, w3⟩
  have p0 := f.1
  exact ⟨w1, w2, w3, by omega, PM_0 h.2.1 (by omega) w5⟩
theorem PM_sy (h : zPM a b) : zPM b a := ⟨Of_sy h.1, fun x => (h.2.1 x).symm, h.2.2.2, h.2.2.1⟩
theorem aMf_y (z : aMc a x) : aMf (n + 1) x a = aMf n (x + 1) (aRm a x) := by
  show aMf n (x + 1) (if _ then aRm a x else a) = _
  unfold aMc at z
  rw [if_pos z]
theorem aMf_n (z : ¬ aMc a x) : aMf (n + 1) x a = aMf n (x + 1) a := by
  show aMf n (x + 1) (if _ then aRm a x else a) = _
  unfold aMc at z
  rw [if_neg z]
theorem Mf_of : ∀ (f : Nat) (x : Int32) (a b : Nat → Nat → Int32), zPM a b → zOf (aMf f x a) (aMf f x b) := by
  intro f
  induction f with
  | zero => intro x a b h; exact h.1
  | succ f ih =>
    intro x a b h
    by_cases w : aMc a x
    · rw [aMf_y w, aMf_y (MC_1 h w)]
      refine ih _ _ _ ⟨rm_of h.1, fun u => ?_, rm_fp h.2.2.1, rm_fp h.2.2.2⟩
      have e : ∀ d : Nat → Nat → Int32, zNn (aRm d x) u ↔ zNn d u := fun d => by
        unfold zNn
        rw [aRm_o (by decide) ⟨by decide, by decide, by omega, by omega⟩]
      rw [e, e]
      exact h.2.1 u
    · rw [aMf_n w, aMf_n (fun w2 => w (MC_1 (PM_sy h) w2))]
      exact ih _ _ _ h
/-- the grants -/
def zPQ (a b : Nat → Nat → Int32) : Prop := zOf a b ∧ qE0 a ∧ qE0 b ∧ ∀ x, zNn a x ↔ zNn b x
theorem PQ_sy (h : zPQ a b) : zPQ b a := ⟨Of_sy h.1, h.2.2.1, h.2.1, fun x => (h.2.2.2 x).symm⟩
theorem GC_1 (h : zPQ a b) (w : aGc a x) : aGc b x := by
  obtain ⟨w1, w2, w3, w4, w5, w6⟩ := w
  have m := MC_1 (x := x) ⟨h.1, h.2.2.2, h.2.1.1.2.2.2.2.2, h.2.2.1.1.2.2.2.2.2⟩ ⟨w1, w2, w3, w5, w6⟩
  rw [h.1 134 _ (by decide) (by decide) (by decide)] at w4
  exact ⟨w1, w2, m.2.2.1, w4, m.2.2.2.1, m.2.2.2.2⟩
theorem aGf_y (z : aGc a x) : aGf (n + 1) x a = aGf n (x + 1) (aSp 512 (aCm (aGr a x) x)) := by
  show aGf n (x + 1) (if _ then aSp 512 (aCm (aGr a x) x) else a) = _
  unfold aGc at z
  rw [if_pos z]
theorem aGf_n (z : ¬ aGc a x) : aGf (n + 1) x a = aGf n (x + 1) a := by
  show aGf n (x + 1) (if _ then aSp 512 (aCm (aGr a x) x) else a) = _
  unfold aGc at z
  rw [if_neg z]
theorem PQ_gr (h : zPQ a b) : zPQ (aSp 512 (aCm (aGr a y) y)) (aSp 512 (aCm (aGr b y) y)) := by
  have ea := E0_gr (y := y) h.2.1
  have eb := E0_gr (y := y) h.2.2.1
  have o := gr_of (y := y) h.1
  have nn : ∀ u, zNn (aGr a y) u ↔ zNn (aGr b y) u := fun u => by
    rw [Nn_gr, Nn_gr]
    exact h.2.2.2 u
  have mk : ∀ u, zMk (aGr a y) u ↔ zMk (aGr b y) u := fun u => by
    rw [Nn_end ea.1 ea.2, Nn_end eb.1 eb.2]
    exact nn u
  generalize aGr a y = A at *
  generalize aGr b y = B at *
  have sa := E0_sp (WQ_cm (y := y) ea.1)
  have sb := E0_sp (WQ_cm (y := y) eb.1)
  refine ⟨Of_tr (Of_sy sa.2) (Of_tr (of_cm o) sb.2), sa.1, sb.1, fun x => ?_⟩
  rw [sp_Nn (WQ_cm ea.1), sp_Nn (WQ_cm eb.1), Mk_cm ea.1, Mk_cm eb.1]
  refine zM_cg (fun u => ?_) mk (fun u v => (Of_ed o).symm)
  rw [mk u, Of_al o]
theorem Gf_of : ∀ (f : Nat) (x : Int32) (a b : Nat → Nat → Int32), zPQ a b → zPQ (aGf f x a) (aGf f x b) := by
  intro f
  induction f with
  | zero => intro x a b h; exact h
  | succ f ih =>
    intro x a b h
    by_cases w : aGc a x
    · rw [aGf_y w, aGf_y (GC_1 h w)]
      exact ih _ _ _ (PQ_gr h)
    · rw [aGf_n w, aGf_n (fun w2 => w (GC_1 (PQ_sy h) w2))]
      exact ih _ _ _ h
theorem Fi_of (h : zPP a b) (he : ¬ (a 75 3).toInt < (a 75 4).toInt) : zOf (aFi a) (aFi b) := by
  have hb : ¬ (b 75 3).toInt < (b 75 4).toInt := fun w => he ((PP_em h).mpr w)
  have nn : ∀ u, zNn (ma_u a 87 8 0) u ↔ zNn (ma_u b 87 8 0) u := fun u => by
    have e : ∀ d : Nat → Nat → Int32, zNn (ma_u d 87 8 0) u ↔ zNn d u := fun d => by
      unfold zNn
      rw [un (n := 77) (by decide)]
    rw [e, e, ← Nn_end h.2.1 he, ← Nn_end h.2.2.1 hb]
    exact h.2.2.2.2.1 u
  have q : zPQ (ma_u a 87 8 0) (ma_u b 87 8 0) := ⟨of_u h.1, E0_87 ⟨h.2.1, he⟩, E0_87 ⟨h.2.2.1, hb⟩, nn⟩
  have g : zPQ (aGw (ma_u a 87 8 0) 0) (aGw (ma_u b 87 8 0) 0) := by
    unfold aGw
    rw [q.1 69 6 (by decide) (by decide) (by decide)]
    exact Gf_of _ _ _ _ q
  unfold aFi
  generalize aGw (ma_u a 87 8 0) 0 = A at *
  generalize aGw (ma_u b 87 8 0) 0 = B at *
  unfold aMv
  rw [g.1 69 6 (by decide) (by decide) (by decide)]
  exact Mf_of _ _ _ _ ⟨g.1, g.2.2.2, g.2.1.1.2.2.2.2.2, g.2.2.1.1.2.2.2.2.2⟩
theorem I_gr2 (h : qI a) : qI (aGr a y) := by
  by_cases w : (a 69 5).toInt < 512
  · exact I_gr h w
  · have e : aGr a y 69 = a 69 := by
      funext j
      unfold aGr
      rw [if_neg w, xu_o (by omega), zUw_o (by decide)]
    exact I_cg h (gr_r (by decide) (by decide) (by decide) (by decide)) (gr_r (by decide) (by decide) (by decide) (by decide)) (gr_r (by decide) (by decide) (by decide) (by decide)) (gr_r (by decide) (by decide) (by decide) (by decide)) e (gr_r (by decide) (by decide) (by decide) (by decide)) (fun j => gr_r (by omega) (by omega) (by omega) (by omega))
theorem I_gf : ∀ (f : Nat) (x : Int32) (a : Nat → Nat → Int32), qI a → qE0 a → qI (aGf f x a) ∧ qE0 (aGf f x a) := by
  intro f
  induction f with
  | zero => intro x a h h2; exact ⟨h, h2⟩
  | succ f ih =>
    intro x a h h2
    by_cases w : aGc a x
    · rw [aGf_y w]
      have s := E0_sp (WQ_cm (y := x) (E0_gr (y := x) h2).1)
      exact ih _ _ (qI_of (qI_of (I_gr2 h) cm_of) s.2) s.1
    · rw [aGf_n w]
      exact ih _ _ h h2
theorem I_fi (hI : qI a) (hE : qE0 a) : qI (aFi a) := by
  have q := I_gf ((ma_u a 87 8 0 69 6).toInt - (0 : Int32).toInt).toNat 0 _ (I_87 (x := 0) hI) (E0_87 (x := 0) hE)
  exact I_mv q.1 q.2.1.2.2.2.2.2.1
/-- steps -/
theorem Tl_of (h : zWQ a) : xTl a := by
  have q := h.1.2.2
  have c : cnt (a 77) 512 ≤ 512 := cnt_le
  unfold xTl
  omega
theorem Sm_sp (h : qSm a b) (m : b 87 8 ≠ 0) : qSm (aSp n a) (aSp n b) ∧ aSn n a = aSn n b := by
  have w := h.2 m
  have s := PP_sp n a b w.1
  have sb := sp_all n b w.1.2.2.1
  refine ⟨⟨s.1.1, fun _ => ⟨s.1, fun x hx => (Of_al sb.2.1).mpr (Mk_al w.2.1 ((sb.2.2.1 x).mp (zM_in hx))), fun w7 => ?_⟩⟩, s.2⟩
  rw [Sp_87] at w7
  exact JJ_sp n a b (w.2.2 w7) (Tl_of w.1.2.1)
theorem Sm_nw (h : qSm a b) (m : b 87 8 ≠ 0) (hI : qI b) : qSm (aNw a) (aNw b) := by
  unfold aNw
  rw [h.1 87 7 (by decide) (by decide) (by decide)]
  split
  · rename_i w7
    have w := h.2 m
    have r := JJ_rf (16 - (0 : Int32).toInt).toNat 0 a b (w.2.2 w7) (Tl_of w.1.2.1)
    have g := gr_ro w.1.2.2.1 hI.2.2.2.1.1.2 hI.2.2.2.1.2.1.2
    exact Sm_J r.1 g.1 (NA_gr w.2.1 g)
  · exact h
theorem Sm_fi (h : qSm a b) (m : b 87 8 ≠ 0) (he : ¬ (b 75 3).toInt < (b 75 4).toInt) : qSm (aFi a) (aFi b) := Sm_0 (Fi_of (h.2 m).1 (fun w => he ((PP_em (h.2 m).1).mp w))) Fi_87
theorem Sm_lk (h : qSm a b) (m : b 87 8 ≠ 0) (hI : qI b) : qSm (aLk a) (aLk b) := by
  have p := (h.2 m).1
  unfold aLk
  by_cases e : (b 75 3).toInt < (b 75 4).toInt
  · rw [if_pos e, if_pos ((PP_em p).mpr e)]
    exact h
  · rw [if_neg e, if_neg (fun w => e ((PP_em p).mp w))]
    have h2 := Sm_nw h m hI
    have m2 : aNw b 87 8 ≠ 0 := by
      rw [Nw_87]
      exact m
    have p2 := (h2.2 m2).1
    by_cases e2 : (aNw b 75 3).toInt < (aNw b 75 4).toInt
    · rw [if_pos e2, if_pos ((PP_em p2).mpr e2)]
      exact h2
    · rw [if_neg e2, if_neg (fun w => e2 ((PP_em p2).mp w))]
      exact Sm_fi h2 m2 e2
/-- what the reference's heap keeps -/
def qK (b : Nat → Nat → Int32) : Prop := qI b ∧ (b 87 8 ≠ 0 → zWQ b)
theorem K_lk (hI : qI b) (hw : zWQ b) : qK (aLk b) := by
  unfold aLk
  by_cases e : (b 75 3).toInt < (b 75 4).toInt
  · rw [if_pos e]
    exact ⟨hI, fun _ => hw⟩
  · rw [if_neg e]
    have w := nw_wq hw hI.2.2.2.1.1.2 hI.2.2.2.1.2.1.2
    have I2 := qI_of hI w.2.1
    by_cases e2 : (aNw b 75 3).toInt < (aNw b 75 4).toInt
    · rw [if_pos e2]
      exact ⟨I2, fun _ => w.1⟩
    · rw [if_neg e2]
      exact ⟨I_fi I2 ⟨w.1, e2⟩, fun m => absurd Fi_87 m⟩
theorem Sm_go (h : qSm a b) (hK : qK b) : qSm (aGo a n) (aGo b n) ∧ aGv a n = aGv b n ∧ qK (aGo b n) := by
  unfold aGo aGv
  rw [h.1 87 8 (by decide) (by decide) (by decide)]
  by_cases m : b 87 8 = 0
  · rw [if_pos m, if_pos m, if_pos m, if_pos m]
    exact ⟨h, rfl, hK⟩
  · rw [if_neg m, if_neg m, if_neg m, if_neg m]
    have s := Sm_sp (n := n) h m
    have sb := sp_all n b (hK.2 m)
    have I2 := qI_of hK.1 sb.2.1
    refine ⟨Sm_lk s.1 (by rw [Sp_87]; exact m) I2, by rw [s.2], K_lk I2 sb.1⟩
/-- it begins -/
theorem K_b0 (hI : qI b) : qI (aB0 b) ∧ zWQ (aB0 b) ∧ zNA (aB0 b) := by
  have hI2 := I_87 (x := 1) hI
  have w := WQ_wh (a := ma_u b 87 8 1) (fun x hx => (hI2.1 x hx).1.2)
  have o := w.2.1
  have g := gr_ro w.1 (by rw [← o 69 6 (by decide) (by decide) (by decide)]; exact hI2.2.2.2.1.1.2) (by rw [← o 69 5 (by decide) (by decide) (by decide)]; exact hI2.2.2.2.1.2.1.2)
  exact ⟨qI_of (qI_of hI2 o) g.2.1, g.1, NA_gr (fun x hx => absurd hx (w.2.2 x)) g⟩
theorem Sm_b0 (h : zOf a b) (hI : qI b) : qSm (aB0 a) (aB0 b) := by
  have k := K_b0 hI
  have w := JJ_wh (of_u (n := 87) (k := 8) (x := 1) h)
  have r := JJ_rf (16 - (0 : Int32).toInt).toNat 0 _ _ w.1 w.2
  exact Sm_J r.1 k.2.1 k.2.2
theorem Sm_bg (h : qSm a b) (hK : qK b) : qSm (aBg a) (aBg b) ∧ qI (aBg b) ∧ zWQ (aBg b) ∧ aBg b 87 8 ≠ 0 := by
  unfold aBg
  rw [h.1 87 8 (by decide) (by decide) (by decide)]
  by_cases m : b 87 8 = 0
  · rw [if_pos m, if_pos m]
    have k := K_b0 hK.1
    exact ⟨Sm_b0 h.1 hK.1, k.1, k.2.1, by rw [B0_87]; decide⟩
  · rw [if_neg m, if_neg m]
    exact ⟨h, hK.1, hK.2 m, m⟩
/-- to the end -/
theorem K_c2 : ∀ (k : Nat) (a : Nat → Nat → Int32), qE0 a → qI a → (512 - (a 75 3).toInt).toNat ≤ k → qI (aC2 k a) ∧ qE0 (aC2 k a) := by
  intro k
  induction k with
  | zero => intro a h h2 _; exact ⟨h2, h⟩
  | succ k ih =>
    intro a hE hI hk
    have w := nw_wq hE.1 hI.2.2.2.1.1.2 hI.2.2.2.1.2.1.2
    by_cases hn : (aNw a 75 3).toInt < (aNw a 75 4).toInt
    · rw [aC2_y hn]
      have e := E0_sp w.1
      have hd := (sp_hd 512 _ w.1).2 hn (by decide)
      rw [w.2.2] at hd
      exact ih _ e.1 (qI_of (qI_of hI w.2.1) e.2) (by omega)
    · rw [aC2_n hn]
      exact ⟨qI_of hI w.2.1, w.1, hn⟩
theorem Sm_c2 : ∀ (k : Nat) (a b : Nat → Nat → Int32), qSm a b → b 87 8 ≠ 0 → qI b → qSm (aC2 k a) (aC2 k b) ∧ aC2 k b 87 8 ≠ 0 := by
  intro k
  induction k with
  | zero => intro a b h m _; exact ⟨h, m⟩
  | succ k ih =>
    intro a b h m hI
    have h2 := Sm_nw h m hI
    have m2 : aNw b 87 8 ≠ 0 := by
      rw [Nw_87]
      exact m
    have p2 := (h2.2 m2).1
    have w := nw_wq (h.2 m).1.2.2.1 hI.2.2.2.1.1.2 hI.2.2.2.1.2.1.2
    by_cases e2 : (aNw b 75 3).toInt < (aNw b 75 4).toInt
    · rw [aC2_y e2, aC2_y ((PP_em p2).mpr e2)]
      exact ih _ _ (Sm_sp h2 m2).1 (by rw [Sp_87]; exact m2) (qI_of (qI_of hI w.2.1) (sp_all 512 _ w.1).2.1)
    · rw [aC2_n e2, aC2_n (fun q => e2 ((PP_em p2).mp q))]
      exact ⟨h2, m2⟩
theorem Sm_cl (h : qSm a b) (hK : qK b) : qSm (aCl a) (aCl b) ∧ qK (aCl b) := by
  have g := Sm_bg h hK
  have s := (Sm_sp (n := 512) g.1 g.2.2.2).1
  have e := E0_sp g.2.2.1
  have I2 := qI_of g.2.1 e.2
  have m2 : aSp 512 (aBg b) 87 8 ≠ 0 := by
    rw [Sp_87]
    exact g.2.2.2
  have k2 := K_c2 512 _ e.1 I2 (by have := e.1.1.1.1; omega)
  have c2 := Sm_c2 512 _ _ s m2 I2
  exact ⟨Sm_fi c2.1 c2.2 k2.2.2, I_fi k2.1 k2.2, fun m => absurd Cl_8 m⟩
/-- free blocks -/
theorem Ob_of (h : zOf a b) : zOb a = zOb b := by
  funext p
  unfold zOb
  rw [h 71 _ (by decide) (by decide) (by decide), h 126 _ (by decide) (by decide) (by decide)]
theorem N_of (h : zOf a b) : aN a = aN b := by
  have e0 := h 87 0 (by decide) (by decide) (by decide)
  have f : ∀ (f : Nat) (p : Int), aNf a f p = aNf b f p := by
    intro f
    induction f with
    | zero =>
      intro p
      unfold aNf
      rw [e0]
    | succ f ih =>
      intro p
      unfold aNf
      rw [e0, Ob_of h, h 128 _ (by decide) (by decide) (by decide), ih]
  funext p
  unfold aN
  rw [e0, f]
theorem E_of (h : zOf a b) : aE a = aE b := by
  have e0 := h 87 0 (by decide) (by decide) (by decide)
  have f : ∀ (f : Nat) (p : Int), aEf a f p = aEf b f p := by
    intro f
    induction f with
    | zero =>
      intro p
      rfl
    | succ f ih =>
      intro p
      unfold aEf
      rw [e0, Ob_of h, ih]
  funext p
  unfold aE
  rw [e0, f]
theorem Ff_of (h : zOf a b) : ∀ (f : Nat) (q p z : Int), aFf a z q f p = aFf b z q f p := by
  intro f
  induction f with
  | zero =>
    intro q p z
    rfl
  | succ f ih =>
    intro q p z
    unfold aFf
    rw [E_of h, N_of h, ih]
theorem Fl_of (h : zOf a b) : ∀ (f : Nat) (p q l z : Int) (s : Int32), aFl a z s f p q l = aFl b z s f p q l := by
  intro f
  induction f with
  | zero =>
    intro p q l z s
    rfl
  | succ f ih =>
    intro p q l z s
    unfold aFl
    rw [h 87 0 (by decide) (by decide) (by decide), E_of h, N_of h, ih, ih]
theorem Ft_of (h : zOf a b) : aFt a p = aFt b p := by
  unfold aFt aFx
  rw [h 87 0 (by decide) (by decide) (by decide), h 87 1 (by decide) (by decide) (by decide), h 87 2 (by decide) (by decide) (by decide), N_of h, Ff_of h, Ff_of h, Ff_of h, Fl_of h, Fl_of h]
/-- room -/
theorem Sm_f1 (h : qSm a b) (hK : qK b) : qSm (aF1 a) (aF1 b) ∧ qK (aF1 b) := by
  have e : qSm (aF0 a) (aF0 b) ∧ qK (aF0 b) := by
    unfold aF0
    rw [h.1 87 8 (by decide) (by decide) (by decide), h.1 87 0 (by decide) (by decide) (by decide), h.1 69 8 (by decide) (by decide) (by decide)]
    split
    · have k := K_b0 hK.1
      exact ⟨Sm_b0 h.1 hK.1, k.1, fun _ => k.2.1⟩
    · exact ⟨h, hK⟩
  unfold aF1
  rw [h.1 87 6 (by decide) (by decide) (by decide)]
  have g := Sm_go (n := (b 87 6).toInt.toNat) e.1 e.2
  exact ⟨g.1, g.2.2⟩
theorem Sm_rs (h : qSm a b) (hK : qK b) : qSm (aRs a p) (aRs b p) ∧ qK (aRs b p) ∧ aRp a p = aRp b p := by
  have f := Sm_f1 h hK
  have g := Sm_cl f.1 f.2
  have g2 := Sm_cl g.1 g.2
  have w : qSm (aRs a p) (aRs b p) ∧ qK (aRs b p) := by
    unfold aRs
    rw [Ft_of f.1.1, Ft_of g.1.1, f.1.1 87 8 (by decide) (by decide) (by decide)]
    split
    · split
      · exact g2
      · exact g
    · exact f
  refine ⟨w.1, w.2, ?_⟩
  unfold aRp
  exact Ft_of w.1.1
end SM1

/-! from 95.j02 -/
/-! A NEW ONE: alike in both -/
section SM2
variable {a b c a₉ b₉ d : Nat → Nat → Int32} {x y z i w pl kk rt : Int32} {n k u v : Nat} {p q : Int} {L : Int64} {F : Nat → Int32}
theorem w6gf : ∀ (f : Nat) (x : Int32) (a : Nat → Nat → Int32), aGf f x a 69 6 = a 69 6 := by
  intro f
  induction f with
  | zero => intro x a; rfl
  | succ f ih =>
    intro x a
    by_cases w : aGc a x
    · rw [aGf_y w, ih, aSp_o ⟨by decide, by decide, by decide⟩, aCm_o ⟨by decide, by decide, by decide⟩, aGr_o ⟨by decide, by decide, by decide, by decide⟩]
    · rw [aGf_n w, ih]
theorem w6mf : ∀ (f : Nat) (x : Int32) (a : Nat → Nat → Int32), aMf f x a 69 6 = a 69 6 := by
  intro f
  induction f with
  | zero => intro x a; rfl
  | succ f ih =>
    intro x a
    by_cases w : aMc a x
    · rw [aMf_y w, ih, aRm_o (by decide) ⟨by decide, by decide, by decide, by decide⟩]
    · rw [aMf_n w, ih]
theorem w6fi : aFi a 69 6 = a 69 6 := by
  unfold aFi aMv
  rw [w6mf]
  unfold aGw
  rw [w6gf, xu_o (by omega)]
theorem w6nw : aNw a 69 6 = a 69 6 := by
  unfold aNw
  split
  · exact aRo_o ⟨by decide, by decide, by decide⟩
  · rfl
theorem w6sp : aSp n a 69 6 = a 69 6 := aSp_o ⟨by decide, by decide, by decide⟩ _ _
theorem w6go : aGo a n 69 6 = a 69 6 := by
  unfold aGo aLk
  split
  · rfl
  · split
    · exact w6sp
    · split
      · rw [w6nw, w6sp]
      · rw [w6fi, w6nw, w6sp]
theorem w6b0 : aB0 a 69 6 = a 69 6 := by
  rw [← B0_of 69 6 (by decide) (by decide) (by decide), xu_o (by omega)]
theorem w6c2 : ∀ (k : Nat) (a : Nat → Nat → Int32), aC2 k a 69 6 = a 69 6 := by
  intro k
  induction k with
  | zero => intro a; rfl
  | succ k ih =>
    intro a
    by_cases h : (aNw a 75 3).toInt < (aNw a 75 4).toInt
    · rw [aC2_y h, ih, w6sp, w6nw]
    · rw [aC2_n h, w6nw]
theorem w6cl : aCl a 69 6 = a 69 6 := by
  unfold aCl aC1
  rw [w6fi, w6c2, w6sp]
  unfold aBg
  split
  · exact w6b0
  · rfl
theorem w6f1 : aF1 a 69 6 = a 69 6 := by
  unfold aF1
  rw [w6go]
  unfold aF0
  split
  · exact w6b0
  · rfl
theorem w6rs : aRs a p 69 6 = a 69 6 := by
  unfold aRs
  split
  · split
    · rw [w6cl, w6cl, w6f1]
    · rw [w6cl, w6f1]
  · exact w6f1
theorem Ad_zo (h : zOf a b) : zOf (aMd (aAd a y F L) y) (aMd (aAd b y F L) y) := by
  have n0 : ∀ m : Nat, zOf (zNw a m F L) (zNw b m F L) := fun m c₉ k₉ q1 q2 q3 => by
    unfold zNw
    rw [h c₉ k₉ q1 q2 q3]
  have n1 : ∀ (d e : Nat → Nat → Int32) (p j : Int), zOf d e → zOf (zIw d p L j) (zIw e p L j) := fun d e p j o c₉ k₉ q1 q2 q3 => by
    unfold zIw
    rw [o c₉ k₉ q1 q2 q3]
  have A : zOf (aAd a y F L) (aAd b y F L) := by
    unfold aAd
    rw [h 69 6 (by decide) (by decide) (by decide), h 69 8 (by decide) (by decide) (by decide)]
    exact of_u (of_u (n1 _ _ _ _ (of_u (n0 _))))
  generalize aAd a y F L = A1 at *
  generalize aAd b y F L = B1 at *
  unfold aMd
  rw [A 87 8 (by decide) (by decide) (by decide), A 130 _ (by decide) (by decide) (by decide), A 128 _ (by decide) (by decide) (by decide)]
  split
  · exact of_u A
  · exact of_u (of_u A)
theorem Ne_zo (h : zOf a b) (hN : qNe b y w pl) : qNe a y w pl := by
  obtain ⟨h1, h2, h3, h4, h5⟩ := hN
  refine ⟨qI_of h1 (Of_sy h), ?_, h3, h4, ?_⟩
  · rw [h 69 6 (by decide) (by decide) (by decide)]
    exact h2
  · unfold qFs at h5 ⊢
    refine ⟨h5.1, ?_, fun n hn => ?_⟩
    · rw [h 87 0 (by decide) (by decide) (by decide)]
      exact h5.2.1
    · rw [h 130 _ (by decide) (by decide) (by decide), h 128 _ (by decide) (by decide) (by decide)]
      exact h5.2.2 n ((Of_al h).mpr hn)
theorem Mk_ad (h : qNe b y w pl) (hA : qAd b d y kk w pl L) (h7 : qA7 b d y) (hm : b 87 8 ≠ 0) : zMk d v ↔ zMk b v ∨ v = y.toNatClampNeg := by
  have q := Ne_b h
  have Id := I_ad h hA
  have d2 := h7.2.2.1 hm
  have nn : ∀ g, g ≠ y.toNatClampNeg → (zNn d g ↔ zNn b g) ∧ (zDn d g ↔ zDn b g) := fun g hg => by
    unfold zNn zDn
    rw [h7.2.2.2 g hg]
    exact ⟨Iff.rfl, Iff.rfl⟩
  have dy : zDn d y.toNatClampNeg := ⟨q.2.1, d2⟩
  constructor
  · intro hz
    refine hz (fun v => zMk b v ∨ v = y.toNatClampNeg) (fun g hg => ?_) (fun u t hu hd he => ?_)
    · by_cases e : g = y.toNatClampNeg
      · exact Or.inr e
      · exact Or.inl (zM_in ((nn g e).1.mp hg))
    · by_cases e : u = y.toNatClampNeg
      · exact absurd (by rw [e]; exact dy) hd
      · by_cases e2 : t = y.toNatClampNeg
        · exact Or.inr e2
        · refine Or.inl (zM_cl (hu.elim id (fun z => absurd z e)) (fun z => hd ((nn u e).2.mpr z)) ?_)
          obtain ⟨w1, j, w2, w3⟩ := (Ed_wp Id.2.2.2.2.2).mp he
          have au : xAl b u := ((Al_ad h hA).mp w2.1).elim id (fun z => absurd z e)
          have w4 := w2.2
          rw [hA.2.1 128 u (by decide) (by decide) e] at w4
          have W : qWp b u j := ⟨au, w4.1, w4.2⟩
          rw [rf_ad h hA W] at w3
          exact (Ed_wp h.1.2.2.2.2.2).mpr ⟨((Al_ad h hA).mp w1).elim id (fun z => absurd z e2), j, W, w3⟩
  · rintro (hz | hz)
    · refine hz _ (fun g hg => ?_) (fun u t hu hd he => ?_)
      · by_cases e : g = y.toNatClampNeg
        · rw [e]
          exact zM_in (Dn_Nn dy)
        · exact zM_in ((nn g e).1.mpr hg)
      · obtain ⟨w1, j, w2, w3⟩ := (Ed_wp h.1.2.2.2.2.2).mp he
        have e := ne_al h w2.1
        refine zM_cl hu (fun z => hd ((nn u e).2.mp z)) ((Ed_wp Id.2.2.2.2.2).mpr ⟨(Al_ad h hA).mpr (Or.inl w1), j, ⟨(Al_ad h hA).mpr (Or.inl w2.1), w2.2.1, ?_⟩, ?_⟩)
        · rw [hA.2.1 128 u (by decide) (by decide) e]
          exact w2.2.2
        · rw [rf_ad h hA w2]
          exact w3
    · rw [hz]
      exact zM_in (Dn_Nn dy)
theorem Dn_ad (h : qNe b y w pl) (h7 : qA7 b d y) (hm : b 87 8 ≠ 0) : zDn d u ↔ zDn b u ∨ u = y.toNatClampNeg := by
  by_cases e : u = y.toNatClampNeg
  · refine ⟨fun _ => Or.inr e, fun _ => ?_⟩
    rw [e]
    exact ⟨(Ne_b h).2.1, h7.2.2.1 hm⟩
  · unfold zDn
    rw [h7.2.2.2 u e]
    exact ⟨Or.inl, fun z => z.elim id (fun z2 => absurd z2 e)⟩
theorem Sm_ad (h : qSm a b) (hN : qNe b y w pl) : qSm (aMd (aAd a y (zFn y kk (w + 1) pl) L) y) (aMd (aAd b y (zFn y kk (w + 1) pl) L) y) := by
  have q := Ne_b hN
  have wb := hN.2.2.2.1
  have o := Ad_zo (y := y) (F := zFn y kk (w + 1) pl) (L := L) h.1
  have hNa := Ne_zo h.1 hN
  have Aa := Ad_of (b := a) (kk := kk) (L := L) q.1 wb.1 wb.2 q.2.2.2.1 (by have := q.2.2.2.2.1; omega)
  have Ab := Ad_of (b := b) (kk := kk) (L := L) q.1 wb.1 wb.2 q.2.2.2.1 (by have := q.2.2.2.2.1; omega)
  have s7 : qA7 a (aMd (aAd a y (zFn y kk (w + 1) pl) L) y) y := A7_of
  have t7 : qA7 b (aMd (aAd b y (zFn y kk (w + 1) pl) L) y) y := A7_of
  generalize aMd (aAd a y (zFn y kk (w + 1) pl) L) y = A at *
  generalize aMd (aAd b y (zFn y kk (w + 1) pl) L) y = B at *
  refine ⟨o, fun m => ?_⟩
  have f7 : ∀ k, k ≠ 2 → B 87 k = b 87 k := Ab.2.2.2.2.2.2.1
  rw [f7 8 (by decide)] at m
  rw [f7 7 (by decide)]
  have ma : a 87 8 ≠ 0 := by
    rw [h.1 87 8 (by decide) (by decide) (by decide)]
    exact m
  have g := h.2 m
  have nb : ¬ xAl b y.toNatClampNeg := Ne_al hN
  have db : ¬ zDn b y.toNatClampNeg := fun z => nb (g.2.1 _ (Dn_Nn z))
  have da : ¬ zDn a y.toNatClampNeg := fun z => nb (Mk_al g.2.1 ((g.1.2.2.2.2.1 _).mp (zM_in (Dn_Nn z))))
  have WB := WQ_ad hN Ab t7 m g.1.2.2.1
  refine ⟨⟨o, WQ_ad hNa Aa s7 ma g.1.2.1, WB, ?_, fun x => ?_, ?_⟩, fun x hx => ?_, fun w7 => ?_⟩
  · rw [s7.1, t7.1]
    exact g.1.2.2.2.1
  · rw [Mk_ad hNa Aa s7 ma, Mk_ad hN Ab t7 m, g.1.2.2.2.2.1 x]
  · rw [cD_up q.2.1 da (fun u => Dn_ad hNa s7 ma), cD_up q.2.1 db (fun u => Dn_ad hN t7 m), g.1.2.2.2.2.2]
  · refine (Al_ad hN Ab).mpr ?_
    by_cases e : x = y.toNatClampNeg
    · exact Or.inr e
    · unfold zNn at hx
      rw [t7.2.2.2 x e] at hx
      exact Or.inl (g.2.1 x hx)
  · have J := g.2.2 w7
    refine ⟨o, ?_⟩
    rw [s7.1, s7.2.1, t7.1, t7.2.1]
    refine ⟨J.2.1, fun k hk => ?_, J.2.2.2⟩
    by_cases e : k = y.toNatClampNeg
    · rw [e, s7.2.2.1 ma, t7.2.2.1 m]
    · rw [s7.2.2.2 k e, t7.2.2.2 k e]
      exact J.2.2.1 k hk
theorem pl_of {v z r : Int} (h0 : 0 ≤ v) (h1 : v + z ≤ r) (hr : r ≤ 4500) (hz : 1 ≤ z) : (Int32.ofInt v).toInt = v := Int32.toInt_ofInt_of_le (by omega) (by omega)
theorem Sm_mk (h : qSm a b) (hK : qK b) (h0 : 0 ≤ w.toInt) (h6 : w.toInt ≤ 60) : qSm (aMk a kk w L rt) (aMk b kk w L rt) := by
  have hz : 1 ≤ (w + 1).toInt := by
    rw [i_p1 (i := w) (by omega)]
    omega
  have rs := Sm_rs (p := (w + 1).toInt) h hK
  unfold aMk
  rw [h.1 69 6 (by decide) (by decide) (by decide), rs.2.2]
  split
  · rename_i w6
    split
    · exact rs.1
    · rename_i w1
      rw [rs.1.1 69 6 (by decide) (by decide) (by decide)]
      have f := Ft_fs rs.2.1.1 (z := (w + 1).toInt) hz w1
      have ep : (Int32.ofInt (aRp b (w + 1).toInt)).toInt = aRp b (w + 1).toInt := pl_of f.1 f.2.1 rs.2.1.1.2.2.2.1.2.2.1.2 hz
      refine Sm_rt (Sm_ad rs.1 (Ne_of rs.2.1.1 ep ?_ h0 h6 rfl ?_))
      · rw [ep]
        exact f.1
      · rw [w6rs]
        exact w6
  · exact h
end SM2

/-! from 95.j03 -/
/-! EVERY CALL: alike in both -/
section SM3
variable {a b c a₉ b₉ d : Nat → Nat → Int32} {x y z i r o t : Int32} {n k u v : Nat} {p q : Int}
theorem Hw_of (h : zOf a b) : zHw a o i ↔ zHw b o i := by
  unfold zHw
  rw [h 128 _ (by decide) (by decide) (by decide)]
theorem Ir_of (h : zOf a b) : zIr a o i ↔ zIr b o i := by
  unfold zIr
  rw [h (1000 + o.toNatClampNeg) _ (by omega) (by omega) (by omega)]
theorem Rq_wp (h : zRq b o) (hw : zHw b o i) : qWp b o.toNatClampNeg i := by
  have c := tn_cast h.1
  exact ⟨⟨by have := h.2.1; omega, h.2.2.1⟩, hw.1, hw.2⟩
theorem Wp_of (h : zOf a b) : qWp a n i ↔ qWp b n i := by
  unfold qWp
  rw [Of_al h, h 128 _ (by decide) (by decide) (by decide)]
theorem Sm_if {P Q : Prop} (e : P ↔ Q) (h1 : Q → qSm a₉ b₉) (h2 : qSm a b) : qSm (qIf P a₉ a) (qIf Q b₉ b) := by
  by_cases w : Q
  · rw [qIf_y w, qIf_y (e.mpr w)]
    exact h1 w
  · rw [qIf_n w, qIf_n (fun q => w (e.mp q))]
    exact h2
theorem Sm_pu (h : qSm a b) (hI : qI b) : qSm (xPu a o i x) (xPu b o i x) := by
  refine Sm_if ?_ (fun w => ?_) h
  · rw [Of_Rq h.1, Hw_of h.1, Ir_of h.1]
  · have W := Rq_wp w.1 w.2.1
    have Wa := (Wp_of h.1).mpr W
    have Ia := qI_of hI (Of_sy h.1)
    have r0 : b (1000 + o.toNatClampNeg) i.toNatClampNeg = 0 := Decidable.byContradiction (fun q => w.2.2 q)
    have r1 : a (1000 + o.toNatClampNeg) i.toNatClampNeg = 0 := by
      rw [h.1 (1000 + o.toNatClampNeg) _ (by omega) (by omega) (by omega)]
      exact r0
    have ga := Ed_pu (x := x) Ia Wa r1
    have gb := Ed_pu (x := x) hI W r0
    rw [Ci_eq hI W, Ci_eq Ia Wa]
    rw [h.1 130 _ (by decide) (by decide) (by decide)] at ga ⊢
    exact Sm_g h (of_u h.1) (un (by decide)) (un (by decide)) (un (by decide)) (un (by decide)) (un (by decide)) (un (by decide)) (un (by decide)) (un (by decide)) (un (by decide)) (un (by decide)) ga gb (un (by decide))
theorem JJ_nc (h : zJJ a b) : zJJ (aNc a y z) (aNc b y z) := by
  unfold aNc
  rw [h.1 87 8 (by decide) (by decide) (by decide), h.1 87 7 (by decide) (by decide) (by decide), Nm_of h.1, Nm_of (y := z) h.1]
  split
  · exact JJ_cm h
  · exact h
theorem NC_wn (hw : zWQ a) (hn : zNA a) : zWQ (aNc a y z) ∧ zNA (aNc a y z) := by
  unfold aNc
  split
  · exact ⟨WQ_cm hw, NA_gr hn (gr_cm hw)⟩
  · exact ⟨hw, hn⟩
theorem u_id (h : a n k = x) : ma_u a n k x = a := by
  funext c₉ k₉
  by_cases w : c₉ = n ∧ k₉ = k
  · rw [w.1, w.2, xu_s, h]
  · rw [xu_o w]
theorem MI_pp (h : zPP a b) (h7 : b 87 7 ≠ 1) (hM : qMI b) : qMI a := by
  have e7 := h.1 87 7 (by decide) (by decide) (by decide)
  have m := h.2.2.2.2.1
  have q := hM.2 h7
  refine ⟨fun w => absurd (by rw [← e7]; exact w) h7, fun _ => ⟨fun u hu => (m u).mpr (q.1 u ((Rt_of h.1).mpr hu)), fun u y hu he => (m y).mpr (q.2 u y ((m u).mp hu) ((Of_ed h.1).mpr he))⟩⟩
theorem Sm_ln (h : qSm a b) (hI : qI b) (hM : b 87 8 ≠ 0 → qMI b) (h70 : b 87 7 = 0 ∨ b 87 7 = 1) (W : qWp b n i) (hr : b (1000 + n) i.toNatClampNeg ≠ 0) (hd : aNm b (aRef b n i) = aRef b n i) (hy : y = -1 ∨ zRq b y) : qSm (aLn a n i y) (aLn b n i y) := by
  have Wa := (Wp_of h.1).mpr W
  have Ia := qI_of hI (Of_sy h.1)
  have ny : aNm b y = y := by
    unfold aNm
    rcases hy with w | w
    · rw [w, if_neg (fun q => absurd q.1 (by decide))]
    · rw [if_pos ⟨w.1, w.2.1, w.2.2.1⟩]
  have ra : aRef a n i = aRef b n i := Of_ref h.1
  unfold aLn
  rw [Nm_of h.1, ny, ra, Ci_eq hI W, Ci_eq Ia Wa, h.1 130 _ (by decide) (by decide) (by decide)]
  have wr := wp_rf hI W
  rw [if_pos hr] at wr
  have fr : aRef a n i = a 71 (b 130 n + 1 + i).toNatClampNeg := by
    rw [ra, wr, h.1 71 _ (by decide) (by decide) (by decide)]
  by_cases s : aRef b n i = y
  · rw [u_id (by rw [← fr, ra]; exact s), u_id (by rw [← wr]; exact s), s, NC_s, NC_s]
    exact h
  · have ob : zOf (ma_u a 71 (b 130 n + 1 + i).toNatClampNeg y) (ma_u b 71 (b 130 n + 1 + i).toNatClampNeg y) := of_u h.1
    have e8 : ∀ (d : Nat → Nat → Int32) (j l : Nat) (v : Int32), ma_u d 71 j v 87 l = d 87 l := fun d j l v => xu_o (by omega)
    by_cases m : b 87 8 = 0
    · rw [NC_0 (by rw [e8, h.1 87 8 (by decide) (by decide) (by decide)]; exact m), NC_0 (by rw [e8]; exact m)]
      exact Sm_0 ob (by rw [e8]; exact m)
    · have g := h.2 m
      have hw2 : zWQ (ma_u b 71 (b 130 n + 1 + i).toNatClampNeg y) := WQ_u g.1.2.2.1 (by decide)
      have hn2 : zNA (ma_u b 71 (b 130 n + 1 + i).toNatClampNeg y) := NA_g g.2.1 (un (by decide)) (un (by decide))
      by_cases h7 : b 87 7 = 1
      · have J : zJJ (ma_u a 71 (b 130 n + 1 + i).toNatClampNeg y) (ma_u b 71 (b 130 n + 1 + i).toNatClampNeg y) := JJ_g (g.2.2 h7) ob (un (by decide)) (un (by decide)) (un (by decide)) (un (by decide)) (un (by decide)) (un (by decide))
        have w := NC_wn (y := aRef b n i) (z := y) hw2 hn2
        exact Sm_J (JJ_nc J) w.1 w.2
      · have h0 : b 87 7 = 0 := h70.elim id (fun w => absurd w h7)
        have n71 : ∀ (d : Nat → Nat → Int32) (j : Nat) (v e : Int32), aNm (ma_u d 71 j v) e = aNm d e := fun d j v e => by
          unfold aNm
          rw [un (n := 126) (by decide)]
        rw [aNc_y (a := ma_u b 71 (b 130 n + 1 + i).toNatClampNeg y) (by rw [e8]; exact m) (by rw [n71, n71, hd, ny]; exact s), aNc_y (a := ma_u a 71 (b 130 n + 1 + i).toNatClampNeg y) (by rw [e8, h.1 87 8 (by decide) (by decide) (by decide)]; exact m) (by rw [n71, n71, Nm_of h.1, Nm_of (y := y) h.1, hd, ny]; exact s), e8, e8, h.1 87 7 (by decide) (by decide) (by decide), if_pos h0]
        have Mb := hM m
        have Ma := MI_pp g.1 h7 Mb
        have xb : y.toInt < 0 ∨ zMk b y.toNatClampNeg := by
          rcases hy with w | w
          · exact Or.inl (by rw [w]; decide)
          · have q := Mb.2 h7
            exact Or.inr (zM_rch q.1 q.2 ((Rq_ch hI).mp w).2.2.2)
        have xa : y.toInt < 0 ∨ zMk a y.toNatClampNeg := xb.imp id (fun w => (g.1.2.2.2.2.1 _).mpr w)
        have a7 : a 87 7 ≠ 1 := by
          rw [h.1 87 7 (by decide) (by decide) (by decide)]
          exact h7
        have ar : a (1000 + n) i.toNatClampNeg ≠ 0 := by
          rw [h.1 (1000 + n) _ (by omega) (by omega) (by omega)]
          exact hr
        have La := Mk_li (x := y) Ia g.1.2.1 Ma a7 Wa ar xa
        have Lb := Mk_li (x := y) hI g.1.2.2.1 Mb h7 W hr xb
        rw [ra, h.1 130 _ (by decide) (by decide) (by decide)] at La
        have P := PP_cm (y := aRef b n i) g.1
        have wa : zWQ (ma_u a 71 (b 130 n + 1 + i).toNatClampNeg y) := WQ_u g.1.2.1 (by decide)
        refine ⟨of_cm ob, fun _ => ⟨⟨of_cm ob, WQ_cm wa, WQ_cm hw2, ?_, fun x => ?_, ?_⟩, NA_gr hn2 (gr_cm hw2), fun w7 => ?_⟩⟩
        · rw [cm_3, cm_3, un (n := 75) (by decide), un (n := 75) (by decide)]
          exact g.1.2.2.2.1
        · rw [La x, Lb x]
          exact P.2.2.2.2.1 x
        · rw [cD_cg (fun u => Dn_cm (a := ma_u a 71 (b 130 n + 1 + i).toNatClampNeg y) (y := aRef b n i) (u := u)), cD_cg (fun u => Dn_cm (a := ma_u b 71 (b 130 n + 1 + i).toNatClampNeg y) (y := aRef b n i) (u := u))]
          unfold cD
          rw [un (n := 77) (by decide), un (n := 77) (by decide)]
          exact g.1.2.2.2.2.2
        · rw [aCm_o (c := 87) ⟨by decide, by decide, by decide⟩, e8] at w7
          exact absurd w7 h7
theorem Sm_li (h : qSm a b) (hI : qI b) (hM : b 87 8 ≠ 0 → qMI b) (h70 : b 87 7 = 0 ∨ b 87 7 = 1) (hd : ∀ n i, qWp b n i → aNm b (aRef b n i) = aRef b n i) : qSm (xLi a o i t) (xLi b o i t) := by
  refine Sm_if ?_ (fun w => ?_) h
  · rw [Of_Rq h.1, Of_Rq (n := t) h.1, Hw_of h.1, Ir_of h.1]
  · have W := Rq_wp w.1 w.2.2.1
    exact Sm_ln h hI hM h70 W w.2.2.2 (hd _ _ W) w.2.1
theorem Sm_ro (h : qSm a b) : qSm (xRo a i o) (xRo b i o) := Sm_if (by rw [Of_Rq h.1]) (fun _ => Sm_rt h) h
theorem Sm_we (h : qSm a b) : qSm (xWe a i o) (xWe b i o) := Sm_if (by rw [Of_Rq h.1]) (fun _ => by
  rw [Nm_of h.1]
  exact Sm_u h (by decide)) h
theorem Sm_ho (h : qSm a b) : qSm (xHo a o x) (xHo b o x) := Sm_if (by rw [Of_Rq h.1, h.1 133 _ (by decide) (by decide) (by decide)]) (fun _ => by
  rw [h.1 133 _ (by decide) (by decide) (by decide)]
  exact Sm_u h (by decide)) h
theorem Sm_wi (h : qSm a b) : qSm (xWi a o) (xWi b o) := Sm_if (by rw [Of_Rq h.1]) (fun _ => Sm_u h (by decide)) h
theorem Sm_gr (h : qSm a b) : qSm (xGr a r) (xGr b r) := by
  have w := Tw_of h.1
  refine Sm_if Iff.rfl (fun _ => ?_) h
  rw [w.2, Nm_of h.1]
  by_cases e : aNm b (aTy b) = -1
  · rw [qIf_y e, qIf_y e]
    exact Sm_tw h
  · rw [qIf_n e, qIf_n e]
    exact Sm_rt (Sm_tw h)
theorem Sm_xg (h : qSm a b) : qSm (xSg a i r) (ySg b i r) := by
  have e := h.1 73 i.toNatClampNeg (by decide) (by decide) (by decide)
  unfold xSg ySg
  rw [e, Nm_of h.1]
  exact Sm_if Iff.rfl (fun w => Sm_sg h w.2.2) h
end SM3

/-! from 95.j04 -/
/-! WHAT A CALL OF THE CLASS MAKES OF THE HEAP, whether it answers or throws -/
section KX
variable {ab d : Nat → Nat → Int32} {o i x v w t rt n b ki kw kn : Int32} {e : Nat} {L : Int64}
theorem kpu_y (h : zRq ab o ∧ zHw ab o i ∧ ¬ zIr ab o i ∧ d = aCi ab o.toNatClampNeg i x ∧ v = w) : d = xPu ab o i x := h.2.2.2.1.trans (qIf_y ⟨h.1, h.2.1, h.2.2.1⟩).symm
theorem kpu_x (hd : d = ab) (h : (e = 4 ∧ ¬ zRq ab o) ∨ (e = 1 ∧ zRq ab o ∧ ¬ zHw ab o i) ∨ (e = 5 ∧ zRq ab o ∧ zHw ab o i ∧ zIr ab o i)) : d = xPu ab o i x := hd.trans (qIf_n (fun q => by
  rcases h with h | h | h
  · exact h.2 q.1
  · exact h.2.2 q.2.1
  · exact q.2.2 h.2.2.2)).symm
theorem kli_y (h : zRq ab o ∧ (t = -1 ∨ zRq ab t) ∧ zHw ab o i ∧ zIr ab o i ∧ d = aLn ab o.toNatClampNeg i t ∧ v = w) : d = xLi ab o i t := h.2.2.2.2.1.trans (qIf_y ⟨h.1, h.2.1, h.2.2.1, h.2.2.2.1⟩).symm
theorem kli_x (hd : d = ab) (h : (e = 4 ∧ (¬ zRq ab o ∨ (zRq ab o ∧ t ≠ -1 ∧ ¬ zRq ab t))) ∨ (e = 1 ∧ zRq ab o ∧ (t = -1 ∨ zRq ab t) ∧ ¬ zHw ab o i) ∨ (e = 5 ∧ zRq ab o ∧ (t = -1 ∨ zRq ab t) ∧ zHw ab o i ∧ ¬ zIr ab o i)) : d = xLi ab o i t := hd.trans (qIf_n (fun q => by
  rcases h with h | h | h
  · rcases h.2 with h2 | h2
    · exact h2 q.1
    · exact q.2.1.elim h2.2.1 h2.2.2
  · exact h.2.2.2 q.2.2.1
  · exact h.2.2.2.2 q.2.2.2)).symm
theorem kro_y (h : (0 ≤ i.toInt ∧ i.toInt ≤ 15) ∧ (o = -1 ∨ zRq ab o) ∧ d = aRt ab i o ∧ v = w) : d = xRo ab i o := h.2.2.1.trans (qIf_y ⟨h.1, h.2.1⟩).symm
theorem kwe_n (h : (e = 2 ∧ ¬ (0 ≤ i.toInt ∧ i.toInt ≤ 15)) ∨ ((0 ≤ i.toInt ∧ i.toInt ≤ 15) ∧ e = 4 ∧ o ≠ -1 ∧ ¬ zRq ab o)) : ¬ (zSl i ∧ (o = -1 ∨ zRq ab o)) := fun q => by
  rcases h with h | h
  · exact h.2 q.1
  · exact q.2.elim h.2.2.1 h.2.2.2
theorem kro_x (hd : d = ab) (h : (e = 2 ∧ ¬ (0 ≤ i.toInt ∧ i.toInt ≤ 15)) ∨ ((0 ≤ i.toInt ∧ i.toInt ≤ 15) ∧ e = 4 ∧ o ≠ -1 ∧ ¬ zRq ab o)) : d = xRo ab i o := hd.trans (qIf_n (kwe_n h)).symm
theorem kwe_y (h : (0 ≤ i.toInt ∧ i.toInt ≤ 15) ∧ (o = -1 ∨ zRq ab o) ∧ d = ma_u ab 73 i.toNatClampNeg (aNm ab o) ∧ v = w) : d = xWe ab i o := h.2.2.1.trans (qIf_y ⟨h.1, h.2.1⟩).symm
theorem kwe_x (hd : d = ab) (h : (e = 2 ∧ ¬ (0 ≤ i.toInt ∧ i.toInt ≤ 15)) ∨ ((0 ≤ i.toInt ∧ i.toInt ≤ 15) ∧ e = 4 ∧ o ≠ -1 ∧ ¬ zRq ab o)) : d = xWe ab i o := hd.trans (qIf_n (kwe_n h)).symm
theorem kho_y (h : zRq ab o ∧ (¬ b = 0 ∨ ¬ ab 133 o.toNatClampNeg = 0) ∧ d = ma_u ab 133 o.toNatClampNeg (ab 133 o.toNatClampNeg + (if b = 0 then -1 else 1)) ∧ v = w) : d = xHo ab o b := h.2.2.1.trans (qIf_y ⟨h.1, h.2.1⟩).symm
theorem kho_x (hd : d = ab) (h : (e = 4 ∧ ¬ zRq ab o) ∨ (e = 6 ∧ zRq ab o ∧ b = 0 ∧ ab 133 o.toNatClampNeg = 0)) : d = xHo ab o b := hd.trans (qIf_n (fun q => by
  rcases h with h | h
  · exact h.2 q.1
  · exact q.2.elim (fun z => z h.2.2.1) (fun z => z h.2.2.2))).symm
theorem kwi_y (h : zRq ab o ∧ d = ma_u ab 134 o.toNatClampNeg 1 ∧ v = w) : d = xWi ab o := h.2.1.trans (qIf_y h.1).symm
theorem kwi_x (hd : d = ab) (h : e = 4 ∧ ¬ zRq ab o) : d = xWi ab o := hd.trans (qIf_n h.2).symm
theorem ksg_y (h : (0 ≤ i.toInt ∧ i.toInt ≤ 15) ∧ (0 ≤ rt.toInt ∧ rt.toInt ≤ 15) ∧ ((aNm ab (ab 73 i.toNatClampNeg) = -1 ∧ d = ab ∧ v = -1) ∨ (aNm ab (ab 73 i.toNatClampNeg) = ab 73 i.toNatClampNeg ∧ 0 ≤ (ab 73 i.toNatClampNeg).toInt ∧ d = aSt (aRt ab rt (ab 73 i.toNatClampNeg)) (ab 73 i.toNatClampNeg) ∧ v = ab 73 i.toNatClampNeg))) : d = xSg ab i rt := by
  rcases h.2.2 with q | q
  · exact q.2.1.trans (qIf_n (fun z => z.2.2 q.1)).symm
  · refine q.2.2.1.trans (qIf_y ⟨h.1, h.2.1, fun z => ?_⟩).symm
    have q2 := q.2.1
    rw [← q.1, z] at q2
    exact absurd q2 (by decide)
theorem ksg_x (hd : d = ab) (h : e = 2 ∧ ¬ ((0 ≤ i.toInt ∧ i.toInt ≤ 15) ∧ (0 ≤ rt.toInt ∧ rt.toInt ≤ 15))) : d = xSg ab i rt := hd.trans (qIf_n (fun q => h.2 ⟨q.1, q.2.1⟩)).symm
theorem kgr_y (h : (0 ≤ rt.toInt ∧ rt.toInt ≤ 15) ∧ ((aNm ab (aTy ab) = -1 ∧ d = aTw ab ∧ v = -1) ∨ (aNm ab (aTy ab) = aTy ab ∧ 0 ≤ (aTy ab).toInt ∧ d = aRt (aTw ab) rt (aTy ab) ∧ v = aTy ab))) : d = xGr ab rt := by
  unfold xGr
  rw [qIf_y (show zSl rt from h.1)]
  rcases h.2 with q | q
  · rw [qIf_y q.1]
    exact q.2.1
  · refine q.2.2.1.trans (qIf_n (fun z => ?_)).symm
    have q2 := q.2.1
    rw [← q.1, z] at q2
    exact absurd q2 (by decide)
theorem kgr_x (hd : d = ab) (h : e = 2 ∧ ¬ (0 ≤ rt.toInt ∧ rt.toInt ≤ 15)) : d = xGr ab rt := hd.trans (qIf_n h.2).symm
theorem kcl_y (h : d = aCl ab ∧ v = w) : d = aCl ab := h.1
theorem kge_y (h : zRq ab o ∧ zHw ab o i ∧ d = ab ∧ v = w) : d = ab := h.2.2.1
theorem kmk_y (h : (0 ≤ ki.toInt ∧ ki.toInt < kn.toInt ∧ 0 ≤ rt.toInt ∧ rt.toInt ≤ 15) ∧ d = aMk ab ki kw L rt ∧ v = w) : d = qIf (0 ≤ ki.toInt ∧ ki.toInt < kn.toInt ∧ zSl rt) (aMk ab ki kw L rt) ab := h.2.1.trans (qIf_y h.1).symm
theorem kmk_x (hd : d = ab) (h : e = 2 ∧ ¬ (0 ≤ ki.toInt ∧ ki.toInt < kn.toInt ∧ 0 ≤ rt.toInt ∧ rt.toInt ≤ 15)) : d = qIf (0 ≤ ki.toInt ∧ ki.toInt < kn.toInt ∧ zSl rt) (aMk ab ki kw L rt) ab := hd.trans (qIf_n h.2).symm
theorem krw_y (h : (0 ≤ n.toInt ∧ n.toInt ≤ 60 ∧ 0 ≤ rt.toInt ∧ rt.toInt ≤ 15) ∧ d = (if b = 0 then aMk ab 17 n 0 rt else aMk ab 16 n (-1) rt) ∧ v = w) : d = qIf (0 ≤ n.toInt ∧ n.toInt ≤ 60 ∧ zSl rt) (if b = 0 then aMk ab 17 n 0 rt else aMk ab 16 n (-1) rt) ab := h.2.1.trans (qIf_y h.1).symm
theorem krw_x (hd : d = ab) (h : e = 2 ∧ ¬ (0 ≤ n.toInt ∧ n.toInt ≤ 60 ∧ 0 ≤ rt.toInt ∧ rt.toInt ≤ 15)) : d = qIf (0 ≤ n.toInt ∧ n.toInt ≤ 60 ∧ zSl rt) (if b = 0 then aMk ab 17 n 0 rt else aMk ab 16 n (-1) rt) ab := hd.trans (qIf_n h.2).symm
end KX
section KS
variable {S : ma_S} {f : Nat → Nat → Int32} {r : Nat → Nat → Option Nat} {C Z N : Nat} {m₉ : Nat → Nat → Int32}
theorem aF_cg {I I₉ : Nat → Nat → Int32} {R : Nat → Option Nat} {L L₉ : Nat → Nat → Int64} (h : ∀ c k, c < 94 ∨ 124 < c → I c k = I₉ c k) (hL : ∀ c, 126 ≤ c → L c 3 = L₉ c 3) (hR : ∀ n b, R n = some b → 126 ≤ b) : aF 88 I R L = aF 88 I₉ R L₉ := by
  funext c1 k1
  by_cases b : zrl c1 k1 = true
  · have p := zrl_p b
    rw [aF_I b, aF_I b]
    refine h _ _ (Or.inl ?_)
    unfold zcw
    split <;> omega
  · unfold aF
    rw [if_neg b, if_neg b]
    split
    · rfl
    · split
      · rfl
      · split
        · split
          · unfold aTf
            split
            · cases e : R k1 with
              | none => rfl
              | some q =>
                have := hR _ _ e
                exact h q _ (Or.inr (by omega))
            · rfl
          · rfl
        · unfold aTr
          split
          · cases e : R (c1 - 1000) with
            | none => rfl
            | some q =>
              show zbit (L q 3) _ = zbit (L₉ q 3) _
              rw [hL q (hR _ _ e)]
          · rfl
theorem h70 (h : zA f r C Z N S) : ∀ n b, mR S 70 n = some b → 126 ≤ b := fun _ _ e => (zG_70 h (c := 70) (by decide) e).1
theorem aS_o (h : zA f r C Z N S) {x : Int64} : aS 88 (ma_put S 125 0 (.inr (.inl x))) = aS 88 S := aF_cg (fun _ _ _ => rfl) (fun c hc => by
  show (if c = 125 ∧ 3 = 0 then x else mL S c 3) = mL S c 3
  rw [if_neg (by omega)]) (h70 h)
theorem aS_zst (h : zA f r C Z N S) (ho : ∀ c k, c < 94 ∨ 124 < c → m₉ c k = mI S c k) : aS 88 (zst S m₉) = aS 88 S := aF_cg ho (fun _ _ => rfl) (fun n b e => h70 (S := S) h n b e)
theorem xB_zst (h : xB S (mR S 70)) (ho : ∀ c k, c < 94 ∨ 124 < c → m₉ c k = mI S c k) : xB (zst S m₉) (mR (zst S m₉) 70) := ⟨rfl, fun n t hn e => by
  have q := h.2 n t hn e
  exact ⟨q.1, (ho t 0 (Or.inr (by omega))).trans q.2⟩⟩
end KS
theorem zb_k0 : ∀ n, n < 256 → ∀ j, j < 8 → (zbit (Int32.ofNat n).toInt64 (Int32.ofNat j) ≠ 0 ↔ ((Int32.ofNat n >>> (Int32.ofNat j &&& 31)) &&& 1) = 1) := by decide +kernel
theorem zb_k {x : Int32} {j : Nat} (h0 : 0 ≤ x.toInt) (h1 : x.toInt ≤ 255) (hj : j < 8) : zbit x.toInt64 (Int32.ofNat j) ≠ 0 ↔ ((x >>> (Int32.ofNat j &&& 31)) &&& 1) = 1 := by
  have c := tn_cast h0
  have e := zb_k0 x.toNatClampNeg (by omega) j hj
  rw [ofN_tn h0] at e
  exact e

/-! from 95.k10 -/
/-! the collectors that sweep, the class (written by wip/tools/gen20.py) -/
theorem g_83_69_75_s_0 {X : Nat × (Nat → Int32)} {d w : Nat} {S : ma_S} {Q : Option ma_V ⊕ Nat → ma_S → Prop}  (hd : 2 ≤ d) (hw : 49 ≤ w) (hS : zT S) (h : ma_wp X d w 83 2 [(0, .inr (.inr (some 69))), (1, .inr (.inr (some 75))), (2, .inl (0 : Int32))] [] S Q) : ma_wp X d w 83 0 [(0, .inr (.inr (some 69))), (1, .inr (.inr (some 75)))] [] S Q := by
  refine zw_push hm_83 dX7_grantWishes_0 (v := .inl (0 : Int32)) rfl ?_
  refine zw_sto hm_83 dX7_grantWishes_1 [(2, .inl (0 : Int32)), (0, .inr (.inr (some 69))), (1, .inr (.inr (some 75)))] rfl rfl rfl ?_
  exact zw_sub (ma_nd_of (ks := [0, 1, 2]) rfl (by decide)) (ma_nd_of (ks := [2, 0, 1]) rfl (by decide)) (ma_le_cons rfl (ma_le_cons rfl (ma_le_cons rfl (ma_le_nil _)))) h
theorem g_83_69_75_s_2 {X : Nat × (Nat → Int32)} {d w : Nat} {S : ma_S} {Q : Option ma_V ⊕ Nat → ma_S → Prop} (l2 : Int32) (hd : 2 ≤ d) (hw : 49 ≤ w) (hS : zT S) (h : if (mI S 69 6) ≤ l2 then (Q (.inl none) S) else (if l2 < 0 then (ma_wp X d w 83 2 [(0, .inr (.inr (some 69))), (1, .inr (.inr (some 75))), (2, .inl (l2 + (1 : Int32)))] [] S Q) else (if (512 : Int32) ≤ l2 then (ma_wp X d w 83 2 [(0, .inr (.inr (some 69))), (1, .inr (.inr (some 75))), (2, .inl (l2 + (1 : Int32)))] [] S Q) else ((0 ≤ l2 ∧ l2.toNatClampNeg < 512) ∧ (((mR S 70 l2.toNatClampNeg) = none → ma_wp X d w 83 2 [(0, .inr (.inr (some 69))), (1, .inr (.inr (some 75))), (2, .inl (l2 + (1 : Int32)))] [] S Q) ∧ (∀ c1, (mR S 70 l2.toNatClampNeg) = some c1 → (126 ≤ c1 ∧ c1 < mN S) ∧ (if (mI S c1 8) = 0 then (ma_wp X d w 83 2 [(0, .inr (.inr (some 69))), (1, .inr (.inr (some 75))), (2, .inl (l2 + (1 : Int32)))] [] S Q) else ((126 ≤ c1 ∧ c1 < mN S) ∧ (if (mI S c1 4) < (mI S 75 5) then (ma_wp X d w 83 2 [(0, .inr (.inr (some 69))), (1, .inr (.inr (some 75))), (2, .inl (l2 + (1 : Int32)))] [] S Q) else ((126 ≤ c1 ∧ c1 < mN S) ∧ (if (512 : Int32) ≤ (mI S c1 0) then (ma_wp X (d - 1) (w - 21) 84 0 [(0, .inr (.inr (some 69))), (1, .inr (.inr (some c1)))] [] S (zv (fun S2 => zT S2 ∧ (ma_wp X (d - 1) (w - 21) 119 0 [(0, .inr (.inr (some 75))), (1, .inr (.inr (some c1)))] [] S2 (zv (fun S4 => zT S4 ∧ (ma_wp X (d - 1) (w - 24) 120 0 [(0, .inr (.inr (some 75))), (1, .inl (512 : Int32))] [] S4 (zi (fun v7 S6 => zT S6 ∧ (ma_wp X d w 83 2 [(0, .inr (.inr (some 69))), (1, .inr (.inr (some 75))), (2, .inl (l2 + (1 : Int32)))] [] S6 Q)) (fun x S9 => Q (.inr x) S9)))) (fun x S9 => Q (.inr x) S9)))) (fun x S9 => Q (.inr x) S9))) else ((126 ≤ c1 ∧ c1 < mN S) ∧ ((0 ≤ (mI S c1 0) ∧ (mI S c1 0).toNatClampNeg < 512) ∧ (if (mI S 77 (mI S c1 0).toNatClampNeg) = 0 then (ma_wp X (d - 1) (w - 21) 84 0 [(0, .inr (.inr (some 69))), (1, .inr (.inr (some c1)))] [] S (zv (fun S8 => zT S8 ∧ (ma_wp X (d - 1) (w - 21) 119 0 [(0, .inr (.inr (some 75))), (1, .inr (.inr (some c1)))] [] S8 (zv (fun S10 => zT S10 ∧ (ma_wp X (d - 1) (w - 24) 120 0 [(0, .inr (.inr (some 75))), (1, .inl (512 : Int32))] [] S10 (zi (fun v13 S12 => zT S12 ∧ (ma_wp X d w 83 2 [(0, .inr (.inr (some 69))), (1, .inr (.inr (some 75))), (2, .inl (l2 + (1 : Int32)))] [] S12 Q)) (fun x S9 => Q (.inr x) S9)))) (fun x S9 => Q (.inr x) S9)))) (fun x S9 => Q (.inr x) S9))) else (ma_wp X d w 83 2 [(0, .inr (.inr (some 69))), (1, .inr (.inr (some 75))), (2, .inl (l2 + (1 : Int32)))] [] S Q))))))))))))))) : ma_wp X d w 83 2 [(0, .inr (.inr (some 69))), (1, .inr (.inr (some 75))), (2, .inl l2)] [] S Q := by
  refine zw_push hm_83 dX7_grantWishes_2 (v := .inl l2) rfl ?_
  refine zw_push hm_83 dX7_grantWishes_3 (v := .inr (.inr (some 69))) rfl ?_
  refine zw_gf hm_83 dX7_grantWishes_4 (v := .inl (mI S 69 6)) (zT_is hS s_69) (zT_t hS s_69) rfl f_7_40_7 rfl ?_
  refine zw_if2 hm_83 dX7_grantWishes_7 (t := 59) rfl zc2_ge ?_ ?_
  · intro hc
    rw [if_pos hc] at h
    exact zw_vret hm_83 dX7_grantWishes_59 h
  · intro hc
    rw [if_neg hc] at h
    refine zw_push hm_83 dX7_grantWishes_10 (v := .inr (.inr (some 69))) rfl ?_
    refine zw_push hm_83 dX7_grantWishes_11 (v := .inl l2) rfl ?_
    refine zw_cv hm_83 dX7_grantWishes_12 v_7_94_7 hm_81 [.inl l2] [] rfl (zT_rt hS s_69 rfl) ⟨by omega, by omega⟩ rfl ?_
    show ma_wp X (d - 1) (w - 21) 81 0 [(0, .inr (.inr (some 69))), (1, .inl l2)] [] S _
    refine zw_push hm_81 dX7_thingAt_0 (v := .inl l2) rfl ?_
    refine zw_if0 hm_81 dX7_thingAt_1 (t := 20) rfl zc0_lt ?_ ?_
    · intro hc
      rw [if_pos hc] at h
      refine zw_push hm_81 dX7_thingAt_20 (v := .inr (.inr none)) rfl ?_
      refine zw_aret hm_81 dX7_thingAt_21 ?_
      show ma_wp X d w 83 15 [(0, .inr (.inr (some 69))), (1, .inr (.inr (some 75))), (2, .inl l2)] [.inr (.inr none)] S _
      refine zw_sto hm_83 dX7_grantWishes_15 [(3, .inr (.inr none)), (0, .inr (.inr (some 69))), (1, .inr (.inr (some 75))), (2, .inl l2)] rfl rfl rfl ?_
      refine zw_push hm_83 dX7_grantWishes_16 (v := .inr (.inr none)) rfl ?_
      refine zw_ifnull hm_83 dX7_grantWishes_17 (t := 53) rfl (fun _ => ?_) (fun _ z => by cases z)
      refine zw_sto hm_83 dX7_grantWishes_53 [(2, .inl (l2 + (1 : Int32))), (3, .inr (.inr none)), (0, .inr (.inr (some 69))), (1, .inr (.inr (some 75)))] rfl rfl rfl ?_
      refine zw_goto hm_83 dX7_grantWishes_56 (t := 2) rfl ?_
      exact zw_sub (ma_nd_of (ks := [0, 1, 2]) rfl (by decide)) (ma_nd_of (ks := [2, 3, 0, 1]) rfl (by decide)) (ma_le_cons rfl (ma_le_cons rfl (ma_le_cons rfl (ma_le_nil _)))) h
    · intro hc
      rw [if_neg hc] at h
      refine zw_push hm_81 dX7_thingAt_4 (v := .inl l2) rfl ?_
      refine zw_push hm_81 dX7_thingAt_5 (v := .inl (512 : Int32)) rfl ?_
      refine zw_if2 hm_81 dX7_thingAt_8 (t := 20) rfl zc2_ge ?_ ?_
      · intro hc
        rw [if_pos hc] at h
        refine zw_push hm_81 dX7_thingAt_20 (v := .inr (.inr none)) rfl ?_
        refine zw_aret hm_81 dX7_thingAt_21 ?_
        show ma_wp X d w 83 15 [(0, .inr (.inr (some 69))), (1, .inr (.inr (some 75))), (2, .inl l2)] [.inr (.inr none)] S _
        refine zw_sto hm_83 dX7_grantWishes_15 [(3, .inr (.inr none)), (0, .inr (.inr (some 69))), (1, .inr (.inr (some 75))), (2, .inl l2)] rfl rfl rfl ?_
        refine zw_push hm_83 dX7_grantWishes_16 (v := .inr (.inr none)) rfl ?_
        refine zw_ifnull hm_83 dX7_grantWishes_17 (t := 53) rfl (fun _ => ?_) (fun _ z => by cases z)
        refine zw_sto hm_83 dX7_grantWishes_53 [(2, .inl (l2 + (1 : Int32))), (3, .inr (.inr none)), (0, .inr (.inr (some 69))), (1, .inr (.inr (some 75)))] rfl rfl rfl ?_
        refine zw_goto hm_83 dX7_grantWishes_56 (t := 2) rfl ?_
        exact zw_sub (ma_nd_of (ks := [0, 1, 2]) rfl (by decide)) (ma_nd_of (ks := [2, 3, 0, 1]) rfl (by decide)) (ma_le_cons rfl (ma_le_cons rfl (ma_le_cons rfl (ma_le_nil _)))) h
      · intro hc
        rw [if_neg hc] at h
        refine zw_push hm_81 dX7_thingAt_11 (v := .inr (.inr (some 69))) rfl ?_
        refine zw_gf hm_81 dX7_thingAt_12 (v := .inr (.inr (some 70))) (zT_is hS s_69) (zT_t hS s_69) rfl f_7_11_7 (zT_f hS r_69_0) ?_
        refine zw_push hm_81 dX7_thingAt_15 (v := .inl l2) rfl ?_
        obtain ⟨hg, h⟩ := h
        refine zw_aa hm_81 dX7_thingAt_16 (zT_is hS s_70) (zT_h hS s_70) rfl rfl hg rfl ?_
        show ma_wp X (d - 1) (w - 21) 81 17 [(0, .inr (.inr (some 69))), (1, .inl l2)] [.inr (.inr (mR S 70 l2.toNatClampNeg))] S _
        refine zw_goto hm_81 dX7_thingAt_17 (t := 21) rfl ?_
        refine zw_aret hm_81 dX7_thingAt_21 ?_
        show ma_wp X d w 83 15 [(0, .inr (.inr (some 69))), (1, .inr (.inr (some 75))), (2, .inl l2)] [.inr (.inr (mR S 70 l2.toNatClampNeg))] S _
        refine zw_sto hm_83 dX7_grantWishes_15 [(3, .inr (.inr (mR S 70 l2.toNatClampNeg))), (0, .inr (.inr (some 69))), (1, .inr (.inr (some 75))), (2, .inl l2)] rfl rfl rfl ?_
        refine zw_push hm_83 dX7_grantWishes_16 (v := .inr (.inr (mR S 70 l2.toNatClampNeg))) rfl ?_
        refine zw_ifnull hm_83 dX7_grantWishes_17 (t := 53) rfl ?_ ?_
        · intro hc
          have h := h.1 hc
          (try rw [hc])
          show ma_wp X d w 83 53 [(3, .inr (.inr none)), (0, .inr (.inr (some 69))), (1, .inr (.inr (some 75))), (2, .inl l2)] [] S _
          refine zw_sto hm_83 dX7_grantWishes_53 [(2, .inl (l2 + (1 : Int32))), (3, .inr (.inr none)), (0, .inr (.inr (some 69))), (1, .inr (.inr (some 75)))] rfl rfl rfl ?_
          refine zw_goto hm_83 dX7_grantWishes_56 (t := 2) rfl ?_
          exact zw_sub (ma_nd_of (ks := [0, 1, 2]) rfl (by decide)) (ma_nd_of (ks := [2, 3, 0, 1]) rfl (by decide)) (ma_le_cons rfl (ma_le_cons rfl (ma_le_cons rfl (ma_le_nil _)))) h
        · intro c1 hc
          have h := h.2 c1 hc
          (try rw [hc])
          show ma_wp X d w 83 20 [(3, .inr (.inr (some c1))), (0, .inr (.inr (some 69))), (1, .inr (.inr (some 75))), (2, .inl l2)] [] S _
          refine zw_push hm_83 dX7_grantWishes_20 (v := .inr (.inr (some c1))) rfl ?_
          obtain ⟨hg, h⟩ := h
          refine zw_gf hm_83 dX7_grantWishes_21 (v := .inl (mI S c1 8)) (zT_tis hS hg) (zT_tt hS hg) rfl f_7_108_9 rfl ?_
          refine zw_if0 hm_83 dX7_grantWishes_24 (t := 53) rfl zc0_eq ?_ ?_
          · intro hc
            rw [if_pos hc] at h
            refine zw_sto hm_83 dX7_grantWishes_53 [(2, .inl (l2 + (1 : Int32))), (3, .inr (.inr (some c1))), (0, .inr (.inr (some 69))), (1, .inr (.inr (some 75)))] rfl rfl rfl ?_
            refine zw_goto hm_83 dX7_grantWishes_56 (t := 2) rfl ?_
            exact zw_sub (ma_nd_of (ks := [0, 1, 2]) rfl (by decide)) (ma_nd_of (ks := [2, 3, 0, 1]) rfl (by decide)) (ma_le_cons rfl (ma_le_cons rfl (ma_le_cons rfl (ma_le_nil _)))) h
          · intro hc
            rw [if_neg hc] at h
            refine zw_push hm_83 dX7_grantWishes_27 (v := .inr (.inr (some 75))) rfl ?_
            refine zw_push hm_83 dX7_grantWishes_28 (v := .inr (.inr (some c1))) rfl ?_
            refine zw_cv hm_83 dX7_grantWishes_29 v_7_128_10 hm_122 [.inr (.inr (some c1))] [] rfl (zT_rt hS s_75 rfl) ⟨by omega, by omega⟩ rfl ?_
            show ma_wp X (d - 1) (w - 21) 122 0 [(0, .inr (.inr (some 75))), (1, .inr (.inr (some c1)))] [] S _
            refine zw_push hm_122 dX10_keeps_0 (v := .inr (.inr (some c1))) rfl ?_
            obtain ⟨hg, h⟩ := h
            refine zw_gf hm_122 dX10_keeps_1 (v := .inl (mI S c1 4)) (zT_tis hS hg) (zT_tt hS hg) rfl f_10_49_9 rfl ?_
            refine zw_push hm_122 dX10_keeps_4 (v := .inr (.inr (some 75))) rfl ?_
            refine zw_gf hm_122 dX10_keeps_5 (v := .inl (mI S 75 5)) (zT_is hS s_75) (zT_t hS s_75) rfl f_10_35_10 rfl ?_
            refine zw_if2 hm_122 dX10_keeps_8 (t := 19) rfl zc2_lt ?_ ?_
            · intro hc
              rw [if_pos hc] at h
              refine zw_push hm_122 dX10_keeps_19 (v := .inl (1 : Int32)) rfl ?_
              refine zw_goto hm_122 dX10_keeps_20 (t := 24) rfl ?_
              refine zw_bret hm_122 dX10_keeps_24 (by decide) ?_
              show ma_wp X d w 83 32 [(3, .inr (.inr (some c1))), (0, .inr (.inr (some 69))), (1, .inr (.inr (some 75))), (2, .inl l2)] [.inl (1 : Int32)] S _
              refine zw_if0 hm_83 dX7_grantWishes_32 (t := 53) rfl zc0_ne (fun _ => ?_) (fun hc => absurd (by decide) hc)
              refine zw_sto hm_83 dX7_grantWishes_53 [(2, .inl (l2 + (1 : Int32))), (3, .inr (.inr (some c1))), (0, .inr (.inr (some 69))), (1, .inr (.inr (some 75)))] rfl rfl rfl ?_
              refine zw_goto hm_83 dX7_grantWishes_56 (t := 2) rfl ?_
              exact zw_sub (ma_nd_of (ks := [0, 1, 2]) rfl (by decide)) (ma_nd_of (ks := [2, 3, 0, 1]) rfl (by decide)) (ma_le_cons rfl (ma_le_cons rfl (ma_le_cons rfl (ma_le_nil _)))) h
            · intro hc
              rw [if_neg hc] at h
              refine zw_push hm_122 dX10_keeps_11 (v := .inr (.inr (some 75))) rfl ?_
              refine zw_push hm_122 dX10_keeps_12 (v := .inr (.inr (some c1))) rfl ?_
              refine zw_cv hm_122 dX10_keeps_13 v_10_54_10 hm_123 [.inr (.inr (some c1))] [] rfl (zT_rt hS s_75 rfl) ⟨by omega, by omega⟩ rfl ?_
              show ma_wp X ((d - 1) - 1) ((w - 21) - 21) 123 0 [(0, .inr (.inr (some 75))), (1, .inr (.inr (some c1)))] [] S _
              refine zw_push hm_123 dX10_colourOf_0 (v := .inr (.inr (some c1))) rfl ?_
              obtain ⟨hg, h⟩ := h
              refine zw_gf hm_123 dX10_colourOf_1 (v := .inl (mI S c1 0)) (zT_tis hS hg) (zT_tt hS hg) rfl f_10_58_9 rfl ?_
              refine zw_push hm_123 dX10_colourOf_4 (v := .inl (512 : Int32)) rfl ?_
              refine zw_if2 hm_123 dX10_colourOf_7 (t := 22) rfl zc2_ge ?_ ?_
              · intro hc
                rw [if_pos hc] at h
                refine zw_push hm_123 dX10_colourOf_22 (v := .inl (0 : Int32)) rfl ?_
                refine zw_iret hm_123 dX10_colourOf_23 ?_
                show ma_wp X (d - 1) (w - 21) 122 16 [(0, .inr (.inr (some 75))), (1, .inr (.inr (some c1)))] [.inl (0 : Int32)] S _
                refine zw_if0 hm_122 dX10_keeps_16 (t := 23) rfl zc0_eq (fun _ => ?_) (fun hc => absurd (by decide) hc)
                refine zw_push hm_122 dX10_keeps_23 (v := .inl (0 : Int32)) rfl ?_
                refine zw_bret hm_122 dX10_keeps_24 (by decide) ?_
                show ma_wp X d w 83 32 [(3, .inr (.inr (some c1))), (0, .inr (.inr (some 69))), (1, .inr (.inr (some 75))), (2, .inl l2)] [.inl (0 : Int32)] S _
                refine zw_if0 hm_83 dX7_grantWishes_32 (t := 53) rfl zc0_ne (fun hc => absurd hc (by decide)) (fun _ => ?_)
                refine zw_push hm_83 dX7_grantWishes_35 (v := .inr (.inr (some 69))) rfl ?_
                refine zw_push hm_83 dX7_grantWishes_36 (v := .inr (.inr (some c1))) rfl ?_
                refine zw_cv hm_83 dX7_grantWishes_37 v_7_134_7 hm_84 [.inr (.inr (some c1))] [] rfl (zT_rt hS s_69 rfl) ⟨by omega, by omega⟩ rfl (zw_mono h (zv_go ?_ ?_))
                · intro S2 hv
                  obtain ⟨hS2, h⟩ := hv
                  refine zw_push hm_83 dX7_grantWishes_40 (v := .inr (.inr (some 75))) rfl ?_
                  refine zw_push hm_83 dX7_grantWishes_41 (v := .inr (.inr (some c1))) rfl ?_
                  refine zw_cv hm_83 dX7_grantWishes_42 v_7_137_10 hm_119 [.inr (.inr (some c1))] [] rfl (zT_rt hS2 s_75 rfl) ⟨by omega, by omega⟩ rfl (zw_mono h (zv_go ?_ ?_))
                  · intro S4 hv
                    obtain ⟨hS4, h⟩ := hv
                    refine zw_push hm_83 dX7_grantWishes_45 (v := .inr (.inr (some 75))) rfl ?_
                    refine zw_push hm_83 dX7_grantWishes_46 (v := .inl (512 : Int32)) rfl ?_
                    refine zw_cv hm_83 dX7_grantWishes_49 v_7_140_10 hm_120 [.inl (512 : Int32)] [] rfl (zT_rt hS4 s_75 rfl) ⟨by omega, by omega⟩ rfl (zw_mono h (zi_go ?_ ?_))
                    · intro v7 S6 hv
                      obtain ⟨hS6, h⟩ := hv
                      refine zw_stk hm_83 dX7_grantWishes_52 (st₉ := []) rfl rfl ?_
                      refine zw_sto hm_83 dX7_grantWishes_53 [(2, .inl (l2 + (1 : Int32))), (3, .inr (.inr (some c1))), (0, .inr (.inr (some 69))), (1, .inr (.inr (some 75)))] rfl rfl rfl ?_
                      refine zw_goto hm_83 dX7_grantWishes_56 (t := 2) rfl ?_
                      exact zw_sub (ma_nd_of (ks := [0, 1, 2]) rfl (by decide)) (ma_nd_of (ks := [2, 3, 0, 1]) rfl (by decide)) (ma_le_cons rfl (ma_le_cons rfl (ma_le_cons rfl (ma_le_nil _)))) h
                    · intro x S9 hx
                      exact ⟨by decide, hx⟩
                  · intro x S9 hx
                    exact ⟨by decide, hx⟩
                · intro x S9 hx
                  exact ⟨by decide, hx⟩
              · intro hc
                rw [if_neg hc] at h
                refine zw_push hm_123 dX10_colourOf_10 (v := .inr (.inr (some 75))) rfl ?_
                refine zw_gf hm_123 dX10_colourOf_11 (v := .inr (.inr (some 77))) (zT_is hS s_75) (zT_t hS s_75) rfl f_10_15_10 (zT_f hS r_75_2) ?_
                refine zw_push hm_123 dX10_colourOf_14 (v := .inr (.inr (some c1))) rfl ?_
                obtain ⟨hg, h⟩ := h
                refine zw_gf hm_123 dX10_colourOf_15 (v := .inl (mI S c1 0)) (zT_tis hS hg) (zT_tt hS hg) rfl f_10_58_9 rfl ?_
                obtain ⟨hg, h⟩ := h
                refine zw_ia hm_123 dX10_colourOf_18 (zT_is hS s_77) (zT_h hS s_77) rfl hg ?_
                show ma_wp X ((d - 1) - 1) ((w - 21) - 21) 123 19 [(0, .inr (.inr (some 75))), (1, .inr (.inr (some c1)))] [.inl (mI S 77 (mI S c1 0).toNatClampNeg)] S _
                refine zw_goto hm_123 dX10_colourOf_19 (t := 23) rfl ?_
                refine zw_iret hm_123 dX10_colourOf_23 ?_
                show ma_wp X (d - 1) (w - 21) 122 16 [(0, .inr (.inr (some 75))), (1, .inr (.inr (some c1)))] [.inl (mI S 77 (mI S c1 0).toNatClampNeg)] S _
                refine zw_if0 hm_122 dX10_keeps_16 (t := 23) rfl zc0_eq ?_ ?_
                · intro hc
                  rw [if_pos hc] at h
                  refine zw_push hm_122 dX10_keeps_23 (v := .inl (0 : Int32)) rfl ?_
                  refine zw_bret hm_122 dX10_keeps_24 (by decide) ?_
                  show ma_wp X d w 83 32 [(3, .inr (.inr (some c1))), (0, .inr (.inr (some 69))), (1, .inr (.inr (some 75))), (2, .inl l2)] [.inl (0 : Int32)] S _
                  refine zw_if0 hm_83 dX7_grantWishes_32 (t := 53) rfl zc0_ne (fun hc => absurd hc (by decide)) (fun _ => ?_)
                  refine zw_push hm_83 dX7_grantWishes_35 (v := .inr (.inr (some 69))) rfl ?_
                  refine zw_push hm_83 dX7_grantWishes_36 (v := .inr (.inr (some c1))) rfl ?_
                  refine zw_cv hm_83 dX7_grantWishes_37 v_7_134_7 hm_84 [.inr (.inr (some c1))] [] rfl (zT_rt hS s_69 rfl) ⟨by omega, by omega⟩ rfl (zw_mono h (zv_go ?_ ?_))
                  · intro S8 hv
                    obtain ⟨hS8, h⟩ := hv
                    refine zw_push hm_83 dX7_grantWishes_40 (v := .inr (.inr (some 75))) rfl ?_
                    refine zw_push hm_83 dX7_grantWishes_41 (v := .inr (.inr (some c1))) rfl ?_
                    refine zw_cv hm_83 dX7_grantWishes_42 v_7_137_10 hm_119 [.inr (.inr (some c1))] [] rfl (zT_rt hS8 s_75 rfl) ⟨by omega, by omega⟩ rfl (zw_mono h (zv_go ?_ ?_))
                    · intro S10 hv
                      obtain ⟨hS10, h⟩ := hv
                      refine zw_push hm_83 dX7_grantWishes_45 (v := .inr (.inr (some 75))) rfl ?_
                      refine zw_push hm_83 dX7_grantWishes_46 (v := .inl (512 : Int32)) rfl ?_
                      refine zw_cv hm_83 dX7_grantWishes_49 v_7_140_10 hm_120 [.inl (512 : Int32)] [] rfl (zT_rt hS10 s_75 rfl) ⟨by omega, by omega⟩ rfl (zw_mono h (zi_go ?_ ?_))
                      · intro v13 S12 hv
                        obtain ⟨hS12, h⟩ := hv
                        refine zw_stk hm_83 dX7_grantWishes_52 (st₉ := []) rfl rfl ?_
                        refine zw_sto hm_83 dX7_grantWishes_53 [(2, .inl (l2 + (1 : Int32))), (3, .inr (.inr (some c1))), (0, .inr (.inr (some 69))), (1, .inr (.inr (some 75)))] rfl rfl rfl ?_
                        refine zw_goto hm_83 dX7_grantWishes_56 (t := 2) rfl ?_
                        exact zw_sub (ma_nd_of (ks := [0, 1, 2]) rfl (by decide)) (ma_nd_of (ks := [2, 3, 0, 1]) rfl (by decide)) (ma_le_cons rfl (ma_le_cons rfl (ma_le_cons rfl (ma_le_nil _)))) h
                      · intro x S9 hx
                        exact ⟨by decide, hx⟩
                    · intro x S9 hx
                      exact ⟨by decide, hx⟩
                  · intro x S9 hx
                    exact ⟨by decide, hx⟩
                · intro hc
                  rw [if_neg hc] at h
                  refine zw_push hm_122 dX10_keeps_19 (v := .inl (1 : Int32)) rfl ?_
                  refine zw_goto hm_122 dX10_keeps_20 (t := 24) rfl ?_
                  refine zw_bret hm_122 dX10_keeps_24 (by decide) ?_
                  show ma_wp X d w 83 32 [(3, .inr (.inr (some c1))), (0, .inr (.inr (some 69))), (1, .inr (.inr (some 75))), (2, .inl l2)] [.inl (1 : Int32)] S _
                  refine zw_if0 hm_83 dX7_grantWishes_32 (t := 53) rfl zc0_ne (fun _ => ?_) (fun hc => absurd (by decide) hc)
                  refine zw_sto hm_83 dX7_grantWishes_53 [(2, .inl (l2 + (1 : Int32))), (3, .inr (.inr (some c1))), (0, .inr (.inr (some 69))), (1, .inr (.inr (some 75)))] rfl rfl rfl ?_
                  refine zw_goto hm_83 dX7_grantWishes_56 (t := 2) rfl ?_
                  exact zw_sub (ma_nd_of (ks := [0, 1, 2]) rfl (by decide)) (ma_nd_of (ks := [2, 3, 0, 1]) rfl (by decide)) (ma_le_cons rfl (ma_le_cons rfl (ma_le_cons rfl (ma_le_nil _)))) h
theorem lp_83_69_75_s_2 {X : Nat × (Nat → Int32)} {d w : Nat} {f : Nat → Nat → Int32} {r : Nat → Nat → Option Nat} {C Z N : Nat} {Q : Option ma_V ⊕ Nat → ma_S → Prop} {ab : Nat→Nat→Int32} {R : zRT} (hd : 2 ≤ d) (hw : 49 ≤ w) (K : ∀ S₉, zI f r C Z N S₉ → (xB S₉ R) → (aS 75 S₉ = aGw ab 0) → Q (.inl none) S₉) : ∀ (n : Nat) (S : ma_S) (l2 : Int32), (512 - l2.toInt).toNat = n → zI f r C Z N S → (0 ≤ l2.toInt) → (xB S R) → (aGw (aS 75 S) l2 = aGw ab 0) → ma_wp X d w 83 2 [(0, .inr (.inr (some 69))), (1, .inr (.inr (some 75))), (2, .inl l2)] [] S Q := by
  intro n
  induction n using Nat.strongRecOn with
  | _ n IH =>
    intro S l2 hmu hI  hi0 hi1 hi2
    refine g_83_69_75_s_2 l2 (by omega) (by omega) (zG_T hI) ?_
    have r6 := congrArg Int32.toInt (aS_I (W := 75) (S := S) (c := 69) (c₉ := 69) (k := 6) rfl rfl)
    have f1 := zG_s hI (0) (512) (c := 69) (k := 6) (by decide)
    have b2 := i_bd l2
    refine zd (fun h3 => ?_) (fun h3 => ?_)
    · skip
      have g4 := i_le h3
      exact K _ hI (show xB S R from by first | (exact (xC_o (W := 75) hi1).2)) (show aS 75 S = aGw ab 0 from by first | (exact (aGw_st (by omega)).symm.trans hi2))
    · skip
      have g5 := i_nle h3
      have li6 : (0 : Int32).toInt = 0 := rfl
      refine zd (fun h7 => ?_) (fun h7 => ?_)
      · skip
        have g8 := i_lt h7
        first | have e9 : (l2 + (1 : Int32)).toInt = l2.toInt + (1) := i_addk rfl (by omega) (by omega) | have b10 := i_bd (l2 + (1 : Int32))
        exact IH _ (by omega) _ ((l2 + (1 : Int32))) rfl hI (by omega) (show xB S R from by first | (exact (xC_o (W := 75) hi1).2)) (show aGw (aS 75 S) ((l2 + (1 : Int32))) = aGw ab 0 from by first | (exfalso; omega) | (exact (aGw_n (by omega) (fun z => by omega)).symm.trans hi2))
      · skip
        have g11 := i_nlt h7
        have li12 : (512 : Int32).toInt = 512 := rfl
        refine zd (fun h13 => ?_) (fun h13 => ?_)
        · skip
          have g14 := i_le h13
          first | have e15 : (l2 + (1 : Int32)).toInt = l2.toInt + (1) := i_addk rfl (by omega) (by omega) | have b16 := i_bd (l2 + (1 : Int32))
          exact IH _ (by omega) _ ((l2 + (1 : Int32))) rfl hI (by omega) (show xB S R from by first | (exact (xC_o (W := 75) hi1).2)) (show aGw (aS 75 S) ((l2 + (1 : Int32))) = aGw ab 0 from by first | (exfalso; omega) | (exact (aGw_n (by omega) (fun z => by omega)).symm.trans hi2))
        · skip
          have g17 := i_nle h13
          refine ⟨i_ix (by omega) (by omega), ?_⟩
          refine ⟨fun hc => ?_, fun c1 hc => ?_⟩
          · skip
            have rn_c1 : zTa R l2 = none := (ta_rd (y := l2) hi1 (by omega) (by omega)).symm.trans hc
            first | have e18 : (l2 + (1 : Int32)).toInt = l2.toInt + (1) := i_addk rfl (by omega) (by omega) | have b19 := i_bd (l2 + (1 : Int32))
            exact IH _ (by omega) _ ((l2 + (1 : Int32))) rfl hI (by omega) (show xB S R from by first | (exact (xC_o (W := 75) hi1).2)) (show aGw (aS 75 S) ((l2 + (1 : Int32))) = aGw ab 0 from by first | (exfalso; omega) | (exact (aGw_n (by omega) (fun z => xB_nt (W := 75) hi1 rn_c1 ⟨z.1, z.2.1, z.2.2.1⟩)).symm.trans hi2))
          · skip
            have th_c1 := (fun _ z => zG_70 hI (c := 70) (by decide) z) c1 hc
            have rg_c1 : zTa R l2 = some c1 := (ta_rd (y := l2) hi1 (by omega) (by omega)).symm.trans hc
            refine ⟨zG_n hI th_c1, ?_⟩
            have b20 := i_bd (mI S c1 8)
            refine zd (fun h21 => ?_) (fun h21 => ?_)
            · skip
              have g22 := i_eq h21
              first | have e23 : (l2 + (1 : Int32)).toInt = l2.toInt + (1) := i_addk rfl (by omega) (by omega) | have b24 := i_bd (l2 + (1 : Int32))
              exact IH _ (by omega) _ ((l2 + (1 : Int32))) rfl hI (by omega) (show xB S R from by first | (exact (xC_o (W := 75) hi1).2)) (show aGw (aS 75 S) ((l2 + (1 : Int32))) = aGw ab 0 from by first | (exfalso; omega) | (have ty := xB_th (W := 75) hi1 rg_c1; have e4 := congrArg Int32.toInt ty.2.2.2.2.2.1; refine (aGw_n (by omega) (fun z => ?_)).symm.trans hi2; have z1 : mI S c1 8 ≠ 0 := (by rw [ty.2.2.2.2.2.2.2.1]; exact z.2.2.2.1); have z4 : (mI S 75 5).toInt ≤ (mI S c1 4).toInt := (by rw [e4]; exact z.2.2.2.2.1); have z6 : (mI S 77 (mI S c1 0).toNatClampNeg).toInt = 0 := (by rw [ty.2.2.1]; exact congrArg Int32.toInt z.2.2.2.2.2); first | omega | exact z1 (by assumption)))
            · skip
              have g25 := i_ne h21
              refine ⟨zG_n hI th_c1, ?_⟩
              have f26 := zG_th hI th_c1
              have b27 := i_bd (mI S 75 5)
              refine zd (fun h28 => ?_) (fun h28 => ?_)
              · skip
                have g29 := i_lt h28
                first | have e30 : (l2 + (1 : Int32)).toInt = l2.toInt + (1) := i_addk rfl (by omega) (by omega) | have b31 := i_bd (l2 + (1 : Int32))
                exact IH _ (by omega) _ ((l2 + (1 : Int32))) rfl hI (by omega) (show xB S R from by first | (exact (xC_o (W := 75) hi1).2)) (show aGw (aS 75 S) ((l2 + (1 : Int32))) = aGw ab 0 from by first | (exfalso; omega) | (have ty := xB_th (W := 75) hi1 rg_c1; have e4 := congrArg Int32.toInt ty.2.2.2.2.2.1; refine (aGw_n (by omega) (fun z => ?_)).symm.trans hi2; have z1 : mI S c1 8 ≠ 0 := (by rw [ty.2.2.2.2.2.2.2.1]; exact z.2.2.2.1); have z4 : (mI S 75 5).toInt ≤ (mI S c1 4).toInt := (by rw [e4]; exact z.2.2.2.2.1); have z6 : (mI S 77 (mI S c1 0).toNatClampNeg).toInt = 0 := (by rw [ty.2.2.1]; exact congrArg Int32.toInt z.2.2.2.2.2); first | omega | exact z1 (by assumption)))
              · skip
                have g32 := i_nlt h28
                refine ⟨zG_n hI th_c1, ?_⟩
                have f33 := zG_th hI th_c1
                refine zd (fun h34 => ?_) (fun h34 => ?_)
                · skip
                  have g35 := i_le h34
                  refine sp_84_69_s (ab := (aS 75 S)) (R := R) (W := 75) (y := l2) c1 (by omega) (by omega) hI th_c1 (show xB S R from by first | (exact (xC_o (W := 75) hi1).2)) (show aS 75 S = (aS 75 S) from by first | (exact rfl)) (show xW 75 from by first | (exact xW88) | (exact xW75)) (show zTa R l2 = some c1 from by first | (exact rg_c1)) (fun S2 hI_S2 rp0_S2 rp1_S2 => zv_n ⟨zG_T hI_S2, ?_⟩)
                  have rp0_S2 : xB S2 R := rp0_S2
                  have rp1_S2 : aS 75 S2 = aGr (aS 75 S) l2 := rp1_S2
                  refine sp_119_75_s (ab := (aS 75 S2)) (R := R) (y := (l2)) (a8 := (aS 88 S2)) ((some c1)) (by omega) (by omega) hI_S2 (fun _ z => by cases z; exact th_c1) (show xB S2 R from by first | (exact (xC_o (W := 75) rp0_S2).2)) (show aS 75 S2 = (aS 75 S2) from by first | (exact rfl)) (show (some c1) = zTa R (l2) from by first | (exact rg_c1.symm)) (show aS 88 S2 = (aS 88 S2) from by first | (exact rfl)) (fun S4 hI_S4 rp0_S4 rp1_S4 rp2_S4 => zv_n ⟨zG_T hI_S4, ?_⟩)
                  have rp0_S4 : xB S4 R := rp0_S4
                  have rp1_S4 : aS 75 S4 = aCm (aS 75 S2) (l2) := rp1_S4
                  have rp2_S4 : aS 88 S4 = (aS 88 S2) := rp2_S4
                  refine sp_120_75_s (ab := (aS 75 S4)) (R := R) (a8 := (aS 88 S4)) ((512 : Int32)) (by omega) (by omega) hI_S4 (show xB S4 R from by first | (exact (xC_o (W := 75) rp0_S4).2)) (show aS 75 S4 = (aS 75 S4) from by first | (exact rfl)) (by omega) (show aS 88 S4 = (aS 88 S4) from by first | (exact rfl)) (fun v7 S6 hI_S6 hp_v7 rp0_S6 rp1_S6 rp2_S6 => zi_n ⟨zG_T hI_S6, ?_⟩)
                  have rp0_S6 : xB S6 R := rp0_S6
                  have rp1_S6 : aS 75 S6 = aSp (512 : Int32).toInt.toNat (aS 75 S4) ∧ v7.toInt = (aSn (512 : Int32).toInt.toNat (aS 75 S4) : Int) := rp1_S6
                  have rp2_S6 : aS 88 S6 = (aS 88 S4) := rp2_S6
                  first | have e36 : (l2 + (1 : Int32)).toInt = l2.toInt + (1) := i_addk rfl (by omega) (by omega) | have b37 := i_bd (l2 + (1 : Int32))
                  exact IH _ (by omega) _ ((l2 + (1 : Int32))) rfl hI_S6 (by omega) (show xB S6 R from by first | (exact (xC_o (W := 75) rp0_S6).2)) (show aGw (aS 75 S6) ((l2 + (1 : Int32))) = aGw ab 0 from by first | (exfalso; omega) | (have ty := xB_th (W := 75) hi1 rg_c1; have e4 := congrArg Int32.toInt ty.2.2.2.2.2.1; have e8 := congrArg Int32.toInt ty.2.2.2.2.2.2.2.1; rw [rp1_S6.1, show (512 : Int32).toInt.toNat = 512 from rfl, rp1_S4, rp1_S2]; refine (aGw_y (by omega) ⟨ty.1, ty.2.1, (by rw [ty.2.2.2.2.2.2.2.2]; decide), (fun z => ?_), ?_, ?_⟩).symm.trans hi2; (rw [← ty.2.2.2.2.2.2.2.1] at z; have z2 := congrArg Int32.toInt z; omega); (show (mI S 75 5).toInt ≤ _; rw [← e4]; omega); (show mI S 77 _ = 0; rw [← ty.2.2.1]; assumption)))
                · skip
                  have g38 := i_nle h34
                  refine ⟨zG_n hI th_c1, ?_⟩
                  refine ⟨i_ix (by omega) (by omega), ?_⟩
                  have b39 := i_bd (mI S 77 (mI S c1 0).toNatClampNeg)
                  refine zd (fun h40 => ?_) (fun h40 => ?_)
                  · skip
                    have g41 := i_eq h40
                    refine sp_84_69_s (ab := (aS 75 S)) (R := R) (W := 75) (y := l2) c1 (by omega) (by omega) hI th_c1 (show xB S R from by first | (exact (xC_o (W := 75) hi1).2)) (show aS 75 S = (aS 75 S) from by first | (exact rfl)) (show xW 75 from by first | (exact xW88) | (exact xW75)) (show zTa R l2 = some c1 from by first | (exact rg_c1)) (fun S8 hI_S8 rp0_S8 rp1_S8 => zv_n ⟨zG_T hI_S8, ?_⟩)
                    have rp0_S8 : xB S8 R := rp0_S8
                    have rp1_S8 : aS 75 S8 = aGr (aS 75 S) l2 := rp1_S8
                    refine sp_119_75_s (ab := (aS 75 S8)) (R := R) (y := (l2)) (a8 := (aS 88 S8)) ((some c1)) (by omega) (by omega) hI_S8 (fun _ z => by cases z; exact th_c1) (show xB S8 R from by first | (exact (xC_o (W := 75) rp0_S8).2)) (show aS 75 S8 = (aS 75 S8) from by first | (exact rfl)) (show (some c1) = zTa R (l2) from by first | (exact rg_c1.symm)) (show aS 88 S8 = (aS 88 S8) from by first | (exact rfl)) (fun S10 hI_S10 rp0_S10 rp1_S10 rp2_S10 => zv_n ⟨zG_T hI_S10, ?_⟩)
                    have rp0_S10 : xB S10 R := rp0_S10
                    have rp1_S10 : aS 75 S10 = aCm (aS 75 S8) (l2) := rp1_S10
                    have rp2_S10 : aS 88 S10 = (aS 88 S8) := rp2_S10
                    refine sp_120_75_s (ab := (aS 75 S10)) (R := R) (a8 := (aS 88 S10)) ((512 : Int32)) (by omega) (by omega) hI_S10 (show xB S10 R from by first | (exact (xC_o (W := 75) rp0_S10).2)) (show aS 75 S10 = (aS 75 S10) from by first | (exact rfl)) (by omega) (show aS 88 S10 = (aS 88 S10) from by first | (exact rfl)) (fun v13 S12 hI_S12 hp_v13 rp0_S12 rp1_S12 rp2_S12 => zi_n ⟨zG_T hI_S12, ?_⟩)
                    have rp0_S12 : xB S12 R := rp0_S12
                    have rp1_S12 : aS 75 S12 = aSp (512 : Int32).toInt.toNat (aS 75 S10) ∧ v13.toInt = (aSn (512 : Int32).toInt.toNat (aS 75 S10) : Int) := rp1_S12
                    have rp2_S12 : aS 88 S12 = (aS 88 S10) := rp2_S12
                    first | have e42 : (l2 + (1 : Int32)).toInt = l2.toInt + (1) := i_addk rfl (by omega) (by omega) | have b43 := i_bd (l2 + (1 : Int32))
                    exact IH _ (by omega) _ ((l2 + (1 : Int32))) rfl hI_S12 (by omega) (show xB S12 R from by first | (exact (xC_o (W := 75) rp0_S12).2)) (show aGw (aS 75 S12) ((l2 + (1 : Int32))) = aGw ab 0 from by first | (exfalso; omega) | (have ty := xB_th (W := 75) hi1 rg_c1; have e4 := congrArg Int32.toInt ty.2.2.2.2.2.1; have e8 := congrArg Int32.toInt ty.2.2.2.2.2.2.2.1; rw [rp1_S12.1, show (512 : Int32).toInt.toNat = 512 from rfl, rp1_S10, rp1_S8]; refine (aGw_y (by omega) ⟨ty.1, ty.2.1, (by rw [ty.2.2.2.2.2.2.2.2]; decide), (fun z => ?_), ?_, ?_⟩).symm.trans hi2; (rw [← ty.2.2.2.2.2.2.2.1] at z; have z2 := congrArg Int32.toInt z; omega); (show (mI S 75 5).toInt ≤ _; rw [← e4]; omega); (show mI S 77 _ = 0; rw [← ty.2.2.1]; assumption)))
                  · skip
                    have g44 := i_ne h40
                    first | have e45 : (l2 + (1 : Int32)).toInt = l2.toInt + (1) := i_addk rfl (by omega) (by omega) | have b46 := i_bd (l2 + (1 : Int32))
                    exact IH _ (by omega) _ ((l2 + (1 : Int32))) rfl hI (by omega) (show xB S R from by first | (exact (xC_o (W := 75) hi1).2)) (show aGw (aS 75 S) ((l2 + (1 : Int32))) = aGw ab 0 from by first | (exfalso; omega) | (have ty := xB_th (W := 75) hi1 rg_c1; have e4 := congrArg Int32.toInt ty.2.2.2.2.2.1; refine (aGw_n (by omega) (fun z => ?_)).symm.trans hi2; have z1 : mI S c1 8 ≠ 0 := (by rw [ty.2.2.2.2.2.2.2.1]; exact z.2.2.2.1); have z4 : (mI S 75 5).toInt ≤ (mI S c1 4).toInt := (by rw [e4]; exact z.2.2.2.2.1); have z6 : (mI S 77 (mI S c1 0).toNatClampNeg).toInt = 0 := (by rw [ty.2.2.1]; exact congrArg Int32.toInt z.2.2.2.2.2); first | omega | exact z1 (by assumption)))
theorem sp_83_69_75_s {X : Nat × (Nat → Int32)} {d w : Nat} {f : Nat → Nat → Int32} {r : Nat → Nat → Option Nat} {C Z N : Nat} {Q : Option ma_V ⊕ Nat → ma_S → Prop} {ab : Nat→Nat→Int32} {R : zRT} {S : ma_S}  (hd : 2 ≤ d) (hw : 49 ≤ w) (hI : zI f r C Z N S) (hpre0 : xB S R) (hpre1 : aS 75 S = ab) (K : ∀ S₉, zI f r C Z N S₉ → (xB S₉ R) → (aS 75 S₉ = aGw ab 0) → Q (.inl none) S₉) : ma_wp X d w 83 0 [(0, .inr (.inr (some 69))), (1, .inr (.inr (some 75)))] [] S Q := by
  refine g_83_69_75_s_0  (by omega) (by omega) (zG_T hI) ?_
  have li1 : (0 : Int32).toInt = 0 := rfl
  exact lp_83_69_75_s_2 (by omega) (by omega) K _ _ ((0 : Int32)) rfl hI (by omega) (show xB S R from by first | (exact (xC_o (W := 75) hpre0).2)) (show aGw (aS 75 S) ((0 : Int32)) = aGw ab 0 from by first | (rw [hpre1]) | (exfalso; omega))

/-! from 95.k11 -/
/-! the collectors that sweep, the class (written by wip/tools/gen20.py) -/
theorem g_86_69_75_s_0 {X : Nat × (Nat → Int32)} {d w : Nat} {S : ma_S} {Q : Option ma_V ⊕ Nat → ma_S → Prop}  (hd : 2 ≤ d) (hw : 48 ≤ w) (hS : zT S) (h : ma_wp X d w 86 7 [(0, .inr (.inr (some 69))), (1, .inr (.inr (some 75))), (2, .inl (mI S 69 11)), (3, .inl (0 : Int32))] [] S Q) : ma_wp X d w 86 0 [(0, .inr (.inr (some 69))), (1, .inr (.inr (some 75)))] [] S Q := by
  refine zw_push hm_86 dX7_removeOthers_0 (v := .inr (.inr (some 69))) rfl ?_
  refine zw_gf hm_86 dX7_removeOthers_1 (v := .inl (mI S 69 11)) (zT_is hS s_69) (zT_t hS s_69) rfl f_7_55_7 rfl ?_
  refine zw_sto hm_86 dX7_removeOthers_4 [(2, .inl (mI S 69 11)), (0, .inr (.inr (some 69))), (1, .inr (.inr (some 75)))] rfl rfl rfl ?_
  refine zw_push hm_86 dX7_removeOthers_5 (v := .inl (0 : Int32)) rfl ?_
  refine zw_sto hm_86 dX7_removeOthers_6 [(3, .inl (0 : Int32)), (2, .inl (mI S 69 11)), (0, .inr (.inr (some 69))), (1, .inr (.inr (some 75)))] rfl rfl rfl ?_
  exact zw_sub (ma_nd_of (ks := [0, 1, 2, 3]) rfl (by decide)) (ma_nd_of (ks := [3, 2, 0, 1]) rfl (by decide)) (ma_le_cons rfl (ma_le_cons rfl (ma_le_cons rfl (ma_le_cons rfl (ma_le_nil _))))) h
theorem g_86_69_75_s_7 {X : Nat × (Nat → Int32)} {d w : Nat} {S : ma_S} {Q : Option ma_V ⊕ Nat → ma_S → Prop} (l2 : Int32) (l3 : Int32) (hd : 2 ≤ d) (hw : 48 ≤ w) (hS : zT S) (h : if (mI S 69 6) ≤ l3 then (Q (.inl (some (.inl ((mI S 69 11) - l2)))) (ma_put S 69 9 (.inl ((mI S 69 9) + (1 : Int32))))) else (if l3 < 0 then (ma_wp X d w 86 7 [(0, .inr (.inr (some 69))), (1, .inr (.inr (some 75))), (2, .inl l2), (3, .inl (l3 + (1 : Int32)))] [] S Q) else (if (512 : Int32) ≤ l3 then (ma_wp X d w 86 7 [(0, .inr (.inr (some 69))), (1, .inr (.inr (some 75))), (2, .inl l2), (3, .inl (l3 + (1 : Int32)))] [] S Q) else ((0 ≤ l3 ∧ l3.toNatClampNeg < 512) ∧ (((mR S 70 l3.toNatClampNeg) = none → ma_wp X d w 86 7 [(0, .inr (.inr (some 69))), (1, .inr (.inr (some 75))), (2, .inl l2), (3, .inl (l3 + (1 : Int32)))] [] S Q) ∧ (∀ c1, (mR S 70 l3.toNatClampNeg) = some c1 → (126 ≤ c1 ∧ c1 < mN S) ∧ (if (mI S c1 4) < (mI S 75 5) then (ma_wp X d w 86 7 [(0, .inr (.inr (some 69))), (1, .inr (.inr (some 75))), (2, .inl l2), (3, .inl (l3 + (1 : Int32)))] [] S Q) else ((126 ≤ c1 ∧ c1 < mN S) ∧ (if (512 : Int32) ≤ (mI S c1 0) then (ma_wp X (d - 1) (w - 23) 87 0 [(0, .inr (.inr (some 69))), (1, .inr (.inr (some c1)))] [] S (zv (fun S2 => zT S2 ∧ (ma_wp X d w 86 7 [(0, .inr (.inr (some 69))), (1, .inr (.inr (some 75))), (2, .inl l2), (3, .inl (l3 + (1 : Int32)))] [] S2 Q)) (fun x S9 => Q (.inr x) S9))) else ((126 ≤ c1 ∧ c1 < mN S) ∧ ((0 ≤ (mI S c1 0) ∧ (mI S c1 0).toNatClampNeg < 512) ∧ (if (mI S 77 (mI S c1 0).toNatClampNeg) = 0 then (ma_wp X (d - 1) (w - 23) 87 0 [(0, .inr (.inr (some 69))), (1, .inr (.inr (some c1)))] [] S (zv (fun S4 => zT S4 ∧ (ma_wp X d w 86 7 [(0, .inr (.inr (some 69))), (1, .inr (.inr (some 75))), (2, .inl l2), (3, .inl (l3 + (1 : Int32)))] [] S4 Q)) (fun x S9 => Q (.inr x) S9))) else (ma_wp X d w 86 7 [(0, .inr (.inr (some 69))), (1, .inr (.inr (some 75))), (2, .inl l2), (3, .inl (l3 + (1 : Int32)))] [] S Q))))))))))))) : ma_wp X d w 86 7 [(0, .inr (.inr (some 69))), (1, .inr (.inr (some 75))), (2, .inl l2), (3, .inl l3)] [] S Q := by
  refine zw_push hm_86 dX7_removeOthers_7 (v := .inl l3) rfl ?_
  refine zw_push hm_86 dX7_removeOthers_8 (v := .inr (.inr (some 69))) rfl ?_
  refine zw_gf hm_86 dX7_removeOthers_9 (v := .inl (mI S 69 6)) (zT_is hS s_69) (zT_t hS s_69) rfl f_7_40_7 rfl ?_
  refine zw_if2 hm_86 dX7_removeOthers_12 (t := 48) rfl zc2_ge ?_ ?_
  · intro hc
    rw [if_pos hc] at h
    refine zw_push hm_86 dX7_removeOthers_48 (v := .inr (.inr (some 69))) rfl ?_
    refine zw_stk hm_86 dX7_removeOthers_49 (st₉ := [.inr (.inr (some 69)), .inr (.inr (some 69))]) rfl rfl ?_
    refine zw_gf hm_86 dX7_removeOthers_50 (v := .inl (mI S 69 9)) (zT_is hS s_69) (zT_t hS s_69) rfl f_7_49_7 rfl ?_
    refine zw_push hm_86 dX7_removeOthers_53 (v := .inl (1 : Int32)) rfl ?_
    refine zw_stk hm_86 dX7_removeOthers_54 (st₉ := [.inl ((mI S 69 9) + (1 : Int32)), .inr (.inr (some 69))]) rfl rfl ?_
    refine zw_pf hm_86 dX7_removeOthers_55 (zT_is hS s_69) (zT_t hS s_69) p_7_49_7 zk_int ?_
    refine zw_push hm_86 dX7_removeOthers_58 (v := .inr (.inr (some 69))) rfl ?_
    refine zw_gf hm_86 dX7_removeOthers_59 (v := .inl (mI S 69 11)) (zT_is (zT_pi hS) s_69) (zT_t (zT_pi hS) s_69) rfl f_7_55_7 rfl ?_
    refine zw_push hm_86 dX7_removeOthers_62 (v := .inl l2) rfl ?_
    refine zw_stk hm_86 dX7_removeOthers_63 (st₉ := [.inl ((mI S 69 11) - l2)]) rfl rfl ?_
    exact zw_iret hm_86 dX7_removeOthers_64 h
  · intro hc
    rw [if_neg hc] at h
    refine zw_push hm_86 dX7_removeOthers_15 (v := .inr (.inr (some 69))) rfl ?_
    refine zw_push hm_86 dX7_removeOthers_16 (v := .inl l3) rfl ?_
    refine zw_cv hm_86 dX7_removeOthers_17 v_7_94_7 hm_81 [.inl l3] [] rfl (zT_rt hS s_69 rfl) ⟨by omega, by omega⟩ rfl ?_
    show ma_wp X (d - 1) (w - 21) 81 0 [(0, .inr (.inr (some 69))), (1, .inl l3)] [] S _
    refine zw_push hm_81 dX7_thingAt_0 (v := .inl l3) rfl ?_
    refine zw_if0 hm_81 dX7_thingAt_1 (t := 20) rfl zc0_lt ?_ ?_
    · intro hc
      rw [if_pos hc] at h
      refine zw_push hm_81 dX7_thingAt_20 (v := .inr (.inr none)) rfl ?_
      refine zw_aret hm_81 dX7_thingAt_21 ?_
      show ma_wp X d w 86 20 [(0, .inr (.inr (some 69))), (1, .inr (.inr (some 75))), (2, .inl l2), (3, .inl l3)] [.inr (.inr none)] S _
      refine zw_sto hm_86 dX7_removeOthers_20 [(4, .inr (.inr none)), (0, .inr (.inr (some 69))), (1, .inr (.inr (some 75))), (2, .inl l2), (3, .inl l3)] rfl rfl rfl ?_
      refine zw_push hm_86 dX7_removeOthers_22 (v := .inr (.inr none)) rfl ?_
      refine zw_ifnull hm_86 dX7_removeOthers_24 (t := 42) rfl (fun _ => ?_) (fun _ z => by cases z)
      refine zw_sto hm_86 dX7_removeOthers_42 [(3, .inl (l3 + (1 : Int32))), (4, .inr (.inr none)), (0, .inr (.inr (some 69))), (1, .inr (.inr (some 75))), (2, .inl l2)] rfl rfl rfl ?_
      refine zw_goto hm_86 dX7_removeOthers_45 (t := 7) rfl ?_
      exact zw_sub (ma_nd_of (ks := [0, 1, 2, 3]) rfl (by decide)) (ma_nd_of (ks := [3, 4, 0, 1, 2]) rfl (by decide)) (ma_le_cons rfl (ma_le_cons rfl (ma_le_cons rfl (ma_le_cons rfl (ma_le_nil _))))) h
    · intro hc
      rw [if_neg hc] at h
      refine zw_push hm_81 dX7_thingAt_4 (v := .inl l3) rfl ?_
      refine zw_push hm_81 dX7_thingAt_5 (v := .inl (512 : Int32)) rfl ?_
      refine zw_if2 hm_81 dX7_thingAt_8 (t := 20) rfl zc2_ge ?_ ?_
      · intro hc
        rw [if_pos hc] at h
        refine zw_push hm_81 dX7_thingAt_20 (v := .inr (.inr none)) rfl ?_
        refine zw_aret hm_81 dX7_thingAt_21 ?_
        show ma_wp X d w 86 20 [(0, .inr (.inr (some 69))), (1, .inr (.inr (some 75))), (2, .inl l2), (3, .inl l3)] [.inr (.inr none)] S _
        refine zw_sto hm_86 dX7_removeOthers_20 [(4, .inr (.inr none)), (0, .inr (.inr (some 69))), (1, .inr (.inr (some 75))), (2, .inl l2), (3, .inl l3)] rfl rfl rfl ?_
        refine zw_push hm_86 dX7_removeOthers_22 (v := .inr (.inr none)) rfl ?_
        refine zw_ifnull hm_86 dX7_removeOthers_24 (t := 42) rfl (fun _ => ?_) (fun _ z => by cases z)
        refine zw_sto hm_86 dX7_removeOthers_42 [(3, .inl (l3 + (1 : Int32))), (4, .inr (.inr none)), (0, .inr (.inr (some 69))), (1, .inr (.inr (some 75))), (2, .inl l2)] rfl rfl rfl ?_
        refine zw_goto hm_86 dX7_removeOthers_45 (t := 7) rfl ?_
        exact zw_sub (ma_nd_of (ks := [0, 1, 2, 3]) rfl (by decide)) (ma_nd_of (ks := [3, 4, 0, 1, 2]) rfl (by decide)) (ma_le_cons rfl (ma_le_cons rfl (ma_le_cons rfl (ma_le_cons rfl (ma_le_nil _))))) h
      · intro hc
        rw [if_neg hc] at h
        refine zw_push hm_81 dX7_thingAt_11 (v := .inr (.inr (some 69))) rfl ?_
        refine zw_gf hm_81 dX7_thingAt_12 (v := .inr (.inr (some 70))) (zT_is hS s_69) (zT_t hS s_69) rfl f_7_11_7 (zT_f hS r_69_0) ?_
        refine zw_push hm_81 dX7_thingAt_15 (v := .inl l3) rfl ?_
        obtain ⟨hg, h⟩ := h
        refine zw_aa hm_81 dX7_thingAt_16 (zT_is hS s_70) (zT_h hS s_70) rfl rfl hg rfl ?_
        show ma_wp X (d - 1) (w - 21) 81 17 [(0, .inr (.inr (some 69))), (1, .inl l3)] [.inr (.inr (mR S 70 l3.toNatClampNeg))] S _
        refine zw_goto hm_81 dX7_thingAt_17 (t := 21) rfl ?_
        refine zw_aret hm_81 dX7_thingAt_21 ?_
        show ma_wp X d w 86 20 [(0, .inr (.inr (some 69))), (1, .inr (.inr (some 75))), (2, .inl l2), (3, .inl l3)] [.inr (.inr (mR S 70 l3.toNatClampNeg))] S _
        refine zw_sto hm_86 dX7_removeOthers_20 [(4, .inr (.inr (mR S 70 l3.toNatClampNeg))), (0, .inr (.inr (some 69))), (1, .inr (.inr (some 75))), (2, .inl l2), (3, .inl l3)] rfl rfl rfl ?_
        refine zw_push hm_86 dX7_removeOthers_22 (v := .inr (.inr (mR S 70 l3.toNatClampNeg))) rfl ?_
        refine zw_ifnull hm_86 dX7_removeOthers_24 (t := 42) rfl ?_ ?_
        · intro hc
          have h := h.1 hc
          (try rw [hc])
          show ma_wp X d w 86 42 [(4, .inr (.inr none)), (0, .inr (.inr (some 69))), (1, .inr (.inr (some 75))), (2, .inl l2), (3, .inl l3)] [] S _
          refine zw_sto hm_86 dX7_removeOthers_42 [(3, .inl (l3 + (1 : Int32))), (4, .inr (.inr none)), (0, .inr (.inr (some 69))), (1, .inr (.inr (some 75))), (2, .inl l2)] rfl rfl rfl ?_
          refine zw_goto hm_86 dX7_removeOthers_45 (t := 7) rfl ?_
          exact zw_sub (ma_nd_of (ks := [0, 1, 2, 3]) rfl (by decide)) (ma_nd_of (ks := [3, 4, 0, 1, 2]) rfl (by decide)) (ma_le_cons rfl (ma_le_cons rfl (ma_le_cons rfl (ma_le_cons rfl (ma_le_nil _))))) h
        · intro c1 hc
          have h := h.2 c1 hc
          (try rw [hc])
          show ma_wp X d w 86 27 [(4, .inr (.inr (some c1))), (0, .inr (.inr (some 69))), (1, .inr (.inr (some 75))), (2, .inl l2), (3, .inl l3)] [] S _
          refine zw_push hm_86 dX7_removeOthers_27 (v := .inr (.inr (some 75))) rfl ?_
          refine zw_push hm_86 dX7_removeOthers_28 (v := .inr (.inr (some c1))) rfl ?_
          refine zw_cv hm_86 dX7_removeOthers_30 v_7_128_10 hm_122 [.inr (.inr (some c1))] [] rfl (zT_rt hS s_75 rfl) ⟨by omega, by omega⟩ rfl ?_
          show ma_wp X (d - 1) (w - 21) 122 0 [(0, .inr (.inr (some 75))), (1, .inr (.inr (some c1)))] [] S _
          refine zw_push hm_122 dX10_keeps_0 (v := .inr (.inr (some c1))) rfl ?_
          obtain ⟨hg, h⟩ := h
          refine zw_gf hm_122 dX10_keeps_1 (v := .inl (mI S c1 4)) (zT_tis hS hg) (zT_tt hS hg) rfl f_10_49_9 rfl ?_
          refine zw_push hm_122 dX10_keeps_4 (v := .inr (.inr (some 75))) rfl ?_
          refine zw_gf hm_122 dX10_keeps_5 (v := .inl (mI S 75 5)) (zT_is hS s_75) (zT_t hS s_75) rfl f_10_35_10 rfl ?_
          refine zw_if2 hm_122 dX10_keeps_8 (t := 19) rfl zc2_lt ?_ ?_
          · intro hc
            rw [if_pos hc] at h
            refine zw_push hm_122 dX10_keeps_19 (v := .inl (1 : Int32)) rfl ?_
            refine zw_goto hm_122 dX10_keeps_20 (t := 24) rfl ?_
            refine zw_bret hm_122 dX10_keeps_24 (by decide) ?_
            show ma_wp X d w 86 33 [(4, .inr (.inr (some c1))), (0, .inr (.inr (some 69))), (1, .inr (.inr (some 75))), (2, .inl l2), (3, .inl l3)] [.inl (1 : Int32)] S _
            refine zw_if0 hm_86 dX7_removeOthers_33 (t := 42) rfl zc0_ne (fun _ => ?_) (fun hc => absurd (by decide) hc)
            refine zw_sto hm_86 dX7_removeOthers_42 [(3, .inl (l3 + (1 : Int32))), (4, .inr (.inr (some c1))), (0, .inr (.inr (some 69))), (1, .inr (.inr (some 75))), (2, .inl l2)] rfl rfl rfl ?_
            refine zw_goto hm_86 dX7_removeOthers_45 (t := 7) rfl ?_
            exact zw_sub (ma_nd_of (ks := [0, 1, 2, 3]) rfl (by decide)) (ma_nd_of (ks := [3, 4, 0, 1, 2]) rfl (by decide)) (ma_le_cons rfl (ma_le_cons rfl (ma_le_cons rfl (ma_le_cons rfl (ma_le_nil _))))) h
          · intro hc
            rw [if_neg hc] at h
            refine zw_push hm_122 dX10_keeps_11 (v := .inr (.inr (some 75))) rfl ?_
            refine zw_push hm_122 dX10_keeps_12 (v := .inr (.inr (some c1))) rfl ?_
            refine zw_cv hm_122 dX10_keeps_13 v_10_54_10 hm_123 [.inr (.inr (some c1))] [] rfl (zT_rt hS s_75 rfl) ⟨by omega, by omega⟩ rfl ?_
            show ma_wp X ((d - 1) - 1) ((w - 21) - 21) 123 0 [(0, .inr (.inr (some 75))), (1, .inr (.inr (some c1)))] [] S _
            refine zw_push hm_123 dX10_colourOf_0 (v := .inr (.inr (some c1))) rfl ?_
            obtain ⟨hg, h⟩ := h
            refine zw_gf hm_123 dX10_colourOf_1 (v := .inl (mI S c1 0)) (zT_tis hS hg) (zT_tt hS hg) rfl f_10_58_9 rfl ?_
            refine zw_push hm_123 dX10_colourOf_4 (v := .inl (512 : Int32)) rfl ?_
            refine zw_if2 hm_123 dX10_colourOf_7 (t := 22) rfl zc2_ge ?_ ?_
            · intro hc
              rw [if_pos hc] at h
              refine zw_push hm_123 dX10_colourOf_22 (v := .inl (0 : Int32)) rfl ?_
              refine zw_iret hm_123 dX10_colourOf_23 ?_
              show ma_wp X (d - 1) (w - 21) 122 16 [(0, .inr (.inr (some 75))), (1, .inr (.inr (some c1)))] [.inl (0 : Int32)] S _
              refine zw_if0 hm_122 dX10_keeps_16 (t := 23) rfl zc0_eq (fun _ => ?_) (fun hc => absurd (by decide) hc)
              refine zw_push hm_122 dX10_keeps_23 (v := .inl (0 : Int32)) rfl ?_
              refine zw_bret hm_122 dX10_keeps_24 (by decide) ?_
              show ma_wp X d w 86 33 [(4, .inr (.inr (some c1))), (0, .inr (.inr (some 69))), (1, .inr (.inr (some 75))), (2, .inl l2), (3, .inl l3)] [.inl (0 : Int32)] S _
              refine zw_if0 hm_86 dX7_removeOthers_33 (t := 42) rfl zc0_ne (fun hc => absurd hc (by decide)) (fun _ => ?_)
              refine zw_push hm_86 dX7_removeOthers_36 (v := .inr (.inr (some 69))) rfl ?_
              refine zw_push hm_86 dX7_removeOthers_37 (v := .inr (.inr (some c1))) rfl ?_
              refine zw_cv hm_86 dX7_removeOthers_39 v_7_144_7 hm_87 [.inr (.inr (some c1))] [] rfl (zT_rt hS s_69 rfl) ⟨by omega, by omega⟩ rfl (zw_mono h (zv_go ?_ ?_))
              · intro S2 hv
                obtain ⟨hS2, h⟩ := hv
                refine zw_sto hm_86 dX7_removeOthers_42 [(3, .inl (l3 + (1 : Int32))), (4, .inr (.inr (some c1))), (0, .inr (.inr (some 69))), (1, .inr (.inr (some 75))), (2, .inl l2)] rfl rfl rfl ?_
                refine zw_goto hm_86 dX7_removeOthers_45 (t := 7) rfl ?_
                exact zw_sub (ma_nd_of (ks := [0, 1, 2, 3]) rfl (by decide)) (ma_nd_of (ks := [3, 4, 0, 1, 2]) rfl (by decide)) (ma_le_cons rfl (ma_le_cons rfl (ma_le_cons rfl (ma_le_cons rfl (ma_le_nil _))))) h
              · intro x S9 hx
                exact ⟨by decide, hx⟩
            · intro hc
              rw [if_neg hc] at h
              refine zw_push hm_123 dX10_colourOf_10 (v := .inr (.inr (some 75))) rfl ?_
              refine zw_gf hm_123 dX10_colourOf_11 (v := .inr (.inr (some 77))) (zT_is hS s_75) (zT_t hS s_75) rfl f_10_15_10 (zT_f hS r_75_2) ?_
              refine zw_push hm_123 dX10_colourOf_14 (v := .inr (.inr (some c1))) rfl ?_
              obtain ⟨hg, h⟩ := h
              refine zw_gf hm_123 dX10_colourOf_15 (v := .inl (mI S c1 0)) (zT_tis hS hg) (zT_tt hS hg) rfl f_10_58_9 rfl ?_
              obtain ⟨hg, h⟩ := h
              refine zw_ia hm_123 dX10_colourOf_18 (zT_is hS s_77) (zT_h hS s_77) rfl hg ?_
              show ma_wp X ((d - 1) - 1) ((w - 21) - 21) 123 19 [(0, .inr (.inr (some 75))), (1, .inr (.inr (some c1)))] [.inl (mI S 77 (mI S c1 0).toNatClampNeg)] S _
              refine zw_goto hm_123 dX10_colourOf_19 (t := 23) rfl ?_
              refine zw_iret hm_123 dX10_colourOf_23 ?_
              show ma_wp X (d - 1) (w - 21) 122 16 [(0, .inr (.inr (some 75))), (1, .inr (.inr (some c1)))] [.inl (mI S 77 (mI S c1 0).toNatClampNeg)] S _
              refine zw_if0 hm_122 dX10_keeps_16 (t := 23) rfl zc0_eq ?_ ?_
              · intro hc
                rw [if_pos hc] at h
                refine zw_push hm_122 dX10_keeps_23 (v := .inl (0 : Int32)) rfl ?_
                refine zw_bret hm_122 dX10_keeps_24 (by decide) ?_
                show ma_wp X d w 86 33 [(4, .inr (.inr (some c1))), (0, .inr (.inr (some 69))), (1, .inr (.inr (some 75))), (2, .inl l2), (3, .inl l3)] [.inl (0 : Int32)] S _
                refine zw_if0 hm_86 dX7_removeOthers_33 (t := 42) rfl zc0_ne (fun hc => absurd hc (by decide)) (fun _ => ?_)
                refine zw_push hm_86 dX7_removeOthers_36 (v := .inr (.inr (some 69))) rfl ?_
                refine zw_push hm_86 dX7_removeOthers_37 (v := .inr (.inr (some c1))) rfl ?_
                refine zw_cv hm_86 dX7_removeOthers_39 v_7_144_7 hm_87 [.inr (.inr (some c1))] [] rfl (zT_rt hS s_69 rfl) ⟨by omega, by omega⟩ rfl (zw_mono h (zv_go ?_ ?_))
                · intro S4 hv
                  obtain ⟨hS4, h⟩ := hv
                  refine zw_sto hm_86 dX7_removeOthers_42 [(3, .inl (l3 + (1 : Int32))), (4, .inr (.inr (some c1))), (0, .inr (.inr (some 69))), (1, .inr (.inr (some 75))), (2, .inl l2)] rfl rfl rfl ?_
                  refine zw_goto hm_86 dX7_removeOthers_45 (t := 7) rfl ?_
                  exact zw_sub (ma_nd_of (ks := [0, 1, 2, 3]) rfl (by decide)) (ma_nd_of (ks := [3, 4, 0, 1, 2]) rfl (by decide)) (ma_le_cons rfl (ma_le_cons rfl (ma_le_cons rfl (ma_le_cons rfl (ma_le_nil _))))) h
                · intro x S9 hx
                  exact ⟨by decide, hx⟩
              · intro hc
                rw [if_neg hc] at h
                refine zw_push hm_122 dX10_keeps_19 (v := .inl (1 : Int32)) rfl ?_
                refine zw_goto hm_122 dX10_keeps_20 (t := 24) rfl ?_
                refine zw_bret hm_122 dX10_keeps_24 (by decide) ?_
                show ma_wp X d w 86 33 [(4, .inr (.inr (some c1))), (0, .inr (.inr (some 69))), (1, .inr (.inr (some 75))), (2, .inl l2), (3, .inl l3)] [.inl (1 : Int32)] S _
                refine zw_if0 hm_86 dX7_removeOthers_33 (t := 42) rfl zc0_ne (fun _ => ?_) (fun hc => absurd (by decide) hc)
                refine zw_sto hm_86 dX7_removeOthers_42 [(3, .inl (l3 + (1 : Int32))), (4, .inr (.inr (some c1))), (0, .inr (.inr (some 69))), (1, .inr (.inr (some 75))), (2, .inl l2)] rfl rfl rfl ?_
                refine zw_goto hm_86 dX7_removeOthers_45 (t := 7) rfl ?_
                exact zw_sub (ma_nd_of (ks := [0, 1, 2, 3]) rfl (by decide)) (ma_nd_of (ks := [3, 4, 0, 1, 2]) rfl (by decide)) (ma_le_cons rfl (ma_le_cons rfl (ma_le_cons rfl (ma_le_cons rfl (ma_le_nil _))))) h
theorem lp_86_69_75_s_7 {X : Nat × (Nat → Int32)} {d w : Nat} {f : Nat → Nat → Int32} {r : Nat → Nat → Option Nat} {C Z N : Nat} {Q : Option ma_V ⊕ Nat → ma_S → Prop} {ab : Nat→Nat→Int32} (hd : 2 ≤ d) (hw : 48 ≤ w) (K : ∀ v S₉, zI f r C Z N S₉ → (True) → (xB S₉ (mR S₉ 70)) → (aS 75 S₉ = aMv ab 0 ∧ v = aMv ab 0 69 11 - ab 69 11) → Q (.inl (some (.inl v))) S₉) : ∀ (n : Nat) (S : ma_S) (l2 : Int32) (l3 : Int32), (512 - l3.toInt).toNat = n → zI f r C Z N S → (0 ≤ l3.toInt) → (xB S (mR S 70)) → (aMv (aS 75 S) l3 = aMv ab 0) → (l2 = ab 69 11) → ma_wp X d w 86 7 [(0, .inr (.inr (some 69))), (1, .inr (.inr (some 75))), (2, .inl l2), (3, .inl l3)] [] S Q := by
  intro n
  induction n using Nat.strongRecOn with
  | _ n IH =>
    intro S l2 l3 hmu hI  hi0 hi1 hi2 hi3
    refine g_86_69_75_s_7 l2 l3 (by omega) (by omega) (zG_T hI) ?_
    have r6 := congrArg Int32.toInt (aS_I (W := 75) (S := S) (c := 69) (c₉ := 69) (k := 6) rfl rfl)
    have f1 := zG_s hI (0) (512) (c := 69) (k := 6) (by decide)
    have b2 := i_bd l3
    refine zd (fun h3 => ?_) (fun h3 => ?_)
    · skip
      have g4 := i_le h3
      have hI5 : zI f r C Z N (ma_put S 69 9 (.inl ((mI S 69 9) + (1 : Int32)))) := zG_fr hI rfl (by decide) (by decide) (by decide) trivial
      have b6 := i_bd (mI S 69 11)
      have b7 := i_bd l2
      first | have e8 : ((mI S 69 11) - l2).toInt = (mI S 69 11).toInt - l2.toInt := i_sub (by omega) (by omega) | have b9 := i_bd ((mI S 69 11) - l2)
      exact K (((mI S 69 11) - l2)) _ hI5 trivial (show xB (ma_put S 69 9 (.inl ((mI S 69 9) + (1 : Int32)))) (mR (ma_put S 69 9 (.inl ((mI S 69 9) + (1 : Int32)))) 70) from by first | (exact xB_x (xC_n (c := 69) (k := 9) (x := ((mI S 69 9) + (1 : Int32))) (xC_o (W := 75) hi1) ⟨by decide, Or.inl ⟨rfl, rfl⟩⟩).2)) (show aS 75 (ma_put S 69 9 (.inl ((mI S 69 9) + (1 : Int32)))) = aMv ab 0 ∧ ((mI S 69 11) - l2) = aMv ab 0 69 11 - ab 69 11 from by first | (have z := (xC_n (c := 69) (k := 9) (x := ((mI S 69 9) + (1 : Int32))) (xC_o (W := 75) hi1) ⟨by decide, Or.inl ⟨rfl, rfl⟩⟩).1; exact ⟨z.trans ((aMv_st (by omega)).symm.trans hi2), (by rw [← hi3, ← hi2, aMv_st (by omega), (aS_I (W := 75) (S := S) (c := 69) (c₉ := 69) (k := 11) rfl rfl)])⟩))
    · skip
      have g10 := i_nle h3
      have li11 : (0 : Int32).toInt = 0 := rfl
      refine zd (fun h12 => ?_) (fun h12 => ?_)
      · skip
        have g13 := i_lt h12
        have b14 := i_bd l2
        first | have e15 : (l3 + (1 : Int32)).toInt = l3.toInt + (1) := i_addk rfl (by omega) (by omega) | have b16 := i_bd (l3 + (1 : Int32))
        exact IH _ (by omega) _ (l2) ((l3 + (1 : Int32))) rfl hI (by omega) (show xB S (mR S 70) from by first | (exact xB_x (xC_o (W := 75) hi1).2)) (show aMv (aS 75 S) ((l3 + (1 : Int32))) = aMv ab 0 from by first | (exfalso; omega) | (exact (aMv_n (by omega) (fun z => by omega)).symm.trans hi2)) (show (l2) = ab 69 11 from by first | (exact hi3))
      · skip
        have g17 := i_nlt h12
        have li18 : (512 : Int32).toInt = 512 := rfl
        refine zd (fun h19 => ?_) (fun h19 => ?_)
        · skip
          have g20 := i_le h19
          have b21 := i_bd l2
          first | have e22 : (l3 + (1 : Int32)).toInt = l3.toInt + (1) := i_addk rfl (by omega) (by omega) | have b23 := i_bd (l3 + (1 : Int32))
          exact IH _ (by omega) _ (l2) ((l3 + (1 : Int32))) rfl hI (by omega) (show xB S (mR S 70) from by first | (exact xB_x (xC_o (W := 75) hi1).2)) (show aMv (aS 75 S) ((l3 + (1 : Int32))) = aMv ab 0 from by first | (exfalso; omega) | (exact (aMv_n (by omega) (fun z => by omega)).symm.trans hi2)) (show (l2) = ab 69 11 from by first | (exact hi3))
        · skip
          have g24 := i_nle h19
          refine ⟨i_ix (by omega) (by omega), ?_⟩
          refine ⟨fun hc => ?_, fun c1 hc => ?_⟩
          · skip
            have rn_c1 : zTa (mR S 70) l3 = none := (ta_rd (y := l3) hi1 (by omega) (by omega)).symm.trans hc
            have b25 := i_bd l2
            first | have e26 : (l3 + (1 : Int32)).toInt = l3.toInt + (1) := i_addk rfl (by omega) (by omega) | have b27 := i_bd (l3 + (1 : Int32))
            exact IH _ (by omega) _ (l2) ((l3 + (1 : Int32))) rfl hI (by omega) (show xB S (mR S 70) from by first | (exact xB_x (xC_o (W := 75) hi1).2)) (show aMv (aS 75 S) ((l3 + (1 : Int32))) = aMv ab 0 from by first | (exfalso; omega) | (exact (aMv_n (by omega) (fun z => xB_nt (W := 75) hi1 rn_c1 ⟨z.1, z.2.1, z.2.2.1⟩)).symm.trans hi2)) (show (l2) = ab 69 11 from by first | (exact hi3))
          · skip
            have th_c1 := (fun _ z => zG_70 hI (c := 70) (by decide) z) c1 hc
            have rg_c1 : zTa (mR S 70) l3 = some c1 := (ta_rd (y := l3) hi1 (by omega) (by omega)).symm.trans hc
            refine ⟨zG_n hI th_c1, ?_⟩
            have f28 := zG_th hI th_c1
            have b29 := i_bd (mI S 75 5)
            refine zd (fun h30 => ?_) (fun h30 => ?_)
            · skip
              have g31 := i_lt h30
              have b32 := i_bd l2
              first | have e33 : (l3 + (1 : Int32)).toInt = l3.toInt + (1) := i_addk rfl (by omega) (by omega) | have b34 := i_bd (l3 + (1 : Int32))
              exact IH _ (by omega) _ (l2) ((l3 + (1 : Int32))) rfl hI (by omega) (show xB S (mR S 70) from by first | (exact xB_x (xC_o (W := 75) hi1).2)) (show aMv (aS 75 S) ((l3 + (1 : Int32))) = aMv ab 0 from by first | (exfalso; omega) | (have ty := xB_th (W := 75) hi1 rg_c1; have e4 := congrArg Int32.toInt ty.2.2.2.2.2.1; refine (aMv_n (by omega) (fun z => ?_)).symm.trans hi2; have z4 : (mI S 75 5).toInt ≤ (mI S c1 4).toInt := (by rw [e4]; exact z.2.2.2.1); have z6 : (mI S 77 (mI S c1 0).toNatClampNeg).toInt = 0 := (by rw [ty.2.2.1]; exact congrArg Int32.toInt z.2.2.2.2); omega)) (show (l2) = ab 69 11 from by first | (exact hi3))
            · skip
              have g35 := i_nlt h30
              refine ⟨zG_n hI th_c1, ?_⟩
              have f36 := zG_th hI th_c1
              refine zd (fun h37 => ?_) (fun h37 => ?_)
              · skip
                have g38 := i_le h37
                refine sp_87_69_s (ab := (aS 75 S)) (R := (mR S 70)) (W := 75) (y := l3) c1 (by omega) (by omega) hI th_c1 (show xB S (mR S 70) from by first | (exact xB_x (xC_o (W := 75) hi1).2)) (show aS 75 S = (aS 75 S) from by first | (exact rfl)) (show xW 75 from by first | (exact xW88) | (exact xW75)) (show zTa (mR S 70) l3 = some c1 from by first | (exact rg_c1)) (fun S2 hI_S2 rp0_S2 rp1_S2 => zv_n ⟨zG_T hI_S2, ?_⟩)
                have rp0_S2 : xB S2 (zRu (mR S 70) l3.toNatClampNeg none) := rp0_S2
                have rp1_S2 : aS 75 S2 = aRm (aS 75 S) l3 := rp1_S2
                have b39 := i_bd l2
                first | have e40 : (l3 + (1 : Int32)).toInt = l3.toInt + (1) := i_addk rfl (by omega) (by omega) | have b41 := i_bd (l3 + (1 : Int32))
                exact IH _ (by omega) _ (l2) ((l3 + (1 : Int32))) rfl hI_S2 (by omega) (show xB S2 (mR S2 70) from by first | (exact xB_x (xC_o (W := 75) rp0_S2).2)) (show aMv (aS 75 S2) ((l3 + (1 : Int32))) = aMv ab 0 from by first | (exfalso; omega) | (have ty := xB_th (W := 75) hi1 rg_c1; have e4 := congrArg Int32.toInt ty.2.2.2.2.2.1; rw [rp1_S2]; refine (aMv_y (by omega) ⟨ty.1, ty.2.1, (by rw [ty.2.2.2.2.2.2.2.2]; decide), ?_, ?_⟩).symm.trans hi2; (show (mI S 75 5).toInt ≤ _; rw [← e4]; omega); (show mI S 77 _ = 0; rw [← ty.2.2.1]; assumption))) (show (l2) = ab 69 11 from by first | (exact hi3))
              · skip
                have g42 := i_nle h37
                refine ⟨zG_n hI th_c1, ?_⟩
                refine ⟨i_ix (by omega) (by omega), ?_⟩
                have b43 := i_bd (mI S 77 (mI S c1 0).toNatClampNeg)
                refine zd (fun h44 => ?_) (fun h44 => ?_)
                · skip
                  have g45 := i_eq h44
                  refine sp_87_69_s (ab := (aS 75 S)) (R := (mR S 70)) (W := 75) (y := l3) c1 (by omega) (by omega) hI th_c1 (show xB S (mR S 70) from by first | (exact xB_x (xC_o (W := 75) hi1).2)) (show aS 75 S = (aS 75 S) from by first | (exact rfl)) (show xW 75 from by first | (exact xW88) | (exact xW75)) (show zTa (mR S 70) l3 = some c1 from by first | (exact rg_c1)) (fun S4 hI_S4 rp0_S4 rp1_S4 => zv_n ⟨zG_T hI_S4, ?_⟩)
                  have rp0_S4 : xB S4 (zRu (mR S 70) l3.toNatClampNeg none) := rp0_S4
                  have rp1_S4 : aS 75 S4 = aRm (aS 75 S) l3 := rp1_S4
                  have b46 := i_bd l2
                  first | have e47 : (l3 + (1 : Int32)).toInt = l3.toInt + (1) := i_addk rfl (by omega) (by omega) | have b48 := i_bd (l3 + (1 : Int32))
                  exact IH _ (by omega) _ (l2) ((l3 + (1 : Int32))) rfl hI_S4 (by omega) (show xB S4 (mR S4 70) from by first | (exact xB_x (xC_o (W := 75) rp0_S4).2)) (show aMv (aS 75 S4) ((l3 + (1 : Int32))) = aMv ab 0 from by first | (exfalso; omega) | (have ty := xB_th (W := 75) hi1 rg_c1; have e4 := congrArg Int32.toInt ty.2.2.2.2.2.1; rw [rp1_S4]; refine (aMv_y (by omega) ⟨ty.1, ty.2.1, (by rw [ty.2.2.2.2.2.2.2.2]; decide), ?_, ?_⟩).symm.trans hi2; (show (mI S 75 5).toInt ≤ _; rw [← e4]; omega); (show mI S 77 _ = 0; rw [← ty.2.2.1]; assumption))) (show (l2) = ab 69 11 from by first | (exact hi3))
                · skip
                  have g49 := i_ne h44
                  have b50 := i_bd l2
                  first | have e51 : (l3 + (1 : Int32)).toInt = l3.toInt + (1) := i_addk rfl (by omega) (by omega) | have b52 := i_bd (l3 + (1 : Int32))
                  exact IH _ (by omega) _ (l2) ((l3 + (1 : Int32))) rfl hI (by omega) (show xB S (mR S 70) from by first | (exact xB_x (xC_o (W := 75) hi1).2)) (show aMv (aS 75 S) ((l3 + (1 : Int32))) = aMv ab 0 from by first | (exfalso; omega) | (have ty := xB_th (W := 75) hi1 rg_c1; have e4 := congrArg Int32.toInt ty.2.2.2.2.2.1; refine (aMv_n (by omega) (fun z => ?_)).symm.trans hi2; have z4 : (mI S 75 5).toInt ≤ (mI S c1 4).toInt := (by rw [e4]; exact z.2.2.2.1); have z6 : (mI S 77 (mI S c1 0).toNatClampNeg).toInt = 0 := (by rw [ty.2.2.1]; exact congrArg Int32.toInt z.2.2.2.2); omega)) (show (l2) = ab 69 11 from by first | (exact hi3))
theorem sp_86_69_75_s {X : Nat × (Nat → Int32)} {d w : Nat} {f : Nat → Nat → Int32} {r : Nat → Nat → Option Nat} {C Z N : Nat} {Q : Option ma_V ⊕ Nat → ma_S → Prop} {ab : Nat→Nat→Int32} {S : ma_S}  (hd : 2 ≤ d) (hw : 48 ≤ w) (hI : zI f r C Z N S) (hpre0 : xB S (mR S 70)) (hpre1 : aS 75 S = ab) (K : ∀ v S₉, zI f r C Z N S₉ → (True) → (xB S₉ (mR S₉ 70)) → (aS 75 S₉ = aMv ab 0 ∧ v = aMv ab 0 69 11 - ab 69 11) → Q (.inl (some (.inl v))) S₉) : ma_wp X d w 86 0 [(0, .inr (.inr (some 69))), (1, .inr (.inr (some 75)))] [] S Q := by
  refine g_86_69_75_s_0  (by omega) (by omega) (zG_T hI) ?_
  have b1 := i_bd (mI S 69 11)
  have li2 : (0 : Int32).toInt = 0 := rfl
  exact lp_86_69_75_s_7 (by omega) (by omega) K _ _ ((mI S 69 11)) ((0 : Int32)) rfl hI (by omega) (show xB S (mR S 70) from by first | (exact xB_x (xC_o (W := 75) hpre0).2)) (show aMv (aS 75 S) ((0 : Int32)) = aMv ab 0 from by first | (rw [hpre1]) | (exfalso; omega)) (show ((mI S 69 11)) = ab 69 11 from by first | (rw [← hpre1, (aS_I (W := 75) (S := S) (c := 69) (c₉ := 69) (k := 11) rfl rfl)]))
/-! what is not reached goes -/
def aSw (a : Nat → Nat → Int32) : Nat → Nat → Int32 := aMv (aGw (aRA a) 0) 0
def aSv (a : Nat → Nat → Int32) : Int32 := aSw a 69 11 - aGw (aRA a) 0 69 11

/-! from 95.k12 -/
/-! the collectors that sweep, the class (written by wip/tools/gen20.py) -/
theorem g_264_79_s_0 {X : Nat × (Nat → Int32)} {d w : Nat} {S : ma_S} {Q : Option ma_V ⊕ Nat → ma_S → Prop}  (hd : 3 ≤ d) (hw : 72 ≤ w) (hS : zT S) (h : ma_wp X (d - 1) (w - 20) 116 0 [(0, .inr (.inr (some 75)))] [] S (zv (fun S1 => zT S1 ∧ (ma_wp X (d - 1) (w - 23) 83 0 [(0, .inr (.inr (some 69))), (1, .inr (.inr (some 75)))] [] S1 (zv (fun S3 => zT S3 ∧ (ma_wp X (d - 1) (w - 24) 86 0 [(0, .inr (.inr (some 69))), (1, .inr (.inr (some 75)))] [] S3 (zi (fun v6 S5 => zT S5 ∧ (Q (.inl (some (.inl v6))) S5)) (fun x S9 => Q (.inr x) S9)))) (fun x S9 => Q (.inr x) S9)))) (fun x S9 => Q (.inr x) S9))) : ma_wp X d w 264 0 [(0, .inr (.inr (some 79)))] [] S Q := by
  refine zw_push hm_264 dX1_removeUnreached_0 (v := .inr (.inr (some 79))) rfl ?_
  refine zw_gf hm_264 dX1_removeUnreached_1 (v := .inr (.inr (some 75))) (zT_is hS s_79) (zT_t hS s_79) rfl f_13_15_8 (zT_f hS r_79_1) ?_
  refine zw_cv hm_264 dX1_removeUnreached_4 v_13_19_10 hm_116 [] [] rfl (zT_rt hS s_75 rfl) ⟨by omega, by omega⟩ rfl (zw_mono h (zv_go ?_ ?_))
  · intro S1 hv
    obtain ⟨hS1, h⟩ := hv
    refine zw_push hm_264 dX1_removeUnreached_7 (v := .inr (.inr (some 79))) rfl ?_
    refine zw_gf hm_264 dX1_removeUnreached_8 (v := .inr (.inr (some 69))) (zT_is hS1 s_79) (zT_t hS1 s_79) rfl f_13_9_8 (zT_f hS1 r_79_0) ?_
    refine zw_push hm_264 dX1_removeUnreached_11 (v := .inr (.inr (some 79))) rfl ?_
    refine zw_gf hm_264 dX1_removeUnreached_12 (v := .inr (.inr (some 75))) (zT_is hS1 s_79) (zT_t hS1 s_79) rfl f_13_15_8 (zT_f hS1 r_79_1) ?_
    refine zw_cv hm_264 dX1_removeUnreached_15 v_13_24_7 hm_83 [.inr (.inr (some 75))] [] rfl (zT_rt hS1 s_69 rfl) ⟨by omega, by omega⟩ rfl (zw_mono h (zv_go ?_ ?_))
    · intro S3 hv
      obtain ⟨hS3, h⟩ := hv
      refine zw_push hm_264 dX1_removeUnreached_18 (v := .inr (.inr (some 79))) rfl ?_
      refine zw_gf hm_264 dX1_removeUnreached_19 (v := .inr (.inr (some 69))) (zT_is hS3 s_79) (zT_t hS3 s_79) rfl f_13_9_8 (zT_f hS3 r_79_0) ?_
      refine zw_push hm_264 dX1_removeUnreached_22 (v := .inr (.inr (some 79))) rfl ?_
      refine zw_gf hm_264 dX1_removeUnreached_23 (v := .inr (.inr (some 75))) (zT_is hS3 s_79) (zT_t hS3 s_79) rfl f_13_15_8 (zT_f hS3 r_79_1) ?_
      refine zw_cv hm_264 dX1_removeUnreached_26 v_13_30_7 hm_86 [.inr (.inr (some 75))] [] rfl (zT_rt hS3 s_69 rfl) ⟨by omega, by omega⟩ rfl (zw_mono h (zi_go ?_ ?_))
      · intro v6 S5 hv
        obtain ⟨hS5, h⟩ := hv
        exact zw_iret hm_264 dX1_removeUnreached_29 h
      · intro x S9 hx
        exact ⟨by decide, hx⟩
    · intro x S9 hx
      exact ⟨by decide, hx⟩
  · intro x S9 hx
    exact ⟨by decide, hx⟩
theorem sp_264_79_s {X : Nat × (Nat → Int32)} {d w : Nat} {f : Nat → Nat → Int32} {r : Nat → Nat → Option Nat} {C Z N : Nat} {Q : Option ma_V ⊕ Nat → ma_S → Prop} {ab : Nat→Nat→Int32} {S : ma_S}  (hd : 3 ≤ d) (hw : 72 ≤ w) (hI : zI f r C Z N S) (hpre0 : xB S (mR S 70)) (hpre1 : aS 75 S = ab) (K : ∀ v S₉, zI f r C Z N S₉ → (True) → (xB S₉ (mR S₉ 70)) → (aS 75 S₉ = aSw ab ∧ v = aSv ab) → Q (.inl (some (.inl v))) S₉) : ma_wp X d w 264 0 [(0, .inr (.inr (some 79)))] [] S Q := by
  refine g_264_79_s_0  (by omega) (by omega) (zG_T hI) ?_
  refine sp_116_75_s (ab := (aS 75 S)) (R := (mR S 70)) (a8 := (aS 88 S)) (by omega) (by omega) hI (show xB S (mR S 70) from by first | (exact xB_x (xC_o (W := 75) hpre0).2)) (show aS 75 S = (aS 75 S) from by first | (exact rfl)) (show aS 88 S = (aS 88 S) from by first | (exact rfl)) (fun S1 hI_S1 rp0_S1 rp1_S1 rp2_S1 => zv_n ⟨zG_T hI_S1, ?_⟩)
  have rp0_S1 : xB S1 (mR S 70) := rp0_S1
  have rp1_S1 : aS 75 S1 = aSp 512 (aRo (aWh (aS 75 S) 0) 0) := rp1_S1
  have rp2_S1 : aS 88 S1 = (aS 88 S) := rp2_S1
  refine sp_83_69_75_s (ab := (aS 75 S1)) (R := (mR S1 70)) (by omega) (by omega) hI_S1 (show xB S1 (mR S1 70) from by first | (exact xB_x (xC_o (W := 75) rp0_S1).2)) (show aS 75 S1 = (aS 75 S1) from by first | (exact rfl)) (fun S3 hI_S3 rp0_S3 rp1_S3 => zv_n ⟨zG_T hI_S3, ?_⟩)
  have rp0_S3 : xB S3 (mR S1 70) := rp0_S3
  have rp1_S3 : aS 75 S3 = aGw (aS 75 S1) 0 := rp1_S3
  refine sp_86_69_75_s (ab := (aS 75 S3)) (by omega) (by omega) hI_S3 (show xB S3 (mR S3 70) from by first | (exact xB_x (xC_o (W := 75) rp0_S3).2)) (show aS 75 S3 = (aS 75 S3) from by first | (exact rfl)) (fun v6 S5 hI_S5 hp_v6 rp0_S5 rp1_S5 => zi_n ⟨zG_T hI_S5, ?_⟩)
  have rp0_S5 : xB S5 (mR S5 70) := rp0_S5
  have rp1_S5 : aS 75 S5 = aMv (aS 75 S3) 0 ∧ v6 = aMv (aS 75 S3) 0 69 11 - (aS 75 S3) 69 11 := rp1_S5
  have b1 := i_bd v6
  exact K (v6) _ hI_S5 trivial (show xB S5 (mR S5 70) from by first | (exact xB_x (xC_o (W := 75) rp0_S5).2)) (show aS 75 S5 = aSw ab ∧ v6 = aSv ab from by first | (have z := rp1_S5; rw [rp1_S3, rp1_S1, hpre1] at z; exact z))
theorem g_264_80_s_0 {X : Nat × (Nat → Int32)} {d w : Nat} {S : ma_S} {Q : Option ma_V ⊕ Nat → ma_S → Prop}  (hd : 3 ≤ d) (hw : 72 ≤ w) (hS : zT S) (h : ma_wp X (d - 1) (w - 20) 116 0 [(0, .inr (.inr (some 75)))] [] S (zv (fun S1 => zT S1 ∧ (ma_wp X (d - 1) (w - 23) 83 0 [(0, .inr (.inr (some 69))), (1, .inr (.inr (some 75)))] [] S1 (zv (fun S3 => zT S3 ∧ (ma_wp X (d - 1) (w - 24) 86 0 [(0, .inr (.inr (some 69))), (1, .inr (.inr (some 75)))] [] S3 (zi (fun v6 S5 => zT S5 ∧ (Q (.inl (some (.inl v6))) S5)) (fun x S9 => Q (.inr x) S9)))) (fun x S9 => Q (.inr x) S9)))) (fun x S9 => Q (.inr x) S9))) : ma_wp X d w 264 0 [(0, .inr (.inr (some 80)))] [] S Q := by
  refine zw_push hm_264 dX1_removeUnreached_0 (v := .inr (.inr (some 80))) rfl ?_
  refine zw_gf hm_264 dX1_removeUnreached_1 (v := .inr (.inr (some 75))) (zT_is hS s_80) (zT_t hS s_80) rfl f_13_15_5 (zT_f hS r_80_1) ?_
  refine zw_cv hm_264 dX1_removeUnreached_4 v_13_19_10 hm_116 [] [] rfl (zT_rt hS s_75 rfl) ⟨by omega, by omega⟩ rfl (zw_mono h (zv_go ?_ ?_))
  · intro S1 hv
    obtain ⟨hS1, h⟩ := hv
    refine zw_push hm_264 dX1_removeUnreached_7 (v := .inr (.inr (some 80))) rfl ?_
    refine zw_gf hm_264 dX1_removeUnreached_8 (v := .inr (.inr (some 69))) (zT_is hS1 s_80) (zT_t hS1 s_80) rfl f_13_9_5 (zT_f hS1 r_80_0) ?_
    refine zw_push hm_264 dX1_removeUnreached_11 (v := .inr (.inr (some 80))) rfl ?_
    refine zw_gf hm_264 dX1_removeUnreached_12 (v := .inr (.inr (some 75))) (zT_is hS1 s_80) (zT_t hS1 s_80) rfl f_13_15_5 (zT_f hS1 r_80_1) ?_
    refine zw_cv hm_264 dX1_removeUnreached_15 v_13_24_7 hm_83 [.inr (.inr (some 75))] [] rfl (zT_rt hS1 s_69 rfl) ⟨by omega, by omega⟩ rfl (zw_mono h (zv_go ?_ ?_))
    · intro S3 hv
      obtain ⟨hS3, h⟩ := hv
      refine zw_push hm_264 dX1_removeUnreached_18 (v := .inr (.inr (some 80))) rfl ?_
      refine zw_gf hm_264 dX1_removeUnreached_19 (v := .inr (.inr (some 69))) (zT_is hS3 s_80) (zT_t hS3 s_80) rfl f_13_9_5 (zT_f hS3 r_80_0) ?_
      refine zw_push hm_264 dX1_removeUnreached_22 (v := .inr (.inr (some 80))) rfl ?_
      refine zw_gf hm_264 dX1_removeUnreached_23 (v := .inr (.inr (some 75))) (zT_is hS3 s_80) (zT_t hS3 s_80) rfl f_13_15_5 (zT_f hS3 r_80_1) ?_
      refine zw_cv hm_264 dX1_removeUnreached_26 v_13_30_7 hm_86 [.inr (.inr (some 75))] [] rfl (zT_rt hS3 s_69 rfl) ⟨by omega, by omega⟩ rfl (zw_mono h (zi_go ?_ ?_))
      · intro v6 S5 hv
        obtain ⟨hS5, h⟩ := hv
        exact zw_iret hm_264 dX1_removeUnreached_29 h
      · intro x S9 hx
        exact ⟨by decide, hx⟩
    · intro x S9 hx
      exact ⟨by decide, hx⟩
  · intro x S9 hx
    exact ⟨by decide, hx⟩
theorem sp_264_80_s {X : Nat × (Nat → Int32)} {d w : Nat} {f : Nat → Nat → Int32} {r : Nat → Nat → Option Nat} {C Z N : Nat} {Q : Option ma_V ⊕ Nat → ma_S → Prop} {ab : Nat→Nat→Int32} {S : ma_S}  (hd : 3 ≤ d) (hw : 72 ≤ w) (hI : zI f r C Z N S) (hpre0 : xB S (mR S 70)) (hpre1 : aS 75 S = ab) (K : ∀ v S₉, zI f r C Z N S₉ → (True) → (xB S₉ (mR S₉ 70)) → (aS 75 S₉ = aSw ab ∧ v = aSv ab) → Q (.inl (some (.inl v))) S₉) : ma_wp X d w 264 0 [(0, .inr (.inr (some 80)))] [] S Q := by
  refine g_264_80_s_0  (by omega) (by omega) (zG_T hI) ?_
  refine sp_116_75_s (ab := (aS 75 S)) (R := (mR S 70)) (a8 := (aS 88 S)) (by omega) (by omega) hI (show xB S (mR S 70) from by first | (exact xB_x (xC_o (W := 75) hpre0).2)) (show aS 75 S = (aS 75 S) from by first | (exact rfl)) (show aS 88 S = (aS 88 S) from by first | (exact rfl)) (fun S1 hI_S1 rp0_S1 rp1_S1 rp2_S1 => zv_n ⟨zG_T hI_S1, ?_⟩)
  have rp0_S1 : xB S1 (mR S 70) := rp0_S1
  have rp1_S1 : aS 75 S1 = aSp 512 (aRo (aWh (aS 75 S) 0) 0) := rp1_S1
  have rp2_S1 : aS 88 S1 = (aS 88 S) := rp2_S1
  refine sp_83_69_75_s (ab := (aS 75 S1)) (R := (mR S1 70)) (by omega) (by omega) hI_S1 (show xB S1 (mR S1 70) from by first | (exact xB_x (xC_o (W := 75) rp0_S1).2)) (show aS 75 S1 = (aS 75 S1) from by first | (exact rfl)) (fun S3 hI_S3 rp0_S3 rp1_S3 => zv_n ⟨zG_T hI_S3, ?_⟩)
  have rp0_S3 : xB S3 (mR S1 70) := rp0_S3
  have rp1_S3 : aS 75 S3 = aGw (aS 75 S1) 0 := rp1_S3
  refine sp_86_69_75_s (ab := (aS 75 S3)) (by omega) (by omega) hI_S3 (show xB S3 (mR S3 70) from by first | (exact xB_x (xC_o (W := 75) rp0_S3).2)) (show aS 75 S3 = (aS 75 S3) from by first | (exact rfl)) (fun v6 S5 hI_S5 hp_v6 rp0_S5 rp1_S5 => zi_n ⟨zG_T hI_S5, ?_⟩)
  have rp0_S5 : xB S5 (mR S5 70) := rp0_S5
  have rp1_S5 : aS 75 S5 = aMv (aS 75 S3) 0 ∧ v6 = aMv (aS 75 S3) 0 69 11 - (aS 75 S3) 69 11 := rp1_S5
  have b1 := i_bd v6
  exact K (v6) _ hI_S5 trivial (show xB S5 (mR S5 70) from by first | (exact xB_x (xC_o (W := 75) rp0_S5).2)) (show aS 75 S5 = aSw ab ∧ v6 = aSv ab from by first | (have z := rp1_S5; rw [rp1_S3, rp1_S1, hpre1] at z; exact z))
theorem g_264_91_s_0 {X : Nat × (Nat → Int32)} {d w : Nat} {S : ma_S} {Q : Option ma_V ⊕ Nat → ma_S → Prop}  (hd : 3 ≤ d) (hw : 72 ≤ w) (hS : zT S) (h : ma_wp X (d - 1) (w - 20) 116 0 [(0, .inr (.inr (some 75)))] [] S (zv (fun S1 => zT S1 ∧ (ma_wp X (d - 1) (w - 23) 83 0 [(0, .inr (.inr (some 69))), (1, .inr (.inr (some 75)))] [] S1 (zv (fun S3 => zT S3 ∧ (ma_wp X (d - 1) (w - 24) 86 0 [(0, .inr (.inr (some 69))), (1, .inr (.inr (some 75)))] [] S3 (zi (fun v6 S5 => zT S5 ∧ (Q (.inl (some (.inl v6))) S5)) (fun x S9 => Q (.inr x) S9)))) (fun x S9 => Q (.inr x) S9)))) (fun x S9 => Q (.inr x) S9))) : ma_wp X d w 264 0 [(0, .inr (.inr (some 91)))] [] S Q := by
  refine zw_push hm_264 dX1_removeUnreached_0 (v := .inr (.inr (some 91))) rfl ?_
  refine zw_gf hm_264 dX1_removeUnreached_1 (v := .inr (.inr (some 75))) (zT_is hS s_91) (zT_t hS s_91) rfl f_13_15_4 (zT_f hS r_91_1) ?_
  refine zw_cv hm_264 dX1_removeUnreached_4 v_13_19_10 hm_116 [] [] rfl (zT_rt hS s_75 rfl) ⟨by omega, by omega⟩ rfl (zw_mono h (zv_go ?_ ?_))
  · intro S1 hv
    obtain ⟨hS1, h⟩ := hv
    refine zw_push hm_264 dX1_removeUnreached_7 (v := .inr (.inr (some 91))) rfl ?_
    refine zw_gf hm_264 dX1_removeUnreached_8 (v := .inr (.inr (some 69))) (zT_is hS1 s_91) (zT_t hS1 s_91) rfl f_13_9_4 (zT_f hS1 r_91_0) ?_
    refine zw_push hm_264 dX1_removeUnreached_11 (v := .inr (.inr (some 91))) rfl ?_
    refine zw_gf hm_264 dX1_removeUnreached_12 (v := .inr (.inr (some 75))) (zT_is hS1 s_91) (zT_t hS1 s_91) rfl f_13_15_4 (zT_f hS1 r_91_1) ?_
    refine zw_cv hm_264 dX1_removeUnreached_15 v_13_24_7 hm_83 [.inr (.inr (some 75))] [] rfl (zT_rt hS1 s_69 rfl) ⟨by omega, by omega⟩ rfl (zw_mono h (zv_go ?_ ?_))
    · intro S3 hv
      obtain ⟨hS3, h⟩ := hv
      refine zw_push hm_264 dX1_removeUnreached_18 (v := .inr (.inr (some 91))) rfl ?_
      refine zw_gf hm_264 dX1_removeUnreached_19 (v := .inr (.inr (some 69))) (zT_is hS3 s_91) (zT_t hS3 s_91) rfl f_13_9_4 (zT_f hS3 r_91_0) ?_
      refine zw_push hm_264 dX1_removeUnreached_22 (v := .inr (.inr (some 91))) rfl ?_
      refine zw_gf hm_264 dX1_removeUnreached_23 (v := .inr (.inr (some 75))) (zT_is hS3 s_91) (zT_t hS3 s_91) rfl f_13_15_4 (zT_f hS3 r_91_1) ?_
      refine zw_cv hm_264 dX1_removeUnreached_26 v_13_30_7 hm_86 [.inr (.inr (some 75))] [] rfl (zT_rt hS3 s_69 rfl) ⟨by omega, by omega⟩ rfl (zw_mono h (zi_go ?_ ?_))
      · intro v6 S5 hv
        obtain ⟨hS5, h⟩ := hv
        exact zw_iret hm_264 dX1_removeUnreached_29 h
      · intro x S9 hx
        exact ⟨by decide, hx⟩
    · intro x S9 hx
      exact ⟨by decide, hx⟩
  · intro x S9 hx
    exact ⟨by decide, hx⟩
theorem sp_264_91_s {X : Nat × (Nat → Int32)} {d w : Nat} {f : Nat → Nat → Int32} {r : Nat → Nat → Option Nat} {C Z N : Nat} {Q : Option ma_V ⊕ Nat → ma_S → Prop} {ab : Nat→Nat→Int32} {S : ma_S}  (hd : 3 ≤ d) (hw : 72 ≤ w) (hI : zI f r C Z N S) (hpre0 : xB S (mR S 70)) (hpre1 : aS 75 S = ab) (K : ∀ v S₉, zI f r C Z N S₉ → (True) → (xB S₉ (mR S₉ 70)) → (aS 75 S₉ = aSw ab ∧ v = aSv ab) → Q (.inl (some (.inl v))) S₉) : ma_wp X d w 264 0 [(0, .inr (.inr (some 91)))] [] S Q := by
  refine g_264_91_s_0  (by omega) (by omega) (zG_T hI) ?_
  refine sp_116_75_s (ab := (aS 75 S)) (R := (mR S 70)) (a8 := (aS 88 S)) (by omega) (by omega) hI (show xB S (mR S 70) from by first | (exact xB_x (xC_o (W := 75) hpre0).2)) (show aS 75 S = (aS 75 S) from by first | (exact rfl)) (show aS 88 S = (aS 88 S) from by first | (exact rfl)) (fun S1 hI_S1 rp0_S1 rp1_S1 rp2_S1 => zv_n ⟨zG_T hI_S1, ?_⟩)
  have rp0_S1 : xB S1 (mR S 70) := rp0_S1
  have rp1_S1 : aS 75 S1 = aSp 512 (aRo (aWh (aS 75 S) 0) 0) := rp1_S1
  have rp2_S1 : aS 88 S1 = (aS 88 S) := rp2_S1
  refine sp_83_69_75_s (ab := (aS 75 S1)) (R := (mR S1 70)) (by omega) (by omega) hI_S1 (show xB S1 (mR S1 70) from by first | (exact xB_x (xC_o (W := 75) rp0_S1).2)) (show aS 75 S1 = (aS 75 S1) from by first | (exact rfl)) (fun S3 hI_S3 rp0_S3 rp1_S3 => zv_n ⟨zG_T hI_S3, ?_⟩)
  have rp0_S3 : xB S3 (mR S1 70) := rp0_S3
  have rp1_S3 : aS 75 S3 = aGw (aS 75 S1) 0 := rp1_S3
  refine sp_86_69_75_s (ab := (aS 75 S3)) (by omega) (by omega) hI_S3 (show xB S3 (mR S3 70) from by first | (exact xB_x (xC_o (W := 75) rp0_S3).2)) (show aS 75 S3 = (aS 75 S3) from by first | (exact rfl)) (fun v6 S5 hI_S5 hp_v6 rp0_S5 rp1_S5 => zi_n ⟨zG_T hI_S5, ?_⟩)
  have rp0_S5 : xB S5 (mR S5 70) := rp0_S5
  have rp1_S5 : aS 75 S5 = aMv (aS 75 S3) 0 ∧ v6 = aMv (aS 75 S3) 0 69 11 - (aS 75 S3) 69 11 := rp1_S5
  have b1 := i_bd v6
  exact K (v6) _ hI_S5 trivial (show xB S5 (mR S5 70) from by first | (exact xB_x (xC_o (W := 75) rp0_S5).2)) (show aS 75 S5 = aSw ab ∧ v6 = aSv ab from by first | (have z := rp1_S5; rw [rp1_S3, rp1_S1, hpre1] at z; exact z))
theorem g_109_79_s_0 {X : Nat × (Nat → Int32)} {d w : Nat} {S : ma_S} {Q : Option ma_V ⊕ Nat → ma_S → Prop}  (hd : 4 ≤ d) (hw : 92 ≤ w) (hS : zT S) (h : ma_wp X (d - 1) (w - 20) 264 0 [(0, .inr (.inr (some 79)))] [] S (zi (fun v2 S1 => zT S1 ∧ (Q (.inl (some (.inl v2))) S1)) (fun _ _ => False))) : ma_wp X d w 109 0 [(0, .inr (.inr (some 79)))] [] S Q := by
  refine zw_push hm_109 dX8_cleanAll_0 (v := .inr (.inr (some 79))) rfl ?_
  refine zw_cv hm_109 dX8_cleanAll_1 v_8_37_8 hm_264 [] [] rfl (zT_rt hS s_79 rfl) ⟨by omega, by omega⟩ rfl (zw_mono h (zi_go ?_ ?_))
  · intro v2 S1 hv
    obtain ⟨hS1, h⟩ := hv
    exact zw_iret hm_109 dX8_cleanAll_4 h
  · intro x S9 hx
    exact hx.elim
theorem sp_109_79_s {X : Nat × (Nat → Int32)} {d w : Nat} {f : Nat → Nat → Int32} {r : Nat → Nat → Option Nat} {C Z N : Nat} {Q : Option ma_V ⊕ Nat → ma_S → Prop} {ab : Nat→Nat→Int32} {fp : Nat→Int32} {S : ma_S}  (hd : 4 ≤ d) (hw : 92 ≤ w) (hI : zJ79 f r C Z N S) (hpre0 : xB S (mR S 70)) (hpre1 : aS 75 S = ab) (hpre2 : (mI S 79) = fp) (K : ∀ v S₉, zJ79 f r C Z N S₉ → (True) → (xB S₉ (mR S₉ 70)) → (aS 75 S₉ = aSw ab ∧ v = aSv ab) → ((mI S₉ 79) = fp) → Q (.inl (some (.inl v))) S₉) : ma_wp X d w 109 0 [(0, .inr (.inr (some 79)))] [] S Q := by
  refine g_109_79_s_0  (by omega) (by omega) (zG_T hI) ?_
  refine sp_264_79_s (ab := (aS 75 S)) (by omega) (by omega) (zJ79_dn hI) (show xB S (mR S 70) from by first | (exact xB_x (xC_o (W := 75) hpre0).2)) (show aS 75 S = (aS 75 S) from by first | (exact rfl)) (fun v2 S1 hL_S1 hp_v2 rp0_S1 rp1_S1 => zi_n ⟨zG_T hL_S1, ?_⟩)
  have hI_S1 := zJ79_up hI hL_S1
  have rp0_S1 : xB S1 (mR S1 70) := by
    have z := rp0_S1
    (try rw [show mI S 65 = f 65 from funext (fun k => zG_z hI rfl)] at z)
    (try rw [show mI S 64 1 = f 64 1 from zG_z hI rfl] at z)
    exact z
  have rp1_S1 : aS 75 S1 = aSw (aS 75 S) ∧ v2 = aSv (aS 75 S) := by
    have z := rp1_S1
    (try rw [show mI S 65 = f 65 from funext (fun k => zG_z hI rfl)] at z)
    (try rw [show mI S 64 1 = f 64 1 from zG_z hI rfl] at z)
    exact z
  have b1 := i_bd v2
  exact K (v2) _ hI_S1 trivial (show xB S1 (mR S1 70) from by first | (exact xB_x (xC_o (W := 75) rp0_S1).2)) (show aS 75 S1 = aSw ab ∧ v2 = aSv ab from by first | (rw [← hpre1]; exact rp1_S1)) (show (mI S1 79) = fp from by first | (exact ((show mI S1 79 = mI S 79 from funext (fun _ => zG_z hL_S1 rfl)).trans hpre2)))
/-! A HEAP BY NUMBERS UNDER A COLLECTOR P: row 87 is what P says of itself (0 room, 1 form, 2 the last one's end), never marking -/
def zfP (P : Nat) (I : Nat → Nat → Int32) (k : Nat) : Int32 := if k < 3 then (if P = 79 then I 79 (k + 2) else I P k) else 0
def aT (P : Nat) (S : ma_S) : Nat → Nat → Int32 := fun c k => if c = 87 then zfP P (mI S) k else aS 75 S c k
section AT
variable {P : Nat} {S S₉ : ma_S} {R : Nat → Option Nat} {x : Int32} {c k : Nat}
theorem aT_o (h : c ≠ 87) : aT P S c k = aS 75 S c k := if_neg h
theorem tb_e : zOb (aT P S) = zOb (aS 75 S) := by
  funext p
  unfold zOb
  rw [aT_o (c := 71) (by decide), aT_o (c := 126) (by decide)]
theorem tb_y (hC : xB S R) (rg : zTa R (mI S 71 x.toNatClampNeg) = some c) (h0 : 0 ≤ x.toInt) (h1 : x.toInt < 4500) : zOb (aT P S) x.toInt = mI S 71 x.toNatClampNeg ∧ aT P S 128 (mI S 71 x.toNatClampNeg).toNatClampNeg = mI S c 2 := by
  rw [tb_e, aT_o (c := 128) (by decide)]
  exact ob_y hC rg h0 h1
theorem tb_n2 (h : (mI S 71 x.toNatClampNeg).toInt < 0 ∨ 512 ≤ (mI S 71 x.toNatClampNeg).toInt) : zOb (aT P S) x.toInt = -1 := by
  rw [tb_e]
  exact ob_n2 h
theorem tb_n3 (hC : xB S R) (rn : zTa R (mI S 71 x.toNatClampNeg) = none) : zOb (aT P S) x.toInt = -1 := by
  rw [tb_e]
  exact ob_n3 hC rn
theorem tz_e (h : zSz (aS 75 S)) : zSz (aT P S) := fun p hp => by
  rw [tb_e] at hp ⊢
  rw [aT_o (c := 128) (by decide)]
  exact h p hp
theorem tC (h : aS 75 S₉ = aS 75 S) (h2 : ∀ k, mI S₉ P k = mI S P k) (h3 : ∀ k, mI S₉ 79 k = mI S 79 k) : aT P S₉ = aT P S := by
  funext c k
  unfold aT
  rw [h]
  split
  · unfold zfP
    rw [h3, h2]
  · rfl
end AT
section K4
variable {P c k : Nat} {S S₉ : ma_S} {x : Int32}
/-! the collector's own fields -/
theorem zf_n (h : c ≠ P) : zfP P (mI (ma_put S c k (.inl x))) = zfP P (mI S) := by
  have e : ∀ j, mI (ma_put S c k (.inl x)) P j = mI S P j := fun j => by
    show (if P = c ∧ j = k then x else mI S P j) = mI S P j
    rw [if_neg (fun w => h w.1.symm)]
  funext j
  unfold zfP
  by_cases w : P = 79
  · rw [if_pos w, if_pos w]
    rw [w] at e
    rw [e]
  · rw [if_neg w, if_neg w, e]
theorem zf_t (hc : 126 ≤ c) (hP : P < 126) : zfP P (mI (ma_put S c k (.inl x))) = zfP P (mI S) := zf_n (by omega)
theorem zf_7 : zfP 84 (mI (ma_put S 84 7 (.inl x))) = zfP 84 (mI S) := by
  funext j
  show (if j < 3 then (if 84 = 84 ∧ j = 7 then x else mI S 84 j) else 0) = (if j < 3 then mI S 84 j else 0)
  by_cases w : j < 3
  · rw [if_pos w, if_pos w, if_neg (by omega)]
  · rw [if_neg w, if_neg w]
theorem zf_r {q : Option Nat} : zfP P (mI (ma_put S c k (.inr (.inr q)))) = zfP P (mI S) := rfl
theorem zf_fr (h : ∀ k, mI S₉ P k = mI S P k) : zfP P (mI S₉) = zfP P (mI S) := by
  funext j
  unfold zfP
  by_cases w : P = 79
  · rw [if_pos w, if_pos w]
    rw [w] at h
    rw [h]
  · rw [if_neg w, if_neg w, h]
end K4

/-! from 95.k13 -/
/-! the collectors that sweep, the class (written by wip/tools/gen20.py) -/
theorem g_105_79_s_0 {X : Nat × (Nat → Int32)} {d w : Nat} {S : ma_S} {Q : Option ma_V ⊕ Nat → ma_S → Prop} (p : Int32) (hd : 1 ≤ d) (hw : 22 ≤ w) (hS : zT S) (h : ma_wp X d w 105 2 [(0, .inr (.inr (some 79))), (2, .inl p)] [] S Q) : ma_wp X d w 105 0 [(0, .inr (.inr (some 79))), (1, .inl p)] [] S Q := by
  refine zw_push hm_105 dX8_freeFrom_0 (v := .inl p) rfl ?_
  refine zw_sto hm_105 dX8_freeFrom_1 [(2, .inl p), (0, .inr (.inr (some 79))), (1, .inl p)] rfl rfl rfl ?_
  exact zw_sub (ma_nd_of (ks := [0, 2]) rfl (by decide)) (ma_nd_of (ks := [2, 0, 1]) rfl (by decide)) (ma_le_cons rfl (ma_le_cons rfl (ma_le_nil _))) h
theorem g_105_79_s_2 {X : Nat × (Nat → Int32)} {d w : Nat} {S : ma_S} {Q : Option ma_V ⊕ Nat → ma_S → Prop} (l2 : Int32) (hd : 1 ≤ d) (hw : 22 ≤ w) (hS : zT S) (h : if (mI S 79 2) ≤ l2 then (Q (.inl (some (.inl (mI S 79 2)))) S) else (if l2 < 0 then (Q (.inl (some (.inl l2))) S) else (if (4500 : Int32) ≤ l2 then (Q (.inl (some (.inl l2))) S) else ((0 ≤ l2 ∧ l2.toNatClampNeg < 4500) ∧ (if (mI S 71 l2.toNatClampNeg) < 0 then (Q (.inl (some (.inl l2))) S) else (if (512 : Int32) ≤ (mI S 71 l2.toNatClampNeg) then (Q (.inl (some (.inl l2))) S) else ((0 ≤ (mI S 71 l2.toNatClampNeg) ∧ (mI S 71 l2.toNatClampNeg).toNatClampNeg < 512) ∧ (((mR S 70 (mI S 71 l2.toNatClampNeg).toNatClampNeg) = none → Q (.inl (some (.inl l2))) S) ∧ (∀ c1, (mR S 70 (mI S 71 l2.toNatClampNeg).toNatClampNeg) = some c1 → (126 ≤ c1 ∧ c1 < mN S) ∧ (ma_wp X d w 105 2 [(0, .inr (.inr (some 79))), (2, .inl (l2 + (mI S c1 2)))] [] S Q)))))))))) : ma_wp X d w 105 2 [(0, .inr (.inr (some 79))), (2, .inl l2)] [] S Q := by
  refine zw_push hm_105 dX8_freeFrom_2 (v := .inl l2) rfl ?_
  refine zw_push hm_105 dX8_freeFrom_3 (v := .inr (.inr (some 79))) rfl ?_
  refine zw_gf hm_105 dX8_freeFrom_4 (v := .inl (mI S 79 2)) (zT_is hS s_79) (zT_t hS s_79) rfl f_8_9_8 rfl ?_
  refine zw_if2 hm_105 dX8_freeFrom_7 (t := 35) rfl zc2_ge ?_ ?_
  · intro hc
    rw [if_pos hc] at h
    refine zw_push hm_105 dX8_freeFrom_35 (v := .inr (.inr (some 79))) rfl ?_
    refine zw_gf hm_105 dX8_freeFrom_36 (v := .inl (mI S 79 2)) (zT_is hS s_79) (zT_t hS s_79) rfl f_8_9_8 rfl ?_
    exact zw_iret hm_105 dX8_freeFrom_39 h
  · intro hc
    rw [if_neg hc] at h
    refine zw_push hm_105 dX8_freeFrom_10 (v := .inr (.inr (some 79))) rfl ?_
    refine zw_gf hm_105 dX8_freeFrom_11 (v := .inr (.inr (some 69))) (zT_is hS s_79) (zT_t hS s_79) rfl f_8_46_8 (zT_f hS r_79_0) ?_
    refine zw_push hm_105 dX8_freeFrom_14 (v := .inl l2) rfl ?_
    refine zw_cv hm_105 dX8_freeFrom_15 v_8_50_7 hm_89 [.inl l2] [] rfl (zT_rt hS s_69 rfl) ⟨by omega, by omega⟩ rfl ?_
    show ma_wp X (d - 1) (w - 22) 89 0 [(0, .inr (.inr (some 69))), (1, .inl l2)] [] S _
    refine zw_push hm_89 dX7_thingFrom_0 (v := .inl l2) rfl ?_
    refine zw_if0 hm_89 dX7_thingFrom_1 (t := 20) rfl zc0_lt ?_ ?_
    · intro hc
      rw [if_pos hc] at h
      refine zw_push hm_89 dX7_thingFrom_20 (v := .inl (-1 : Int32)) rfl ?_
      refine zw_sto hm_89 dX7_thingFrom_21 [(2, .inl (-1 : Int32)), (0, .inr (.inr (some 69))), (1, .inl l2)] rfl rfl rfl ?_
      refine zw_push hm_89 dX7_thingFrom_22 (v := .inl (-1 : Int32)) rfl ?_
      refine zw_if0 hm_89 dX7_thingFrom_23 (t := 42) rfl zc0_lt (fun _ => ?_) (fun hc => absurd (by decide) hc)
      refine zw_push hm_89 dX7_thingFrom_42 (v := .inr (.inr none)) rfl ?_
      refine zw_aret hm_89 dX7_thingFrom_43 ?_
      show ma_wp X d w 105 18 [(0, .inr (.inr (some 79))), (2, .inl l2)] [.inr (.inr none)] S _
      refine zw_sto hm_105 dX8_freeFrom_18 [(3, .inr (.inr none)), (0, .inr (.inr (some 79))), (2, .inl l2)] rfl rfl rfl ?_
      refine zw_push hm_105 dX8_freeFrom_19 (v := .inr (.inr none)) rfl ?_
      refine zw_ifnonnull hm_105 dX8_freeFrom_20 (t := 25) rfl (fun _ => ?_) (fun _ z => by cases z)
      refine zw_push hm_105 dX8_freeFrom_23 (v := .inl l2) rfl ?_
      exact zw_iret hm_105 dX8_freeFrom_24 h
    · intro hc
      rw [if_neg hc] at h
      refine zw_push hm_89 dX7_thingFrom_4 (v := .inl l2) rfl ?_
      refine zw_push hm_89 dX7_thingFrom_5 (v := .inl (4500 : Int32)) rfl ?_
      refine zw_if2 hm_89 dX7_thingFrom_8 (t := 20) rfl zc2_ge ?_ ?_
      · intro hc
        rw [if_pos hc] at h
        refine zw_push hm_89 dX7_thingFrom_20 (v := .inl (-1 : Int32)) rfl ?_
        refine zw_sto hm_89 dX7_thingFrom_21 [(2, .inl (-1 : Int32)), (0, .inr (.inr (some 69))), (1, .inl l2)] rfl rfl rfl ?_
        refine zw_push hm_89 dX7_thingFrom_22 (v := .inl (-1 : Int32)) rfl ?_
        refine zw_if0 hm_89 dX7_thingFrom_23 (t := 42) rfl zc0_lt (fun _ => ?_) (fun hc => absurd (by decide) hc)
        refine zw_push hm_89 dX7_thingFrom_42 (v := .inr (.inr none)) rfl ?_
        refine zw_aret hm_89 dX7_thingFrom_43 ?_
        show ma_wp X d w 105 18 [(0, .inr (.inr (some 79))), (2, .inl l2)] [.inr (.inr none)] S _
        refine zw_sto hm_105 dX8_freeFrom_18 [(3, .inr (.inr none)), (0, .inr (.inr (some 79))), (2, .inl l2)] rfl rfl rfl ?_
        refine zw_push hm_105 dX8_freeFrom_19 (v := .inr (.inr none)) rfl ?_
        refine zw_ifnonnull hm_105 dX8_freeFrom_20 (t := 25) rfl (fun _ => ?_) (fun _ z => by cases z)
        refine zw_push hm_105 dX8_freeFrom_23 (v := .inl l2) rfl ?_
        exact zw_iret hm_105 dX8_freeFrom_24 h
      · intro hc
        rw [if_neg hc] at h
        refine zw_push hm_89 dX7_thingFrom_11 (v := .inr (.inr (some 69))) rfl ?_
        refine zw_gf hm_89 dX7_thingFrom_12 (v := .inr (.inr (some 71))) (zT_is hS s_69) (zT_t hS s_69) rfl f_7_17_7 (zT_f hS r_69_1) ?_
        refine zw_push hm_89 dX7_thingFrom_15 (v := .inl l2) rfl ?_
        obtain ⟨hg, h⟩ := h
        refine zw_ia hm_89 dX7_thingFrom_16 (zT_is hS s_71) (zT_h hS s_71) rfl hg ?_
        show ma_wp X (d - 1) (w - 22) 89 17 [(0, .inr (.inr (some 69))), (1, .inl l2)] [.inl (mI S 71 l2.toNatClampNeg)] S _
        refine zw_goto hm_89 dX7_thingFrom_17 (t := 21) rfl ?_
        refine zw_sto hm_89 dX7_thingFrom_21 [(2, .inl (mI S 71 l2.toNatClampNeg)), (0, .inr (.inr (some 69))), (1, .inl l2)] rfl rfl rfl ?_
        refine zw_push hm_89 dX7_thingFrom_22 (v := .inl (mI S 71 l2.toNatClampNeg)) rfl ?_
        refine zw_if0 hm_89 dX7_thingFrom_23 (t := 42) rfl zc0_lt ?_ ?_
        · intro hc
          rw [if_pos hc] at h
          refine zw_push hm_89 dX7_thingFrom_42 (v := .inr (.inr none)) rfl ?_
          refine zw_aret hm_89 dX7_thingFrom_43 ?_
          show ma_wp X d w 105 18 [(0, .inr (.inr (some 79))), (2, .inl l2)] [.inr (.inr none)] S _
          refine zw_sto hm_105 dX8_freeFrom_18 [(3, .inr (.inr none)), (0, .inr (.inr (some 79))), (2, .inl l2)] rfl rfl rfl ?_
          refine zw_push hm_105 dX8_freeFrom_19 (v := .inr (.inr none)) rfl ?_
          refine zw_ifnonnull hm_105 dX8_freeFrom_20 (t := 25) rfl (fun _ => ?_) (fun _ z => by cases z)
          refine zw_push hm_105 dX8_freeFrom_23 (v := .inl l2) rfl ?_
          exact zw_iret hm_105 dX8_freeFrom_24 h
        · intro hc
          rw [if_neg hc] at h
          refine zw_push hm_89 dX7_thingFrom_26 (v := .inl (mI S 71 l2.toNatClampNeg)) rfl ?_
          refine zw_push hm_89 dX7_thingFrom_27 (v := .inl (512 : Int32)) rfl ?_
          refine zw_if2 hm_89 dX7_thingFrom_30 (t := 42) rfl zc2_ge ?_ ?_
          · intro hc
            rw [if_pos hc] at h
            refine zw_push hm_89 dX7_thingFrom_42 (v := .inr (.inr none)) rfl ?_
            refine zw_aret hm_89 dX7_thingFrom_43 ?_
            show ma_wp X d w 105 18 [(0, .inr (.inr (some 79))), (2, .inl l2)] [.inr (.inr none)] S _
            refine zw_sto hm_105 dX8_freeFrom_18 [(3, .inr (.inr none)), (0, .inr (.inr (some 79))), (2, .inl l2)] rfl rfl rfl ?_
            refine zw_push hm_105 dX8_freeFrom_19 (v := .inr (.inr none)) rfl ?_
            refine zw_ifnonnull hm_105 dX8_freeFrom_20 (t := 25) rfl (fun _ => ?_) (fun _ z => by cases z)
            refine zw_push hm_105 dX8_freeFrom_23 (v := .inl l2) rfl ?_
            exact zw_iret hm_105 dX8_freeFrom_24 h
          · intro hc
            rw [if_neg hc] at h
            refine zw_push hm_89 dX7_thingFrom_33 (v := .inr (.inr (some 69))) rfl ?_
            refine zw_gf hm_89 dX7_thingFrom_34 (v := .inr (.inr (some 70))) (zT_is hS s_69) (zT_t hS s_69) rfl f_7_11_7 (zT_f hS r_69_0) ?_
            refine zw_push hm_89 dX7_thingFrom_37 (v := .inl (mI S 71 l2.toNatClampNeg)) rfl ?_
            obtain ⟨hg, h⟩ := h
            refine zw_aa hm_89 dX7_thingFrom_38 (zT_is hS s_70) (zT_h hS s_70) rfl rfl hg rfl ?_
            show ma_wp X (d - 1) (w - 22) 89 39 [(2, .inl (mI S 71 l2.toNatClampNeg)), (0, .inr (.inr (some 69))), (1, .inl l2)] [.inr (.inr (mR S 70 (mI S 71 l2.toNatClampNeg).toNatClampNeg))] S _
            refine zw_goto hm_89 dX7_thingFrom_39 (t := 43) rfl ?_
            refine zw_aret hm_89 dX7_thingFrom_43 ?_
            show ma_wp X d w 105 18 [(0, .inr (.inr (some 79))), (2, .inl l2)] [.inr (.inr (mR S 70 (mI S 71 l2.toNatClampNeg).toNatClampNeg))] S _
            refine zw_sto hm_105 dX8_freeFrom_18 [(3, .inr (.inr (mR S 70 (mI S 71 l2.toNatClampNeg).toNatClampNeg))), (0, .inr (.inr (some 79))), (2, .inl l2)] rfl rfl rfl ?_
            refine zw_push hm_105 dX8_freeFrom_19 (v := .inr (.inr (mR S 70 (mI S 71 l2.toNatClampNeg).toNatClampNeg))) rfl ?_
            refine zw_ifnonnull hm_105 dX8_freeFrom_20 (t := 25) rfl ?_ ?_
            · intro hc
              have h := h.1 hc
              (try rw [hc])
              show ma_wp X d w 105 23 [(3, .inr (.inr none)), (0, .inr (.inr (some 79))), (2, .inl l2)] [] S _
              refine zw_push hm_105 dX8_freeFrom_23 (v := .inl l2) rfl ?_
              exact zw_iret hm_105 dX8_freeFrom_24 h
            · intro c1 hc
              have h := h.2 c1 hc
              (try rw [hc])
              show ma_wp X d w 105 25 [(3, .inr (.inr (some c1))), (0, .inr (.inr (some 79))), (2, .inl l2)] [] S _
              refine zw_push hm_105 dX8_freeFrom_25 (v := .inl l2) rfl ?_
              refine zw_push hm_105 dX8_freeFrom_26 (v := .inr (.inr (some c1))) rfl ?_
              obtain ⟨hg, h⟩ := h
              refine zw_gf hm_105 dX8_freeFrom_27 (v := .inl (mI S c1 2)) (zT_tis hS hg) (zT_tt hS hg) rfl f_8_34_9 rfl ?_
              refine zw_stk hm_105 dX8_freeFrom_30 (st₉ := [.inl (l2 + (mI S c1 2))]) rfl rfl ?_
              refine zw_sto hm_105 dX8_freeFrom_31 [(2, .inl (l2 + (mI S c1 2))), (3, .inr (.inr (some c1))), (0, .inr (.inr (some 79)))] rfl rfl rfl ?_
              refine zw_goto hm_105 dX8_freeFrom_32 (t := 2) rfl ?_
              exact zw_sub (ma_nd_of (ks := [0, 2]) rfl (by decide)) (ma_nd_of (ks := [2, 3, 0]) rfl (by decide)) (ma_le_cons rfl (ma_le_cons rfl (ma_le_nil _))) h
theorem lp_105_79_s_2 {X : Nat × (Nat → Int32)} {d w : Nat} {f : Nat → Nat → Int32} {r : Nat → Nat → Option Nat} {C Z N : Nat} {Q : Option ma_V ⊕ Nat → ma_S → Prop} {ab : Nat→Nat→Int32} {p : Int32} {S : ma_S} (hd : 1 ≤ d) (hw : 22 ≤ w) (K : ∀ v S₉, S₉ = S → (0 ≤ v.toInt ∧ v.toInt ≤ 1500) → (v.toInt = aN ab p.toInt) → Q (.inl (some (.inl v))) S₉) : ∀ (n : Nat) (l2 : Int32), (1500 - l2.toInt).toNat = n → zJ79 f r C Z N S → (0 ≤ l2.toInt) → (xB S (mR S 70)) → (aT 79 S = ab) → (aN ab l2.toInt = aN ab p.toInt) → ma_wp X d w 105 2 [(0, .inr (.inr (some 79))), (2, .inl l2)] [] S Q := by
  intro n
  induction n using Nat.strongRecOn with
  | _ n IH =>
    intro l2 hmu hI  hi0 hi1 hi2 hi3
    refine g_105_79_s_2 l2 (by omega) (by omega) (zG_T hI) ?_
    have f1 := zG_s hI (0) (1500) (c := 79) (k := 2) (by decide)
    have b2 := i_bd l2
    refine zd (fun h3 => ?_) (fun h3 => ?_)
    · skip
      have g4 := i_le h3
      exact K ((mI S 79 2)) _ rfl (by omega) (show (mI S 79 2).toInt = aN ab p.toInt from by first | (have nf := hi3; have r0 := (congrArg Int32.toInt (show aT 79 S 87 0 = mI S 79 2 from rfl)); have z := aN_ro (a := aT 79 S) (p := l2.toInt) (by omega); rw [hi2] at z r0; omega) | (have nf := hi3; have r0 := (congrArg Int32.toInt (show aT 79 S 87 0 = mI S 79 2 from rfl)); have o := ob_n1 (a := aT 79 S) (p := l2.toInt) (by omega); have z := aN_fr (a := aT 79 S) (p := l2.toInt) (by omega) (ob_neg o); rw [hi2] at z; omega) | (have nf := hi3; have r0 := (congrArg Int32.toInt (show aT 79 S 87 0 = mI S 79 2 from rfl)); have o := tb_n2 (P := 79) (S := S) (x := l2) (by omega); have z := aN_fr (a := aT 79 S) (p := l2.toInt) (by omega) (ob_neg o); rw [hi2] at z; omega))
    · skip
      have g5 := i_nle h3
      have li6 : (0 : Int32).toInt = 0 := rfl
      refine zd (fun h7 => ?_) (fun h7 => ?_)
      · skip
        have g8 := i_lt h7
        exact K (l2) _ rfl (by omega) (show l2.toInt = aN ab p.toInt from by first | (have nf := hi3; have r0 := (congrArg Int32.toInt (show aT 79 S 87 0 = mI S 79 2 from rfl)); have z := aN_ro (a := aT 79 S) (p := l2.toInt) (by omega); rw [hi2] at z r0; omega) | (have nf := hi3; have r0 := (congrArg Int32.toInt (show aT 79 S 87 0 = mI S 79 2 from rfl)); have o := ob_n1 (a := aT 79 S) (p := l2.toInt) (by omega); have z := aN_fr (a := aT 79 S) (p := l2.toInt) (by omega) (ob_neg o); rw [hi2] at z; omega) | (have nf := hi3; have r0 := (congrArg Int32.toInt (show aT 79 S 87 0 = mI S 79 2 from rfl)); have o := tb_n2 (P := 79) (S := S) (x := l2) (by omega); have z := aN_fr (a := aT 79 S) (p := l2.toInt) (by omega) (ob_neg o); rw [hi2] at z; omega))
      · skip
        have g9 := i_nlt h7
        have li10 : (4500 : Int32).toInt = 4500 := rfl
        refine zd (fun h11 => ?_) (fun h11 => ?_)
        · skip
          have g12 := i_le h11
          exact K (l2) _ rfl (by omega) (show l2.toInt = aN ab p.toInt from by first | (have nf := hi3; have r0 := (congrArg Int32.toInt (show aT 79 S 87 0 = mI S 79 2 from rfl)); have z := aN_ro (a := aT 79 S) (p := l2.toInt) (by omega); rw [hi2] at z r0; omega) | (have nf := hi3; have r0 := (congrArg Int32.toInt (show aT 79 S 87 0 = mI S 79 2 from rfl)); have o := ob_n1 (a := aT 79 S) (p := l2.toInt) (by omega); have z := aN_fr (a := aT 79 S) (p := l2.toInt) (by omega) (ob_neg o); rw [hi2] at z; omega) | (have nf := hi3; have r0 := (congrArg Int32.toInt (show aT 79 S 87 0 = mI S 79 2 from rfl)); have o := tb_n2 (P := 79) (S := S) (x := l2) (by omega); have z := aN_fr (a := aT 79 S) (p := l2.toInt) (by omega) (ob_neg o); rw [hi2] at z; omega))
        · skip
          have g13 := i_nle h11
          refine ⟨i_ix (by omega) (by omega), ?_⟩
          have b14 := i_bd (mI S 71 l2.toNatClampNeg)
          refine zd (fun h15 => ?_) (fun h15 => ?_)
          · skip
            have g16 := i_lt h15
            exact K (l2) _ rfl (by omega) (show l2.toInt = aN ab p.toInt from by first | (have nf := hi3; have r0 := (congrArg Int32.toInt (show aT 79 S 87 0 = mI S 79 2 from rfl)); have z := aN_ro (a := aT 79 S) (p := l2.toInt) (by omega); rw [hi2] at z r0; omega) | (have nf := hi3; have r0 := (congrArg Int32.toInt (show aT 79 S 87 0 = mI S 79 2 from rfl)); have o := ob_n1 (a := aT 79 S) (p := l2.toInt) (by omega); have z := aN_fr (a := aT 79 S) (p := l2.toInt) (by omega) (ob_neg o); rw [hi2] at z; omega) | (have nf := hi3; have r0 := (congrArg Int32.toInt (show aT 79 S 87 0 = mI S 79 2 from rfl)); have o := tb_n2 (P := 79) (S := S) (x := l2) (by omega); have z := aN_fr (a := aT 79 S) (p := l2.toInt) (by omega) (ob_neg o); rw [hi2] at z; omega))
          · skip
            have g17 := i_nlt h15
            have li18 : (512 : Int32).toInt = 512 := rfl
            refine zd (fun h19 => ?_) (fun h19 => ?_)
            · skip
              have g20 := i_le h19
              exact K (l2) _ rfl (by omega) (show l2.toInt = aN ab p.toInt from by first | (have nf := hi3; have r0 := (congrArg Int32.toInt (show aT 79 S 87 0 = mI S 79 2 from rfl)); have z := aN_ro (a := aT 79 S) (p := l2.toInt) (by omega); rw [hi2] at z r0; omega) | (have nf := hi3; have r0 := (congrArg Int32.toInt (show aT 79 S 87 0 = mI S 79 2 from rfl)); have o := ob_n1 (a := aT 79 S) (p := l2.toInt) (by omega); have z := aN_fr (a := aT 79 S) (p := l2.toInt) (by omega) (ob_neg o); rw [hi2] at z; omega) | (have nf := hi3; have r0 := (congrArg Int32.toInt (show aT 79 S 87 0 = mI S 79 2 from rfl)); have o := tb_n2 (P := 79) (S := S) (x := l2) (by omega); have z := aN_fr (a := aT 79 S) (p := l2.toInt) (by omega) (ob_neg o); rw [hi2] at z; omega))
            · skip
              have g21 := i_nle h19
              refine ⟨i_ix (by omega) (by omega), ?_⟩
              refine ⟨fun hc => ?_, fun c1 hc => ?_⟩
              · skip
                have rn_c1 : zTa (mR S 70) (mI S 71 l2.toNatClampNeg) = none := (ta_rd (y := (mI S 71 l2.toNatClampNeg)) hi1 (by omega) (by omega)).symm.trans hc
                exact K (l2) _ rfl (by omega) (show l2.toInt = aN ab p.toInt from by first | (have nf := hi3; have r0 := (congrArg Int32.toInt (show aT 79 S 87 0 = mI S 79 2 from rfl)); have z := aN_ro (a := aT 79 S) (p := l2.toInt) (by omega); rw [hi2] at z r0; omega) | (have nf := hi3; have r0 := (congrArg Int32.toInt (show aT 79 S 87 0 = mI S 79 2 from rfl)); have o := tb_n3 (P := 79) (x := l2) hi1 rn_c1; have z := aN_fr (a := aT 79 S) (p := l2.toInt) (by omega) (ob_neg o); rw [hi2] at z; omega))
              · skip
                have th_c1 := (fun _ z => zG_70 hI (c := 70) (by decide) z) c1 hc
                have rg_c1 : zTa (mR S 70) (mI S 71 l2.toNatClampNeg) = some c1 := (ta_rd (y := (mI S 71 l2.toNatClampNeg)) hi1 (by omega) (by omega)).symm.trans hc
                refine ⟨zG_n hI th_c1, ?_⟩
                have f22 := zG_th hI th_c1
                first | have e23 : (l2 + (mI S c1 2)).toInt = l2.toInt + (mI S c1 2).toInt := i_add (by omega) (by omega) | have b24 := i_bd (l2 + (mI S c1 2))
                exact IH _ (by omega) ((l2 + (mI S c1 2))) rfl hI (by omega) (show xB S (mR S 70) from by first | (exact xB_x (xC_o (W := 75) hi1).2)) (show aT 79 S = ab from by first | (exact hi2)) (show aN ab ((l2 + (mI S c1 2))).toInt = aN ab p.toInt from by first | (have r0 := (congrArg Int32.toInt (show aT 79 S 87 0 = mI S 79 2 from rfl)); have o := tb_y (P := 79) (x := l2) hi1 rg_c1 (by omega) (by omega); have z := aN_ob (a := aT 79 S) (p := l2.toInt) (tz_e (sz_of hI (by decide))) (by omega) (by rw [o.1]; omega); rw [o.1, o.2] at z; rw [hi2] at z; refine Eq.trans ?_ (z.symm.trans hi3); congr 1))
theorem sp_105_79_s {X : Nat × (Nat → Int32)} {d w : Nat} {f : Nat → Nat → Int32} {r : Nat → Nat → Option Nat} {C Z N : Nat} {Q : Option ma_V ⊕ Nat → ma_S → Prop} {ab : Nat→Nat→Int32} {S : ma_S} (p : Int32) (hd : 1 ≤ d) (hw : 22 ≤ w) (hI : zJ79 f r C Z N S) (hpre0 : xB S (mR S 70)) (hpre1 : aT 79 S = ab) (hpre2 : 0 ≤ p.toInt) (K : ∀ v S₉, S₉ = S → (0 ≤ v.toInt ∧ v.toInt ≤ 1500) → (v.toInt = aN ab p.toInt) → Q (.inl (some (.inl v))) S₉) : ma_wp X d w 105 0 [(0, .inr (.inr (some 79))), (1, .inl p)] [] S Q := by
  refine g_105_79_s_0 p (by omega) (by omega) (zG_T hI) ?_
  have b1 := i_bd p
  exact lp_105_79_s_2 (by omega) (by omega) K _ (p) rfl hI (by omega) (show xB S (mR S 70) from by first | (exact xB_x (xC_o (W := 75) hpre0).2)) (show aT 79 S = ab from by first | (exact hpre1)) (show aN ab (p).toInt = aN ab p.toInt from by first | (exact rfl))

/-! from 95.k14 -/
/-! the collectors that sweep, the class (written by wip/tools/gen20.py) -/
theorem g_106_79_s_0 {X : Nat × (Nat → Int32)} {d w : Nat} {S : ma_S} {Q : Option ma_V ⊕ Nat → ma_S → Prop} (p : Int32) (hd : 1 ≤ d) (hw : 22 ≤ w) (hS : zT S) (h : ma_wp X d w 106 2 [(0, .inr (.inr (some 79))), (2, .inl p)] [] S Q) : ma_wp X d w 106 0 [(0, .inr (.inr (some 79))), (1, .inl p)] [] S Q := by
  refine zw_push hm_106 dX8_freeEnd_0 (v := .inl p) rfl ?_
  refine zw_sto hm_106 dX8_freeEnd_1 [(2, .inl p), (0, .inr (.inr (some 79))), (1, .inl p)] rfl rfl rfl ?_
  exact zw_sub (ma_nd_of (ks := [0, 2]) rfl (by decide)) (ma_nd_of (ks := [2, 0, 1]) rfl (by decide)) (ma_le_cons rfl (ma_le_cons rfl (ma_le_nil _))) h
theorem g_106_79_s_2 {X : Nat × (Nat → Int32)} {d w : Nat} {S : ma_S} {Q : Option ma_V ⊕ Nat → ma_S → Prop} (l2 : Int32) (hd : 1 ≤ d) (hw : 22 ≤ w) (hS : zT S) (h : if (mI S 79 2) ≤ l2 then (Q (.inl (some (.inl l2))) S) else (if l2 < 0 then (ma_wp X d w 106 2 [(0, .inr (.inr (some 79))), (2, .inl (l2 + (1 : Int32)))] [] S Q) else (if (4500 : Int32) ≤ l2 then (ma_wp X d w 106 2 [(0, .inr (.inr (some 79))), (2, .inl (l2 + (1 : Int32)))] [] S Q) else ((0 ≤ l2 ∧ l2.toNatClampNeg < 4500) ∧ (if (mI S 71 l2.toNatClampNeg) < 0 then (ma_wp X d w 106 2 [(0, .inr (.inr (some 79))), (2, .inl (l2 + (1 : Int32)))] [] S Q) else (if (512 : Int32) ≤ (mI S 71 l2.toNatClampNeg) then (ma_wp X d w 106 2 [(0, .inr (.inr (some 79))), (2, .inl (l2 + (1 : Int32)))] [] S Q) else ((0 ≤ (mI S 71 l2.toNatClampNeg) ∧ (mI S 71 l2.toNatClampNeg).toNatClampNeg < 512) ∧ (((mR S 70 (mI S 71 l2.toNatClampNeg).toNatClampNeg) = none → ma_wp X d w 106 2 [(0, .inr (.inr (some 79))), (2, .inl (l2 + (1 : Int32)))] [] S Q) ∧ (∀ c1, (mR S 70 (mI S 71 l2.toNatClampNeg).toNatClampNeg) = some c1 → Q (.inl (some (.inl l2))) S))))))))) : ma_wp X d w 106 2 [(0, .inr (.inr (some 79))), (2, .inl l2)] [] S Q := by
  refine zw_push hm_106 dX8_freeEnd_2 (v := .inl l2) rfl ?_
  refine zw_push hm_106 dX8_freeEnd_3 (v := .inr (.inr (some 79))) rfl ?_
  refine zw_gf hm_106 dX8_freeEnd_4 (v := .inl (mI S 79 2)) (zT_is hS s_79) (zT_t hS s_79) rfl f_8_9_8 rfl ?_
  refine zw_if2 hm_106 dX8_freeEnd_7 (t := 27) rfl zc2_ge ?_ ?_
  · intro hc
    rw [if_pos hc] at h
    refine zw_push hm_106 dX8_freeEnd_27 (v := .inl l2) rfl ?_
    exact zw_iret hm_106 dX8_freeEnd_28 h
  · intro hc
    rw [if_neg hc] at h
    refine zw_push hm_106 dX8_freeEnd_10 (v := .inr (.inr (some 79))) rfl ?_
    refine zw_gf hm_106 dX8_freeEnd_11 (v := .inr (.inr (some 69))) (zT_is hS s_79) (zT_t hS s_79) rfl f_8_46_8 (zT_f hS r_79_0) ?_
    refine zw_push hm_106 dX8_freeEnd_14 (v := .inl l2) rfl ?_
    refine zw_cv hm_106 dX8_freeEnd_15 v_8_50_7 hm_89 [.inl l2] [] rfl (zT_rt hS s_69 rfl) ⟨by omega, by omega⟩ rfl ?_
    show ma_wp X (d - 1) (w - 22) 89 0 [(0, .inr (.inr (some 69))), (1, .inl l2)] [] S _
    refine zw_push hm_89 dX7_thingFrom_0 (v := .inl l2) rfl ?_
    refine zw_if0 hm_89 dX7_thingFrom_1 (t := 20) rfl zc0_lt ?_ ?_
    · intro hc
      rw [if_pos hc] at h
      refine zw_push hm_89 dX7_thingFrom_20 (v := .inl (-1 : Int32)) rfl ?_
      refine zw_sto hm_89 dX7_thingFrom_21 [(2, .inl (-1 : Int32)), (0, .inr (.inr (some 69))), (1, .inl l2)] rfl rfl rfl ?_
      refine zw_push hm_89 dX7_thingFrom_22 (v := .inl (-1 : Int32)) rfl ?_
      refine zw_if0 hm_89 dX7_thingFrom_23 (t := 42) rfl zc0_lt (fun _ => ?_) (fun hc => absurd (by decide) hc)
      refine zw_push hm_89 dX7_thingFrom_42 (v := .inr (.inr none)) rfl ?_
      refine zw_aret hm_89 dX7_thingFrom_43 ?_
      show ma_wp X d w 106 18 [(0, .inr (.inr (some 79))), (2, .inl l2)] [.inr (.inr none)] S _
      refine zw_ifnonnull hm_106 dX8_freeEnd_18 (t := 27) rfl (fun _ => ?_) (fun _ z => by cases z)
      refine zw_sto hm_106 dX8_freeEnd_21 [(2, .inl (l2 + (1 : Int32))), (0, .inr (.inr (some 79)))] rfl rfl rfl ?_
      refine zw_goto hm_106 dX8_freeEnd_24 (t := 2) rfl ?_
      exact zw_sub (ma_nd_of (ks := [0, 2]) rfl (by decide)) (ma_nd_of (ks := [2, 0]) rfl (by decide)) (ma_le_cons rfl (ma_le_cons rfl (ma_le_nil _))) h
    · intro hc
      rw [if_neg hc] at h
      refine zw_push hm_89 dX7_thingFrom_4 (v := .inl l2) rfl ?_
      refine zw_push hm_89 dX7_thingFrom_5 (v := .inl (4500 : Int32)) rfl ?_
      refine zw_if2 hm_89 dX7_thingFrom_8 (t := 20) rfl zc2_ge ?_ ?_
      · intro hc
        rw [if_pos hc] at h
        refine zw_push hm_89 dX7_thingFrom_20 (v := .inl (-1 : Int32)) rfl ?_
        refine zw_sto hm_89 dX7_thingFrom_21 [(2, .inl (-1 : Int32)), (0, .inr (.inr (some 69))), (1, .inl l2)] rfl rfl rfl ?_
        refine zw_push hm_89 dX7_thingFrom_22 (v := .inl (-1 : Int32)) rfl ?_
        refine zw_if0 hm_89 dX7_thingFrom_23 (t := 42) rfl zc0_lt (fun _ => ?_) (fun hc => absurd (by decide) hc)
        refine zw_push hm_89 dX7_thingFrom_42 (v := .inr (.inr none)) rfl ?_
        refine zw_aret hm_89 dX7_thingFrom_43 ?_
        show ma_wp X d w 106 18 [(0, .inr (.inr (some 79))), (2, .inl l2)] [.inr (.inr none)] S _
        refine zw_ifnonnull hm_106 dX8_freeEnd_18 (t := 27) rfl (fun _ => ?_) (fun _ z => by cases z)
        refine zw_sto hm_106 dX8_freeEnd_21 [(2, .inl (l2 + (1 : Int32))), (0, .inr (.inr (some 79)))] rfl rfl rfl ?_
        refine zw_goto hm_106 dX8_freeEnd_24 (t := 2) rfl ?_
        exact zw_sub (ma_nd_of (ks := [0, 2]) rfl (by decide)) (ma_nd_of (ks := [2, 0]) rfl (by decide)) (ma_le_cons rfl (ma_le_cons rfl (ma_le_nil _))) h
      · intro hc
        rw [if_neg hc] at h
        refine zw_push hm_89 dX7_thingFrom_11 (v := .inr (.inr (some 69))) rfl ?_
        refine zw_gf hm_89 dX7_thingFrom_12 (v := .inr (.inr (some 71))) (zT_is hS s_69) (zT_t hS s_69) rfl f_7_17_7 (zT_f hS r_69_1) ?_
        refine zw_push hm_89 dX7_thingFrom_15 (v := .inl l2) rfl ?_
        obtain ⟨hg, h⟩ := h
        refine zw_ia hm_89 dX7_thingFrom_16 (zT_is hS s_71) (zT_h hS s_71) rfl hg ?_
        show ma_wp X (d - 1) (w - 22) 89 17 [(0, .inr (.inr (some 69))), (1, .inl l2)] [.inl (mI S 71 l2.toNatClampNeg)] S _
        refine zw_goto hm_89 dX7_thingFrom_17 (t := 21) rfl ?_
        refine zw_sto hm_89 dX7_thingFrom_21 [(2, .inl (mI S 71 l2.toNatClampNeg)), (0, .inr (.inr (some 69))), (1, .inl l2)] rfl rfl rfl ?_
        refine zw_push hm_89 dX7_thingFrom_22 (v := .inl (mI S 71 l2.toNatClampNeg)) rfl ?_
        refine zw_if0 hm_89 dX7_thingFrom_23 (t := 42) rfl zc0_lt ?_ ?_
        · intro hc
          rw [if_pos hc] at h
          refine zw_push hm_89 dX7_thingFrom_42 (v := .inr (.inr none)) rfl ?_
          refine zw_aret hm_89 dX7_thingFrom_43 ?_
          show ma_wp X d w 106 18 [(0, .inr (.inr (some 79))), (2, .inl l2)] [.inr (.inr none)] S _
          refine zw_ifnonnull hm_106 dX8_freeEnd_18 (t := 27) rfl (fun _ => ?_) (fun _ z => by cases z)
          refine zw_sto hm_106 dX8_freeEnd_21 [(2, .inl (l2 + (1 : Int32))), (0, .inr (.inr (some 79)))] rfl rfl rfl ?_
          refine zw_goto hm_106 dX8_freeEnd_24 (t := 2) rfl ?_
          exact zw_sub (ma_nd_of (ks := [0, 2]) rfl (by decide)) (ma_nd_of (ks := [2, 0]) rfl (by decide)) (ma_le_cons rfl (ma_le_cons rfl (ma_le_nil _))) h
        · intro hc
          rw [if_neg hc] at h
          refine zw_push hm_89 dX7_thingFrom_26 (v := .inl (mI S 71 l2.toNatClampNeg)) rfl ?_
          refine zw_push hm_89 dX7_thingFrom_27 (v := .inl (512 : Int32)) rfl ?_
          refine zw_if2 hm_89 dX7_thingFrom_30 (t := 42) rfl zc2_ge ?_ ?_
          · intro hc
            rw [if_pos hc] at h
            refine zw_push hm_89 dX7_thingFrom_42 (v := .inr (.inr none)) rfl ?_
            refine zw_aret hm_89 dX7_thingFrom_43 ?_
            show ma_wp X d w 106 18 [(0, .inr (.inr (some 79))), (2, .inl l2)] [.inr (.inr none)] S _
            refine zw_ifnonnull hm_106 dX8_freeEnd_18 (t := 27) rfl (fun _ => ?_) (fun _ z => by cases z)
            refine zw_sto hm_106 dX8_freeEnd_21 [(2, .inl (l2 + (1 : Int32))), (0, .inr (.inr (some 79)))] rfl rfl rfl ?_
            refine zw_goto hm_106 dX8_freeEnd_24 (t := 2) rfl ?_
            exact zw_sub (ma_nd_of (ks := [0, 2]) rfl (by decide)) (ma_nd_of (ks := [2, 0]) rfl (by decide)) (ma_le_cons rfl (ma_le_cons rfl (ma_le_nil _))) h
          · intro hc
            rw [if_neg hc] at h
            refine zw_push hm_89 dX7_thingFrom_33 (v := .inr (.inr (some 69))) rfl ?_
            refine zw_gf hm_89 dX7_thingFrom_34 (v := .inr (.inr (some 70))) (zT_is hS s_69) (zT_t hS s_69) rfl f_7_11_7 (zT_f hS r_69_0) ?_
            refine zw_push hm_89 dX7_thingFrom_37 (v := .inl (mI S 71 l2.toNatClampNeg)) rfl ?_
            obtain ⟨hg, h⟩ := h
            refine zw_aa hm_89 dX7_thingFrom_38 (zT_is hS s_70) (zT_h hS s_70) rfl rfl hg rfl ?_
            show ma_wp X (d - 1) (w - 22) 89 39 [(2, .inl (mI S 71 l2.toNatClampNeg)), (0, .inr (.inr (some 69))), (1, .inl l2)] [.inr (.inr (mR S 70 (mI S 71 l2.toNatClampNeg).toNatClampNeg))] S _
            refine zw_goto hm_89 dX7_thingFrom_39 (t := 43) rfl ?_
            refine zw_aret hm_89 dX7_thingFrom_43 ?_
            show ma_wp X d w 106 18 [(0, .inr (.inr (some 79))), (2, .inl l2)] [.inr (.inr (mR S 70 (mI S 71 l2.toNatClampNeg).toNatClampNeg))] S _
            refine zw_ifnonnull hm_106 dX8_freeEnd_18 (t := 27) rfl ?_ ?_
            · intro hc
              have h := h.1 hc
              (try rw [hc])
              show ma_wp X d w 106 21 [(0, .inr (.inr (some 79))), (2, .inl l2)] [] S _
              refine zw_sto hm_106 dX8_freeEnd_21 [(2, .inl (l2 + (1 : Int32))), (0, .inr (.inr (some 79)))] rfl rfl rfl ?_
              refine zw_goto hm_106 dX8_freeEnd_24 (t := 2) rfl ?_
              exact zw_sub (ma_nd_of (ks := [0, 2]) rfl (by decide)) (ma_nd_of (ks := [2, 0]) rfl (by decide)) (ma_le_cons rfl (ma_le_cons rfl (ma_le_nil _))) h
            · intro c1 hc
              have h := h.2 c1 hc
              (try rw [hc])
              show ma_wp X d w 106 27 [(0, .inr (.inr (some 79))), (2, .inl l2)] [] S _
              refine zw_push hm_106 dX8_freeEnd_27 (v := .inl l2) rfl ?_
              exact zw_iret hm_106 dX8_freeEnd_28 h
theorem lp_106_79_s_2 {X : Nat × (Nat → Int32)} {d w : Nat} {f : Nat → Nat → Int32} {r : Nat → Nat → Option Nat} {C Z N : Nat} {Q : Option ma_V ⊕ Nat → ma_S → Prop} {ab : Nat→Nat→Int32} {p : Int32} {S : ma_S} (hd : 1 ≤ d) (hw : 22 ≤ w) (K : ∀ v S₉, S₉ = S → (0 ≤ v.toInt ∧ v.toInt ≤ 300000) → (v.toInt = aE ab p.toInt) → Q (.inl (some (.inl v))) S₉) : ∀ (n : Nat) (l2 : Int32), (1500 - l2.toInt).toNat = n → zJ79 f r C Z N S → (0 ≤ l2.toInt) → (l2.toInt ≤ 300000) → (xB S (mR S 70)) → (aT 79 S = ab) → (aE ab l2.toInt = aE ab p.toInt) → ma_wp X d w 106 2 [(0, .inr (.inr (some 79))), (2, .inl l2)] [] S Q := by
  intro n
  induction n using Nat.strongRecOn with
  | _ n IH =>
    intro l2 hmu hI  hi0 hi1 hi2 hi3 hi4
    refine g_106_79_s_2 l2 (by omega) (by omega) (zG_T hI) ?_
    have f1 := zG_s hI (0) (1500) (c := 79) (k := 2) (by decide)
    have b2 := i_bd l2
    refine zd (fun h3 => ?_) (fun h3 => ?_)
    · skip
      have g4 := i_le h3
      exact K (l2) _ rfl (by omega) (show l2.toInt = aE ab p.toInt from by first | (have ef := hi4; have r0 := (congrArg Int32.toInt (show aT 79 S 87 0 = mI S 79 2 from rfl)); have z := aE_st (a := aT 79 S) (p := l2.toInt) (by omega); rw [hi3] at z; omega))
    · skip
      have g5 := i_nle h3
      have li6 : (0 : Int32).toInt = 0 := rfl
      refine zd (fun h7 => ?_) (fun h7 => ?_)
      · skip
        have g8 := i_lt h7
        first | have e9 : (l2 + (1 : Int32)).toInt = l2.toInt + (1) := i_addk rfl (by omega) (by omega) | have b10 := i_bd (l2 + (1 : Int32))
        exact IH _ (by omega) ((l2 + (1 : Int32))) rfl hI (by omega) (by omega) (show xB S (mR S 70) from by first | (exact xB_x (xC_o (W := 75) hi2).2)) (show aT 79 S = ab from by first | (exact hi3)) (show aE ab ((l2 + (1 : Int32))).toInt = aE ab p.toInt from by first | (have r0 := (congrArg Int32.toInt (show aT 79 S 87 0 = mI S 79 2 from rfl)); have o := ob_n1 (a := aT 79 S) (p := l2.toInt) (by omega); have z := aE_go (a := aT 79 S) (p := l2.toInt) (by omega) (ob_neg o); rw [hi3] at z; rw [show (l2 + (1 : Int32)).toInt = l2.toInt + 1 from by omega]; exact z.symm.trans hi4) | (have r0 := (congrArg Int32.toInt (show aT 79 S 87 0 = mI S 79 2 from rfl)); have o := tb_n2 (P := 79) (S := S) (x := l2) (by omega); have z := aE_go (a := aT 79 S) (p := l2.toInt) (by omega) (ob_neg o); rw [hi3] at z; rw [show (l2 + (1 : Int32)).toInt = l2.toInt + 1 from by omega]; exact z.symm.trans hi4))
      · skip
        have g11 := i_nlt h7
        have li12 : (4500 : Int32).toInt = 4500 := rfl
        refine zd (fun h13 => ?_) (fun h13 => ?_)
        · skip
          have g14 := i_le h13
          first | have e15 : (l2 + (1 : Int32)).toInt = l2.toInt + (1) := i_addk rfl (by omega) (by omega) | have b16 := i_bd (l2 + (1 : Int32))
          exact IH _ (by omega) ((l2 + (1 : Int32))) rfl hI (by omega) (by omega) (show xB S (mR S 70) from by first | (exact xB_x (xC_o (W := 75) hi2).2)) (show aT 79 S = ab from by first | (exact hi3)) (show aE ab ((l2 + (1 : Int32))).toInt = aE ab p.toInt from by first | (have r0 := (congrArg Int32.toInt (show aT 79 S 87 0 = mI S 79 2 from rfl)); have o := ob_n1 (a := aT 79 S) (p := l2.toInt) (by omega); have z := aE_go (a := aT 79 S) (p := l2.toInt) (by omega) (ob_neg o); rw [hi3] at z; rw [show (l2 + (1 : Int32)).toInt = l2.toInt + 1 from by omega]; exact z.symm.trans hi4) | (have r0 := (congrArg Int32.toInt (show aT 79 S 87 0 = mI S 79 2 from rfl)); have o := tb_n2 (P := 79) (S := S) (x := l2) (by omega); have z := aE_go (a := aT 79 S) (p := l2.toInt) (by omega) (ob_neg o); rw [hi3] at z; rw [show (l2 + (1 : Int32)).toInt = l2.toInt + 1 from by omega]; exact z.symm.trans hi4))
        · skip
          have g17 := i_nle h13
          refine ⟨i_ix (by omega) (by omega), ?_⟩
          have b18 := i_bd (mI S 71 l2.toNatClampNeg)
          refine zd (fun h19 => ?_) (fun h19 => ?_)
          · skip
            have g20 := i_lt h19
            first | have e21 : (l2 + (1 : Int32)).toInt = l2.toInt + (1) := i_addk rfl (by omega) (by omega) | have b22 := i_bd (l2 + (1 : Int32))
            exact IH _ (by omega) ((l2 + (1 : Int32))) rfl hI (by omega) (by omega) (show xB S (mR S 70) from by first | (exact xB_x (xC_o (W := 75) hi2).2)) (show aT 79 S = ab from by first | (exact hi3)) (show aE ab ((l2 + (1 : Int32))).toInt = aE ab p.toInt from by first | (have r0 := (congrArg Int32.toInt (show aT 79 S 87 0 = mI S 79 2 from rfl)); have o := ob_n1 (a := aT 79 S) (p := l2.toInt) (by omega); have z := aE_go (a := aT 79 S) (p := l2.toInt) (by omega) (ob_neg o); rw [hi3] at z; rw [show (l2 + (1 : Int32)).toInt = l2.toInt + 1 from by omega]; exact z.symm.trans hi4) | (have r0 := (congrArg Int32.toInt (show aT 79 S 87 0 = mI S 79 2 from rfl)); have o := tb_n2 (P := 79) (S := S) (x := l2) (by omega); have z := aE_go (a := aT 79 S) (p := l2.toInt) (by omega) (ob_neg o); rw [hi3] at z; rw [show (l2 + (1 : Int32)).toInt = l2.toInt + 1 from by omega]; exact z.symm.trans hi4))
          · skip
            have g23 := i_nlt h19
            have li24 : (512 : Int32).toInt = 512 := rfl
            refine zd (fun h25 => ?_) (fun h25 => ?_)
            · skip
              have g26 := i_le h25
              first | have e27 : (l2 + (1 : Int32)).toInt = l2.toInt + (1) := i_addk rfl (by omega) (by omega) | have b28 := i_bd (l2 + (1 : Int32))
              exact IH _ (by omega) ((l2 + (1 : Int32))) rfl hI (by omega) (by omega) (show xB S (mR S 70) from by first | (exact xB_x (xC_o (W := 75) hi2).2)) (show aT 79 S = ab from by first | (exact hi3)) (show aE ab ((l2 + (1 : Int32))).toInt = aE ab p.toInt from by first | (have r0 := (congrArg Int32.toInt (show aT 79 S 87 0 = mI S 79 2 from rfl)); have o := ob_n1 (a := aT 79 S) (p := l2.toInt) (by omega); have z := aE_go (a := aT 79 S) (p := l2.toInt) (by omega) (ob_neg o); rw [hi3] at z; rw [show (l2 + (1 : Int32)).toInt = l2.toInt + 1 from by omega]; exact z.symm.trans hi4) | (have r0 := (congrArg Int32.toInt (show aT 79 S 87 0 = mI S 79 2 from rfl)); have o := tb_n2 (P := 79) (S := S) (x := l2) (by omega); have z := aE_go (a := aT 79 S) (p := l2.toInt) (by omega) (ob_neg o); rw [hi3] at z; rw [show (l2 + (1 : Int32)).toInt = l2.toInt + 1 from by omega]; exact z.symm.trans hi4))
            · skip
              have g29 := i_nle h25
              refine ⟨i_ix (by omega) (by omega), ?_⟩
              refine ⟨fun hc => ?_, fun c1 hc => ?_⟩
              · skip
                have rn_c1 : zTa (mR S 70) (mI S 71 l2.toNatClampNeg) = none := (ta_rd (y := (mI S 71 l2.toNatClampNeg)) hi2 (by omega) (by omega)).symm.trans hc
                first | have e30 : (l2 + (1 : Int32)).toInt = l2.toInt + (1) := i_addk rfl (by omega) (by omega) | have b31 := i_bd (l2 + (1 : Int32))
                exact IH _ (by omega) ((l2 + (1 : Int32))) rfl hI (by omega) (by omega) (show xB S (mR S 70) from by first | (exact xB_x (xC_o (W := 75) hi2).2)) (show aT 79 S = ab from by first | (exact hi3)) (show aE ab ((l2 + (1 : Int32))).toInt = aE ab p.toInt from by first | (have r0 := (congrArg Int32.toInt (show aT 79 S 87 0 = mI S 79 2 from rfl)); have o := tb_n3 (P := 79) (x := l2) hi2 rn_c1; have z := aE_go (a := aT 79 S) (p := l2.toInt) (by omega) (ob_neg o); rw [hi3] at z; rw [show (l2 + (1 : Int32)).toInt = l2.toInt + 1 from by omega]; exact z.symm.trans hi4))
              · skip
                have th_c1 := (fun _ z => zG_70 hI (c := 70) (by decide) z) c1 hc
                have rg_c1 : zTa (mR S 70) (mI S 71 l2.toNatClampNeg) = some c1 := (ta_rd (y := (mI S 71 l2.toNatClampNeg)) hi2 (by omega) (by omega)).symm.trans hc
                exact K (l2) _ rfl (by omega) (show l2.toInt = aE ab p.toInt from by first | (have ef := hi4; have r0 := (congrArg Int32.toInt (show aT 79 S 87 0 = mI S 79 2 from rfl)); have o := tb_y (P := 79) (x := l2) hi2 rg_c1 (by omega) (by omega); have z := aE_st (a := aT 79 S) (p := l2.toInt) (fun w => by rw [o.1] at w; omega); rw [hi3] at z; omega))
theorem sp_106_79_s {X : Nat × (Nat → Int32)} {d w : Nat} {f : Nat → Nat → Int32} {r : Nat → Nat → Option Nat} {C Z N : Nat} {Q : Option ma_V ⊕ Nat → ma_S → Prop} {ab : Nat→Nat→Int32} {S : ma_S} (p : Int32) (hd : 1 ≤ d) (hw : 22 ≤ w) (hI : zJ79 f r C Z N S) (hpre0 : xB S (mR S 70)) (hpre1 : aT 79 S = ab) (hpre2 : 0 ≤ p.toInt) (hpre3 : p.toInt ≤ 300000) (K : ∀ v S₉, S₉ = S → (0 ≤ v.toInt ∧ v.toInt ≤ 300000) → (v.toInt = aE ab p.toInt) → Q (.inl (some (.inl v))) S₉) : ma_wp X d w 106 0 [(0, .inr (.inr (some 79))), (1, .inl p)] [] S Q := by
  refine g_106_79_s_0 p (by omega) (by omega) (zG_T hI) ?_
  have b1 := i_bd p
  exact lp_106_79_s_2 (by omega) (by omega) K _ (p) rfl hI (by omega) (by omega) (show xB S (mR S 70) from by first | (exact xB_x (xC_o (W := 75) hpre0).2)) (show aT 79 S = ab from by first | (exact hpre1)) (show aE ab (p).toInt = aE ab p.toInt from by first | (exact rfl))

