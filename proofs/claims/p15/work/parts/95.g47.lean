/-! the heap by numbers, the class (written by wip/tools/gen18.py) -/
theorem g_129_64_s_0 {X : Nat × (Nat → Int32)} {d w : Nat} {S : ma_S} {Q : Option ma_V ⊕ Nat → ma_S → Prop}  (hd : 0 ≤ d) (hw : 0 ≤ w) (hS : zT S) (h : ma_wp X d w 129 5 [(0, .inr (.inr (some 64))), (1, .inl (mI S 64 3))] [] S Q) : ma_wp X d w 129 0 [(0, .inr (.inr (some 64)))] [] S Q := by
  refine zw_push hm_129 dX11_nextToken_0 (v := .inr (.inr (some 64))) rfl ?_
  refine zw_gf hm_129 dX11_nextToken_1 (v := .inl (mI S 64 3)) (zT_is hS s_64) (zT_t hS s_64) rfl f_11_275_11 rfl ?_
  refine zw_sto hm_129 dX11_nextToken_4 [(1, .inl (mI S 64 3)), (0, .inr (.inr (some 64)))] rfl rfl rfl ?_
  exact zw_sub (ma_nd_of (ks := [0, 1]) rfl (by decide)) (ma_nd_of (ks := [1, 0]) rfl (by decide)) (ma_le_cons rfl (ma_le_cons rfl (ma_le_nil _))) h
theorem g_129_64_s_5 {X : Nat × (Nat → Int32)} {d w : Nat} {S : ma_S} {Q : Option ma_V ⊕ Nat → ma_S → Prop} (l1 : Int32) (hd : 0 ≤ d) (hw : 0 ≤ w) (hS : zT S) (h : if (mI S 64 1) ≤ l1 then (ma_wp X d w 129 35 [(0, .inr (.inr (some 64))), (1, .inl l1)] [] (ma_put S 64 2 (.inl l1)) Q) else ((0 ≤ l1 ∧ l1.toNatClampNeg < 100) ∧ (if (mI S 65 l1.toNatClampNeg) = (32 : Int32) then (ma_wp X d w 129 5 [(0, .inr (.inr (some 64))), (1, .inl (l1 + (1 : Int32)))] [] S Q) else (ma_wp X d w 129 35 [(0, .inr (.inr (some 64))), (1, .inl l1)] [] (ma_put S 64 2 (.inl l1)) Q)))) : ma_wp X d w 129 5 [(0, .inr (.inr (some 64))), (1, .inl l1)] [] S Q := by
  refine zw_push hm_129 dX11_nextToken_5 (v := .inl l1) rfl ?_
  refine zw_push hm_129 dX11_nextToken_6 (v := .inr (.inr (some 64))) rfl ?_
  refine zw_gf hm_129 dX11_nextToken_7 (v := .inl (mI S 64 1)) (zT_is hS s_64) (zT_t hS s_64) rfl f_11_68_11 rfl ?_
  refine zw_if2 hm_129 dX11_nextToken_10 (t := 30) rfl zc2_ge ?_ ?_
  · intro hc
    rw [if_pos hc] at h
    refine zw_push hm_129 dX11_nextToken_30 (v := .inr (.inr (some 64))) rfl ?_
    refine zw_push hm_129 dX11_nextToken_31 (v := .inl l1) rfl ?_
    refine zw_pf hm_129 dX11_nextToken_32 (zT_is hS s_64) (zT_t hS s_64) p_11_92_11 zk_int ?_
    exact h
  · intro hc
    rw [if_neg hc] at h
    refine zw_push hm_129 dX11_nextToken_13 (v := .inr (.inr (some 64))) rfl ?_
    refine zw_gf hm_129 dX11_nextToken_14 (v := .inr (.inr (some 65))) (zT_is hS s_64) (zT_t hS s_64) rfl f_11_9_11 (zT_f hS r_64_0) ?_
    refine zw_push hm_129 dX11_nextToken_17 (v := .inl l1) rfl ?_
    obtain ⟨hg, h⟩ := h
    refine zw_ba hm_129 dX11_nextToken_18 (zT_is hS s_65) (zT_h hS s_65) rfl rfl hg ?_
    show ma_wp X d w 129 19 [(0, .inr (.inr (some 64))), (1, .inl l1)] [.inl (mI S 65 l1.toNatClampNeg)] S _
    refine zw_push hm_129 dX11_nextToken_19 (v := .inl (32 : Int32)) rfl ?_
    refine zw_if2 hm_129 dX11_nextToken_21 (t := 30) rfl zc2_ne ?_ ?_
    · intro hc
      rw [if_neg hc] at h
      refine zw_push hm_129 dX11_nextToken_30 (v := .inr (.inr (some 64))) rfl ?_
      refine zw_push hm_129 dX11_nextToken_31 (v := .inl l1) rfl ?_
      refine zw_pf hm_129 dX11_nextToken_32 (zT_is hS s_64) (zT_t hS s_64) p_11_92_11 zk_int ?_
      exact h
    · intro hc
      rw [if_pos (Classical.not_not.mp hc)] at h
      refine zw_sto hm_129 dX11_nextToken_24 [(1, .inl (l1 + (1 : Int32))), (0, .inr (.inr (some 64)))] rfl rfl rfl ?_
      refine zw_goto hm_129 dX11_nextToken_27 (t := 5) rfl ?_
      exact zw_sub (ma_nd_of (ks := [0, 1]) rfl (by decide)) (ma_nd_of (ks := [1, 0]) rfl (by decide)) (ma_le_cons rfl (ma_le_cons rfl (ma_le_nil _))) h
theorem g_129_64_s_35 {X : Nat × (Nat → Int32)} {d w : Nat} {S : ma_S} {Q : Option ma_V ⊕ Nat → ma_S → Prop} (l1 : Int32) (hd : 0 ≤ d) (hw : 0 ≤ w) (hS : zT S) (h : if (mI S 64 1) ≤ l1 then (if l1 ≤ (mI S 64 2) then (Q (.inl (some (.inl (0 : Int32)))) (ma_put S 64 3 (.inl l1))) else (Q (.inl (some (.inl (1 : Int32)))) (ma_put S 64 3 (.inl l1)))) else ((0 ≤ l1 ∧ l1.toNatClampNeg < 100) ∧ (if (mI S 65 l1.toNatClampNeg) = (32 : Int32) then (if l1 ≤ (mI S 64 2) then (Q (.inl (some (.inl (0 : Int32)))) (ma_put S 64 3 (.inl l1))) else (Q (.inl (some (.inl (1 : Int32)))) (ma_put S 64 3 (.inl l1)))) else (ma_wp X d w 129 35 [(0, .inr (.inr (some 64))), (1, .inl (l1 + (1 : Int32)))] [] S Q)))) : ma_wp X d w 129 35 [(0, .inr (.inr (some 64))), (1, .inl l1)] [] S Q := by
  refine zw_push hm_129 dX11_nextToken_35 (v := .inl l1) rfl ?_
  refine zw_push hm_129 dX11_nextToken_36 (v := .inr (.inr (some 64))) rfl ?_
  refine zw_gf hm_129 dX11_nextToken_37 (v := .inl (mI S 64 1)) (zT_is hS s_64) (zT_t hS s_64) rfl f_11_68_11 rfl ?_
  refine zw_if2 hm_129 dX11_nextToken_40 (t := 60) rfl zc2_ge ?_ ?_
  · intro hc
    rw [if_pos hc] at h
    refine zw_push hm_129 dX11_nextToken_60 (v := .inr (.inr (some 64))) rfl ?_
    refine zw_push hm_129 dX11_nextToken_61 (v := .inl l1) rfl ?_
    refine zw_pf hm_129 dX11_nextToken_62 (zT_is hS s_64) (zT_t hS s_64) p_11_275_11 zk_int ?_
    refine zw_push hm_129 dX11_nextToken_65 (v := .inr (.inr (some 64))) rfl ?_
    refine zw_gf hm_129 dX11_nextToken_66 (v := .inl (mI S 64 2)) (zT_is (zT_pi hS) s_64) (zT_t (zT_pi hS) s_64) rfl f_11_92_11 rfl ?_
    refine zw_push hm_129 dX11_nextToken_69 (v := .inr (.inr (some 64))) rfl ?_
    refine zw_gf hm_129 dX11_nextToken_70 (v := .inl l1) (zT_is (zT_pi hS) s_64) (zT_t (zT_pi hS) s_64) rfl f_11_275_11 rfl ?_
    refine zw_if2 hm_129 dX11_nextToken_73 (t := 80) rfl zc2_ge ?_ ?_
    · intro hc
      rw [if_pos hc] at h
      refine zw_push hm_129 dX11_nextToken_80 (v := .inl (0 : Int32)) rfl ?_
      exact zw_bret hm_129 dX11_nextToken_81 (by decide) h
    · intro hc
      rw [if_neg hc] at h
      refine zw_push hm_129 dX11_nextToken_76 (v := .inl (1 : Int32)) rfl ?_
      refine zw_goto hm_129 dX11_nextToken_77 (t := 81) rfl ?_
      exact zw_bret hm_129 dX11_nextToken_81 (by decide) h
  · intro hc
    rw [if_neg hc] at h
    refine zw_push hm_129 dX11_nextToken_43 (v := .inr (.inr (some 64))) rfl ?_
    refine zw_gf hm_129 dX11_nextToken_44 (v := .inr (.inr (some 65))) (zT_is hS s_64) (zT_t hS s_64) rfl f_11_9_11 (zT_f hS r_64_0) ?_
    refine zw_push hm_129 dX11_nextToken_47 (v := .inl l1) rfl ?_
    obtain ⟨hg, h⟩ := h
    refine zw_ba hm_129 dX11_nextToken_48 (zT_is hS s_65) (zT_h hS s_65) rfl rfl hg ?_
    show ma_wp X d w 129 49 [(0, .inr (.inr (some 64))), (1, .inl l1)] [.inl (mI S 65 l1.toNatClampNeg)] S _
    refine zw_push hm_129 dX11_nextToken_49 (v := .inl (32 : Int32)) rfl ?_
    refine zw_if2 hm_129 dX11_nextToken_51 (t := 60) rfl zc2_eq ?_ ?_
    · intro hc
      rw [if_pos hc] at h
      refine zw_push hm_129 dX11_nextToken_60 (v := .inr (.inr (some 64))) rfl ?_
      refine zw_push hm_129 dX11_nextToken_61 (v := .inl l1) rfl ?_
      refine zw_pf hm_129 dX11_nextToken_62 (zT_is hS s_64) (zT_t hS s_64) p_11_275_11 zk_int ?_
      refine zw_push hm_129 dX11_nextToken_65 (v := .inr (.inr (some 64))) rfl ?_
      refine zw_gf hm_129 dX11_nextToken_66 (v := .inl (mI S 64 2)) (zT_is (zT_pi hS) s_64) (zT_t (zT_pi hS) s_64) rfl f_11_92_11 rfl ?_
      refine zw_push hm_129 dX11_nextToken_69 (v := .inr (.inr (some 64))) rfl ?_
      refine zw_gf hm_129 dX11_nextToken_70 (v := .inl l1) (zT_is (zT_pi hS) s_64) (zT_t (zT_pi hS) s_64) rfl f_11_275_11 rfl ?_
      refine zw_if2 hm_129 dX11_nextToken_73 (t := 80) rfl zc2_ge ?_ ?_
      · intro hc
        rw [if_pos hc] at h
        refine zw_push hm_129 dX11_nextToken_80 (v := .inl (0 : Int32)) rfl ?_
        exact zw_bret hm_129 dX11_nextToken_81 (by decide) h
      · intro hc
        rw [if_neg hc] at h
        refine zw_push hm_129 dX11_nextToken_76 (v := .inl (1 : Int32)) rfl ?_
        refine zw_goto hm_129 dX11_nextToken_77 (t := 81) rfl ?_
        exact zw_bret hm_129 dX11_nextToken_81 (by decide) h
    · intro hc
      rw [if_neg hc] at h
      refine zw_sto hm_129 dX11_nextToken_54 [(1, .inl (l1 + (1 : Int32))), (0, .inr (.inr (some 64)))] rfl rfl rfl ?_
      refine zw_goto hm_129 dX11_nextToken_57 (t := 35) rfl ?_
      exact zw_sub (ma_nd_of (ks := [0, 1]) rfl (by decide)) (ma_nd_of (ks := [1, 0]) rfl (by decide)) (ma_le_cons rfl (ma_le_cons rfl (ma_le_nil _))) h
theorem lp_129_64_s_35 {X : Nat × (Nat → Int32)} {d w : Nat} {f : Nat → Nat → Int32} {r : Nat → Nat → Option Nat} {C Z N : Nat} {Q : Option ma_V ⊕ Nat → ma_S → Prop} {p0 : Int} {R : zRT} {a8 : Nat→Nat→Int32} (hd : 0 ≤ d) (hw : 0 ≤ w) (K : ∀ v S', zY f r C Z N S' → (v = 0 ∨ v = 1) → ((mI S' 64 2).toInt = tk true (f 65) (f 64 1).toInt p0) → ((mI S' 64 3).toInt = tk false (f 65) (f 64 1).toInt (mI S' 64 2).toInt) → ((v.toInt = 1 ∧ (mI S' 64 2).toInt < (mI S' 64 3).toInt) ∨ (v.toInt = 0 ∧ (mI S' 64 3).toInt ≤ (mI S' 64 2).toInt)) → ((mI S' 64 2).toInt ≤ (mI S' 64 3).toInt) → (xB S' R) → (aS 88 S' = a8) → Q (.inl (some (.inl v))) S') : ∀ (n : Nat) (S : ma_S) (l1 : Int32), (100 - l1.toInt).toNat = n → zY f r C Z N S → (0 ≤ l1.toInt) → (l1.toInt ≤ 100) → ((mI S 64 2).toInt ≤ l1.toInt) → ((mI S 64 2).toInt = tk true (f 65) (f 64 1).toInt p0) → (tk false (f 65) (f 64 1).toInt l1.toInt = tk false (f 65) (f 64 1).toInt (mI S 64 2).toInt) → (xB S R) → (aS 88 S = a8) → ma_wp X d w 129 35 [(0, .inr (.inr (some 64))), (1, .inl l1)] [] S Q := by
  intro n
  induction n using Nat.strongRecOn with
  | _ n IH =>
    intro S l1 hmu hI  hi0 hi1 hi2 hi3 hi4 hi5 hi6
    refine g_129_64_s_35 l1 (by omega) (by omega) (zG_T hI) ?_
    have f1 := zG_s hI (0) (100) (c := 64) (k := 2) (by decide)
    have q2 : (mI S 64 1).toInt = (f 64 1).toInt := zG_zi hI rfl
    have f3 := zG_s hI (0) (100) (c := 64) (k := 1) (by decide)
    have b4 := i_bd l1
    refine zd (fun h5 => ?_) (fun h5 => ?_)
    · skip
      have g6 := i_le h5
      refine zd (fun h7 => ?_) (fun h7 => ?_)
      · skip
        have g8 := i_le h7
        have hI9 : zY f r C Z N (ma_put S 64 3 (.inl l1)) := zG_sp hI (0) (100) rfl (by decide) (by decide) (by decide) trivial (by omega) (by omega)
        have li10 : (0 : Int32).toInt = 0 := rfl
        exact K ((0 : Int32)) _ hI9 (by decide) (show (mI S 64 2).toInt = tk true (f 65) (f 64 1).toInt p0 from by first | (exact hi3) | (omega) | (exfalso; omega)) (show l1.toInt = tk false (f 65) (f 64 1).toInt (mI S 64 2).toInt from by first | (exact ((tk_e (by omega)).symm.trans hi4)) | (exact ((tk_w0 (x := mI S 65 l1.toNatClampNeg) (zG_z hI rfl) (by assumption)).symm.trans hi4)) | (omega) | (exfalso; omega)) (show ((0 : Int32).toInt = 1 ∧ (mI S 64 2).toInt < l1.toInt) ∨ ((0 : Int32).toInt = 0 ∧ l1.toInt ≤ (mI S 64 2).toInt) from by first | (omega) | (exfalso; omega)) (show (mI S 64 2).toInt ≤ l1.toInt from by first | (omega) | (exfalso; omega)) (show xB (ma_put S 64 3 (.inl l1)) R from by first | (exact (xC_n (c := 64) (k := 3) (x := l1) (xC_o (W := 75) hi5) ⟨by decide, Or.inl ⟨rfl, rfl⟩⟩).2)) (show aS 88 (ma_put S 64 3 (.inl l1)) = a8 from by first | (exact (xC_n (c := 64) (k := 3) (x := l1) (xC_o (W := 88) hi5) ⟨by decide, Or.inr ⟨rfl, Or.inr ⟨rfl, by decide⟩⟩⟩).1.trans hi6))
      · skip
        have g11 := i_nle h7
        have hI12 : zY f r C Z N (ma_put S 64 3 (.inl l1)) := zG_sp hI (0) (100) rfl (by decide) (by decide) (by decide) trivial (by omega) (by omega)
        have li13 : (1 : Int32).toInt = 1 := rfl
        exact K ((1 : Int32)) _ hI12 (by decide) (show (mI S 64 2).toInt = tk true (f 65) (f 64 1).toInt p0 from by first | (exact hi3) | (omega) | (exfalso; omega)) (show l1.toInt = tk false (f 65) (f 64 1).toInt (mI S 64 2).toInt from by first | (exact ((tk_e (by omega)).symm.trans hi4)) | (exact ((tk_w0 (x := mI S 65 l1.toNatClampNeg) (zG_z hI rfl) (by assumption)).symm.trans hi4)) | (omega) | (exfalso; omega)) (show ((1 : Int32).toInt = 1 ∧ (mI S 64 2).toInt < l1.toInt) ∨ ((1 : Int32).toInt = 0 ∧ l1.toInt ≤ (mI S 64 2).toInt) from by first | (omega) | (exfalso; omega)) (show (mI S 64 2).toInt ≤ l1.toInt from by first | (omega) | (exfalso; omega)) (show xB (ma_put S 64 3 (.inl l1)) R from by first | (exact (xC_n (c := 64) (k := 3) (x := l1) (xC_o (W := 75) hi5) ⟨by decide, Or.inl ⟨rfl, rfl⟩⟩).2)) (show aS 88 (ma_put S 64 3 (.inl l1)) = a8 from by first | (exact (xC_n (c := 64) (k := 3) (x := l1) (xC_o (W := 88) hi5) ⟨by decide, Or.inr ⟨rfl, Or.inr ⟨rfl, by decide⟩⟩⟩).1.trans hi6))
    · skip
      have g14 := i_nle h5
      refine ⟨i_ix (by omega) (by omega), ?_⟩
      have q15 : (mI S 65 l1.toNatClampNeg).toInt = (f 65 l1.toNatClampNeg).toInt := zG_zi hI rfl
      have b16 := i_bd (mI S 65 l1.toNatClampNeg)
      have li17 : (32 : Int32).toInt = 32 := rfl
      refine zd (fun h18 => ?_) (fun h18 => ?_)
      · skip
        have g19 := i_eq h18
        refine zd (fun h20 => ?_) (fun h20 => ?_)
        · skip
          have g21 := i_le h20
          have hI22 : zY f r C Z N (ma_put S 64 3 (.inl l1)) := zG_sp hI (0) (100) rfl (by decide) (by decide) (by decide) trivial (by omega) (by omega)
          have li23 : (0 : Int32).toInt = 0 := rfl
          exact K ((0 : Int32)) _ hI22 (by decide) (show (mI S 64 2).toInt = tk true (f 65) (f 64 1).toInt p0 from by first | (exact hi3) | (omega) | (exfalso; omega)) (show l1.toInt = tk false (f 65) (f 64 1).toInt (mI S 64 2).toInt from by first | (exact ((tk_e (by omega)).symm.trans hi4)) | (exact ((tk_w0 (x := mI S 65 l1.toNatClampNeg) (zG_z hI rfl) (by assumption)).symm.trans hi4)) | (omega) | (exfalso; omega)) (show ((0 : Int32).toInt = 1 ∧ (mI S 64 2).toInt < l1.toInt) ∨ ((0 : Int32).toInt = 0 ∧ l1.toInt ≤ (mI S 64 2).toInt) from by first | (omega) | (exfalso; omega)) (show (mI S 64 2).toInt ≤ l1.toInt from by first | (omega) | (exfalso; omega)) (show xB (ma_put S 64 3 (.inl l1)) R from by first | (exact (xC_n (c := 64) (k := 3) (x := l1) (xC_o (W := 75) hi5) ⟨by decide, Or.inl ⟨rfl, rfl⟩⟩).2)) (show aS 88 (ma_put S 64 3 (.inl l1)) = a8 from by first | (exact (xC_n (c := 64) (k := 3) (x := l1) (xC_o (W := 88) hi5) ⟨by decide, Or.inr ⟨rfl, Or.inr ⟨rfl, by decide⟩⟩⟩).1.trans hi6))
        · skip
          have g24 := i_nle h20
          have hI25 : zY f r C Z N (ma_put S 64 3 (.inl l1)) := zG_sp hI (0) (100) rfl (by decide) (by decide) (by decide) trivial (by omega) (by omega)
          have li26 : (1 : Int32).toInt = 1 := rfl
          exact K ((1 : Int32)) _ hI25 (by decide) (show (mI S 64 2).toInt = tk true (f 65) (f 64 1).toInt p0 from by first | (exact hi3) | (omega) | (exfalso; omega)) (show l1.toInt = tk false (f 65) (f 64 1).toInt (mI S 64 2).toInt from by first | (exact ((tk_e (by omega)).symm.trans hi4)) | (exact ((tk_w0 (x := mI S 65 l1.toNatClampNeg) (zG_z hI rfl) (by assumption)).symm.trans hi4)) | (omega) | (exfalso; omega)) (show ((1 : Int32).toInt = 1 ∧ (mI S 64 2).toInt < l1.toInt) ∨ ((1 : Int32).toInt = 0 ∧ l1.toInt ≤ (mI S 64 2).toInt) from by first | (omega) | (exfalso; omega)) (show (mI S 64 2).toInt ≤ l1.toInt from by first | (omega) | (exfalso; omega)) (show xB (ma_put S 64 3 (.inl l1)) R from by first | (exact (xC_n (c := 64) (k := 3) (x := l1) (xC_o (W := 75) hi5) ⟨by decide, Or.inl ⟨rfl, rfl⟩⟩).2)) (show aS 88 (ma_put S 64 3 (.inl l1)) = a8 from by first | (exact (xC_n (c := 64) (k := 3) (x := l1) (xC_o (W := 88) hi5) ⟨by decide, Or.inr ⟨rfl, Or.inr ⟨rfl, by decide⟩⟩⟩).1.trans hi6))
      · skip
        have g27 := i_ne h18
        first | have e28 : (l1 + (1 : Int32)).toInt = l1.toInt + (1) := i_addk rfl (by omega) (by omega) | have b29 := i_bd (l1 + (1 : Int32))
        exact IH _ (by omega) _ ((l1 + (1 : Int32))) rfl hI (by omega) (by omega) (show (mI S 64 2).toInt ≤ ((l1 + (1 : Int32))).toInt from by omega) (show (mI S 64 2).toInt = tk true (f 65) (f 64 1).toInt p0 from by first | (exact hi3) | (omega) | (exfalso; omega)) (show tk false (f 65) (f 64 1).toInt ((l1 + (1 : Int32))).toInt = tk false (f 65) (f 64 1).toInt (mI S 64 2).toInt from by first | (exact rfl) | (exact (tk_w1 (p := l1.toInt) (x := mI S 65 l1.toNatClampNeg) (by omega) (zG_z hI rfl) (by assumption) (by omega)).symm.trans hi4) | (omega) | (exfalso; omega)) (show xB S R from by first | (exact (xC_o (W := 75) hi5).2)) (show aS 88 S = a8 from by first | (exact (xC_o (W := 88) hi5).1.trans hi6))
theorem lp_129_64_s_5 {X : Nat × (Nat → Int32)} {d w : Nat} {f : Nat → Nat → Int32} {r : Nat → Nat → Option Nat} {C Z N : Nat} {Q : Option ma_V ⊕ Nat → ma_S → Prop} {p0 : Int} {R : zRT} {a8 : Nat→Nat→Int32} (hd : 0 ≤ d) (hw : 0 ≤ w) (K : ∀ v S', zY f r C Z N S' → (v = 0 ∨ v = 1) → ((mI S' 64 2).toInt = tk true (f 65) (f 64 1).toInt p0) → ((mI S' 64 3).toInt = tk false (f 65) (f 64 1).toInt (mI S' 64 2).toInt) → ((v.toInt = 1 ∧ (mI S' 64 2).toInt < (mI S' 64 3).toInt) ∨ (v.toInt = 0 ∧ (mI S' 64 3).toInt ≤ (mI S' 64 2).toInt)) → ((mI S' 64 2).toInt ≤ (mI S' 64 3).toInt) → (xB S' R) → (aS 88 S' = a8) → Q (.inl (some (.inl v))) S') : ∀ (n : Nat) (S : ma_S) (l1 : Int32), (100 - l1.toInt).toNat = n → zY f r C Z N S → (0 ≤ l1.toInt) → (l1.toInt ≤ 100) → (tk true (f 65) (f 64 1).toInt l1.toInt = tk true (f 65) (f 64 1).toInt p0) → (xB S R) → (aS 88 S = a8) → ma_wp X d w 129 5 [(0, .inr (.inr (some 64))), (1, .inl l1)] [] S Q := by
  intro n
  induction n using Nat.strongRecOn with
  | _ n IH =>
    intro S l1 hmu hI  hi0 hi1 hi2 hi3 hi4
    refine g_129_64_s_5 l1 (by omega) (by omega) (zG_T hI) ?_
    have q1 : (mI S 64 1).toInt = (f 64 1).toInt := zG_zi hI rfl
    have f2 := zG_s hI (0) (100) (c := 64) (k := 1) (by decide)
    have b3 := i_bd l1
    refine zd (fun h4 => ?_) (fun h4 => ?_)
    · skip
      have g5 := i_le h4
      have hI6 : zY f r C Z N (ma_put S 64 2 (.inl l1)) := zG_sp hI (0) (100) rfl (by decide) (by decide) (by decide) trivial (by omega) (by omega)
      exact lp_129_64_s_35 (by omega) (by omega) K _ _ (l1) rfl hI6 (by omega) (by omega) (show l1.toInt ≤ (l1).toInt from by omega) (show l1.toInt = tk true (f 65) (f 64 1).toInt p0 from by first | (exact ((tk_e (by omega)).symm.trans hi2)) | (exact ((tk_b0 (x := mI S 65 l1.toNatClampNeg) (zG_z hI rfl) (by assumption)).symm.trans hi2)) | (omega) | (exfalso; omega)) (show tk false (f 65) (f 64 1).toInt (l1).toInt = tk false (f 65) (f 64 1).toInt l1.toInt from by first | (exact rfl) | (omega) | (exfalso; omega)) (show xB (ma_put S 64 2 (.inl l1)) R from by first | (exact (xC_n (c := 64) (k := 2) (x := l1) (xC_o (W := 75) hi3) ⟨by decide, Or.inl ⟨rfl, rfl⟩⟩).2)) (show aS 88 (ma_put S 64 2 (.inl l1)) = a8 from by first | (exact (xC_n (c := 64) (k := 2) (x := l1) (xC_o (W := 88) hi3) ⟨by decide, Or.inr ⟨rfl, Or.inr ⟨rfl, by decide⟩⟩⟩).1.trans hi4))
    · skip
      have g7 := i_nle h4
      refine ⟨i_ix (by omega) (by omega), ?_⟩
      have q8 : (mI S 65 l1.toNatClampNeg).toInt = (f 65 l1.toNatClampNeg).toInt := zG_zi hI rfl
      have b9 := i_bd (mI S 65 l1.toNatClampNeg)
      have li10 : (32 : Int32).toInt = 32 := rfl
      refine zd (fun h11 => ?_) (fun h11 => ?_)
      · skip
        have g12 := i_eq h11
        first | have e13 : (l1 + (1 : Int32)).toInt = l1.toInt + (1) := i_addk rfl (by omega) (by omega) | have b14 := i_bd (l1 + (1 : Int32))
        exact IH _ (by omega) _ ((l1 + (1 : Int32))) rfl hI (by omega) (by omega) (show tk true (f 65) (f 64 1).toInt ((l1 + (1 : Int32))).toInt = tk true (f 65) (f 64 1).toInt p0 from by first | (exact congrArg (tk true _ _) (by omega)) | (exact (tk_b1 (p := l1.toInt) (x := mI S 65 l1.toNatClampNeg) (by omega) (zG_z hI rfl) (by assumption) (by omega)).symm.trans hi2) | (omega) | (exfalso; omega)) (show xB S R from by first | (exact (xC_o (W := 75) hi3).2)) (show aS 88 S = a8 from by first | (exact (xC_o (W := 88) hi3).1.trans hi4))
      · skip
        have g15 := i_ne h11
        have hI16 : zY f r C Z N (ma_put S 64 2 (.inl l1)) := zG_sp hI (0) (100) rfl (by decide) (by decide) (by decide) trivial (by omega) (by omega)
        exact lp_129_64_s_35 (by omega) (by omega) K _ _ (l1) rfl hI16 (by omega) (by omega) (show l1.toInt ≤ (l1).toInt from by omega) (show l1.toInt = tk true (f 65) (f 64 1).toInt p0 from by first | (exact ((tk_e (by omega)).symm.trans hi2)) | (exact ((tk_b0 (x := mI S 65 l1.toNatClampNeg) (zG_z hI rfl) (by assumption)).symm.trans hi2)) | (omega) | (exfalso; omega)) (show tk false (f 65) (f 64 1).toInt (l1).toInt = tk false (f 65) (f 64 1).toInt l1.toInt from by first | (exact rfl) | (omega) | (exfalso; omega)) (show xB (ma_put S 64 2 (.inl l1)) R from by first | (exact (xC_n (c := 64) (k := 2) (x := l1) (xC_o (W := 75) hi3) ⟨by decide, Or.inl ⟨rfl, rfl⟩⟩).2)) (show aS 88 (ma_put S 64 2 (.inl l1)) = a8 from by first | (exact (xC_n (c := 64) (k := 2) (x := l1) (xC_o (W := 88) hi3) ⟨by decide, Or.inr ⟨rfl, Or.inr ⟨rfl, by decide⟩⟩⟩).1.trans hi4))
theorem sp_129_64_s {X : Nat × (Nat → Int32)} {d w : Nat} {f : Nat → Nat → Int32} {r : Nat → Nat → Option Nat} {C Z N : Nat} {Q : Option ma_V ⊕ Nat → ma_S → Prop} {p0 : Int} {R : zRT} {a8 : Nat→Nat→Int32} {S : ma_S}  (hd : 0 ≤ d) (hw : 0 ≤ w) (hI : zY f r C Z N S) (hpre0 : (mI S 64 3).toInt = p0) (hpre1 : xB S R) (hpre2 : aS 88 S = a8) (K : ∀ v S', zY f r C Z N S' → (v = 0 ∨ v = 1) → ((mI S' 64 2).toInt = tk true (f 65) (f 64 1).toInt p0) → ((mI S' 64 3).toInt = tk false (f 65) (f 64 1).toInt (mI S' 64 2).toInt) → ((v.toInt = 1 ∧ (mI S' 64 2).toInt < (mI S' 64 3).toInt) ∨ (v.toInt = 0 ∧ (mI S' 64 3).toInt ≤ (mI S' 64 2).toInt)) → ((mI S' 64 2).toInt ≤ (mI S' 64 3).toInt) → (xB S' R) → (aS 88 S' = a8) → Q (.inl (some (.inl v))) S') : ma_wp X d w 129 0 [(0, .inr (.inr (some 64)))] [] S Q := by
  refine g_129_64_s_0  (by omega) (by omega) (zG_T hI) ?_
  have f1 := zG_s hI (0) (100) (c := 64) (k := 3) (by decide)
  exact lp_129_64_s_5 (by omega) (by omega) K _ _ ((mI S 64 3)) rfl hI (by omega) (by omega) (show tk true (f 65) (f 64 1).toInt ((mI S 64 3)).toInt = tk true (f 65) (f 64 1).toInt p0 from by first | (exact congrArg (tk true _ _) (by omega)) | (omega) | (exfalso; omega)) (show xB S R from by first | (exact (xC_o (W := 75) hpre1).2)) (show aS 88 S = a8 from by first | (exact (xC_o (W := 88) hpre1).1.trans hpre2))
