/-! the heap by numbers, the class (written by wip/tools/gen18.py) -/
theorem g_162_64_s_p87_0 {X : Nat × (Nat → Int32)} {d w : Nat} {S : ma_S} {Q : Option ma_V ⊕ Nat → ma_S → Prop} (i : Int32) (pa : Int32) (hd : 7 ≤ d) (hw : 109 ≤ w) (hS : zT S) (h : if pa < 0 then (Q (.inr 2) (ma_bump S)) else (if pa ≤ (1 : Int32) then (mR S 64 11 = some 87 ∧ (mR S 64 11 = some 87 ∧ (ma_wp X (d - 1) (w - 23) 111 0 [(0, .inr (.inr (some 87))), (1, .inl i)] [] S (zi (fun v2 S1 => zT S1 ∧ (if v2 = (-1 : Int32) then (Q (.inr 1) (ma_bump S1)) else (if pa = 0 then (Q (.inl (some (.inl v2))) S1) else (ma_wp X (d - 1) (w - 22) 106 0 [(0, .inr (.inr (some 87))), (1, .inl v2)] [] S1 (zi (fun v4 S3 => zT S3 ∧ (Q (.inl (some (.inl (v4 - v2)))) S3)) (fun x S9 => Q (.inr x) S9)))))) (fun x S9 => Q (.inr x) S9))))) else (Q (.inr 2) (ma_bump S)))) : ma_wp X d w 162 0 [(0, .inr (.inr (some 64))), (1, .inl i), (2, .inl pa)] [] S Q := by
  refine zw_push hm_162 dX11_block_0 (v := .inl pa) rfl ?_
  refine zw_if0 hm_162 dX11_block_1 (t := 9) rfl zc0_lt ?_ ?_
  · intro hc
    rw [if_pos hc] at h
    exact zw_thr hm_162 dX11_block_9 dX11_block_12 dX11_block_13 dX11_block_16 x_11_79_81 n_11_79 (by omega) (by show 0 + 81 ≤ w; omega) h
  · intro hc
    rw [if_neg hc] at h
    refine zw_push hm_162 dX11_block_4 (v := .inl pa) rfl ?_
    refine zw_push hm_162 dX11_block_5 (v := .inl (1 : Int32)) rfl ?_
    refine zw_if2 hm_162 dX11_block_6 (t := 17) rfl zc2_le ?_ ?_
    · intro hc
      rw [if_pos hc] at h
      refine zw_push hm_162 dX11_block_17 (v := .inr (.inr (some 64))) rfl ?_
      refine zw_cv hm_162 dX11_block_18 v_11_119_11 hm_144 [] [] rfl (zT_rt hS s_64 rfl) ⟨by omega, by omega⟩ rfl ?_
      show ma_wp X (d - 1) (w - 20) 144 0 [(0, .inr (.inr (some 64)))] [] S _
      refine zw_push hm_144 dX11_needCollector_0 (v := .inr (.inr (some 64))) rfl ?_
      obtain ⟨hg, h⟩ := h
      refine zw_gf hm_144 dX11_needCollector_1 (v := .inr (.inr (some 87))) (zT_is hS s_64) (zT_t hS s_64) rfl f_11_98_11 (congrArg (fun z => Sum.inr (Sum.inr z)) hg) ?_
      refine zw_ifnonnull hm_144 dX11_needCollector_4 (t := 15) rfl (fun z => by cases z) (fun _ _ => ?_)
      refine zw_push hm_144 dX11_needCollector_15 (v := .inr (.inr (some 64))) rfl ?_
      obtain ⟨hg, h⟩ := h
      refine zw_gf hm_144 dX11_needCollector_16 (v := .inr (.inr (some 87))) (zT_is hS s_64) (zT_t hS s_64) rfl f_11_98_11 (congrArg (fun z => Sum.inr (Sum.inr z)) hg) ?_
      refine zw_aret hm_144 dX11_needCollector_19 ?_
      show ma_wp X d w 162 21 [(0, .inr (.inr (some 64))), (1, .inl i), (2, .inl pa)] [.inr (.inr (some 87))] S _
      refine zw_sto hm_162 dX11_block_21 [(4, .inr (.inr (some 87))), (0, .inr (.inr (some 64))), (1, .inl i), (2, .inl pa)] rfl rfl rfl ?_
      refine zw_push hm_162 dX11_block_23 (v := .inr (.inr (some 87))) rfl ?_
      refine zw_iof hm_162 dX11_block_25 (zT_is hS s_87) (zT_t hS s_87) rfl ct_11_41_6 (v := (1 : Int32)) rfl ?_
      refine zw_if0 hm_162 dX11_block_28 (t := 77) rfl zc0_eq (fun hc => absurd hc (by decide)) (fun _ => ?_)
      refine zw_push hm_162 dX11_block_31 (v := .inr (.inr (some 87))) rfl ?_
      refine zw_cast hm_162 dX11_block_33 (zT_is hS s_87) (zT_t hS s_87) rfl ct_11_41_6 ?_
      refine zw_sto hm_162 dX11_block_36 [(3, .inr (.inr (some 87))), (4, .inr (.inr (some 87))), (0, .inr (.inr (some 64))), (1, .inl i), (2, .inl pa)] rfl rfl rfl ?_
      refine zw_push hm_162 dX11_block_37 (v := .inr (.inr (some 87))) rfl ?_
      refine zw_push hm_162 dX11_block_38 (v := .inl i) rfl ?_
      refine zw_cv hm_162 dX11_block_39 v_11_232_6 hm_111 [.inl i] [] rfl (zT_rt hS s_87 rfl) ⟨by omega, by omega⟩ rfl (zw_mono h (zi_go ?_ ?_))
      · intro v2 S1 hv
        obtain ⟨hS1, h⟩ := hv
        refine zw_sto hm_162 dX11_block_42 [(4, .inl v2), (3, .inr (.inr (some 87))), (0, .inr (.inr (some 64))), (1, .inl i), (2, .inl pa)] rfl rfl rfl ?_
        refine zw_push hm_162 dX11_block_44 (v := .inl v2) rfl ?_
        refine zw_push hm_162 dX11_block_46 (v := .inl (-1 : Int32)) rfl ?_
        refine zw_if2 hm_162 dX11_block_47 (t := 58) rfl zc2_ne ?_ ?_
        · intro hc
          rw [if_neg hc] at h
          refine zw_push hm_162 dX11_block_58 (v := .inl pa) rfl ?_
          refine zw_if0 hm_162 dX11_block_59 (t := 67) rfl zc0_ne ?_ ?_
          · intro hc
            rw [if_neg hc] at h
            refine zw_push hm_162 dX11_block_67 (v := .inr (.inr (some 87))) rfl ?_
            refine zw_push hm_162 dX11_block_68 (v := .inl v2) rfl ?_
            refine zw_cv hm_162 dX11_block_70 v_11_235_6 hm_106 [.inl v2] [] rfl (zT_rt hS1 s_87 rfl) ⟨by omega, by omega⟩ rfl (zw_mono h (zi_go ?_ ?_))
            · intro v4 S3 hv
              obtain ⟨hS3, h⟩ := hv
              refine zw_push hm_162 dX11_block_73 (v := .inl v2) rfl ?_
              refine zw_stk hm_162 dX11_block_75 (st' := [.inl (v4 - v2)]) rfl rfl ?_
              exact zw_iret hm_162 dX11_block_76 h
            · intro x S9 hx
              exact ⟨by decide, hx⟩
          · intro hc
            rw [if_pos (Classical.not_not.mp hc)] at h
            refine zw_push hm_162 dX11_block_62 (v := .inl v2) rfl ?_
            refine zw_goto hm_162 dX11_block_64 (t := 76) rfl ?_
            exact zw_iret hm_162 dX11_block_76 h
        · intro hc
          rw [if_pos (Classical.not_not.mp hc)] at h
          exact zw_thr hm_162 dX11_block_50 dX11_block_53 dX11_block_54 dX11_block_57 x_11_72_74 n_11_72 (by omega) (by show 0 + 81 ≤ w; omega) h
      · intro x S9 hx
        exact ⟨by decide, hx⟩
    · intro hc
      rw [if_neg hc] at h
      exact zw_thr hm_162 dX11_block_9 dX11_block_12 dX11_block_13 dX11_block_16 x_11_79_81 n_11_79 (by omega) (by show 0 + 81 ≤ w; omega) h
theorem sp_162_64_s_p87 {X : Nat × (Nat → Int32)} {d w : Nat} {f : Nat → Nat → Int32} {r : Nat → Nat → Option Nat} {C Z N : Nat} {Q : Option ma_V ⊕ Nat → ma_S → Prop} {ab : Nat→Nat→Int32} {S : ma_S} (i : Int32) (pa : Int32) (hd : 7 ≤ d) (hw : 109 ≤ w) (hI : zB f r C Z N S) (hr : r 64 11 = some 87) (hpre0 : xB S (mR S 70)) (hpre1 : aS 88 S = ab) (K : ∀ v S', zB f r C Z N S' → (True) → (xB S' (mR S' 70)) → (aS 88 S' = ab) → ((0 ≤ pa.toInt ∧ pa.toInt ≤ 1) ∧ (if i.toInt < 0 then -1 else aBk ab i.toInt.toNat (aN ab 0)) ≠ -1 ∧ ((pa.toInt = 0 ∧ v.toInt = (if i.toInt < 0 then -1 else aBk ab i.toInt.toNat (aN ab 0))) ∨ (pa.toInt = 1 ∧ v.toInt = aE ab (if i.toInt < 0 then -1 else aBk ab i.toInt.toNat (aN ab 0)) - (if i.toInt < 0 then -1 else aBk ab i.toInt.toNat (aN ab 0))))) → Q (.inl (some (.inl v))) S') (KX : ∀ x S', (x = 1 ∨ x = 2) → zB f r C Z N S' → (xB S' (mR S' 70)) → (aS 88 S' = ab) → ((x = 2 ∧ ¬ (0 ≤ pa.toInt ∧ pa.toInt ≤ 1)) ∨ (x = 1 ∧ (0 ≤ pa.toInt ∧ pa.toInt ≤ 1) ∧ (if i.toInt < 0 then -1 else aBk ab i.toInt.toNat (aN ab 0)) = -1)) → Q (.inr x) (ma_bump S')) : ma_wp X d w 162 0 [(0, .inr (.inr (some 64))), (1, .inl i), (2, .inl pa)] [] S Q := by
  refine g_162_64_s_p87_0 i pa (by omega) (by omega) (zG_T hI) ?_
  have li1 : (0 : Int32).toInt = 0 := rfl
  refine zd (fun h2 => ?_) (fun h2 => ?_)
  · skip
    have g3 := i_lt h2
    exact KX 2 _ (by decide) hI (show xB S (mR S 70) from by first | (exact xB_x (xC_o (W := 75) hpre0).2)) (show aS 88 S = ab from by first | (exact (xC_o (W := 88) hpre0).1.trans hpre1)) (show (2 = 2 ∧ ¬ (0 ≤ pa.toInt ∧ pa.toInt ≤ 1)) ∨ (2 = 1 ∧ (0 ≤ pa.toInt ∧ pa.toInt ≤ 1) ∧ (if i.toInt < 0 then -1 else aBk ab i.toInt.toNat (aN ab 0)) = -1) from by first | (exact Or.inl ⟨rfl, by omega⟩))
  · skip
    have g4 := i_nlt h2
    have li5 : (1 : Int32).toInt = 1 := rfl
    refine zd (fun h6 => ?_) (fun h6 => ?_)
    · skip
      have g7 := i_le h6
      refine ⟨((zG_r hI (by decide)).trans hr), ?_⟩
      refine ⟨((zG_r hI (by decide)).trans hr), ?_⟩
      refine sp_111_87_s (ab := (aS 88 S)) (i) (by omega) (by omega) (zB_dn_zJ87 hI) (show xB S (mR S 70) from by first | (exact xB_x (xC_o (W := 75) hpre0).2)) (show aS 88 S = (aS 88 S) from by first | (exact rfl) | (exact hpre1)) (fun v2 S1 eS_S1 hp_v2 rp0_S1 => zi_n ⟨(by rw [eS_S1]; exact zG_T hI), ?_⟩)
      replace eS_S1 := eS_S1.symm; subst eS_S1
      have rp0_S1 : v2.toInt = (if i.toInt < 0 then -1 else aBk (aS 88 S) i.toInt.toNat (aN (aS 88 S) 0)) := rp0_S1
      have li8 : (-1 : Int32).toInt = -1 := rfl
      refine zd (fun h9 => ?_) (fun h9 => ?_)
      · skip
        have g10 := i_eq h9
        exact KX 1 _ (by decide) hI (show xB S (mR S 70) from by first | (exact xB_x (xC_o (W := 75) hpre0).2)) (show aS 88 S = ab from by first | (exact (xC_o (W := 88) hpre0).1.trans hpre1)) (show (1 = 2 ∧ ¬ (0 ≤ pa.toInt ∧ pa.toInt ≤ 1)) ∨ (1 = 1 ∧ (0 ≤ pa.toInt ∧ pa.toInt ≤ 1) ∧ (if i.toInt < 0 then -1 else aBk ab i.toInt.toNat (aN ab 0)) = -1) from by first | (have bp := rp0_S1; rw [hpre1] at bp; rw [← bp]; exact Or.inr ⟨rfl, ⟨by omega, by omega⟩, by omega⟩))
      · skip
        have g11 := i_ne h9
        refine zd (fun h12 => ?_) (fun h12 => ?_)
        · skip
          have g13 := i_eq h12
          exact K (v2) _ hI trivial (show xB S (mR S 70) from by first | (exact xB_x (xC_o (W := 75) hpre0).2)) (show aS 88 S = ab from by first | (exact (xC_o (W := 88) hpre0).1.trans hpre1)) (show (0 ≤ pa.toInt ∧ pa.toInt ≤ 1) ∧ (if i.toInt < 0 then -1 else aBk ab i.toInt.toNat (aN ab 0)) ≠ -1 ∧ ((pa.toInt = 0 ∧ v2.toInt = (if i.toInt < 0 then -1 else aBk ab i.toInt.toNat (aN ab 0))) ∨ (pa.toInt = 1 ∧ v2.toInt = aE ab (if i.toInt < 0 then -1 else aBk ab i.toInt.toNat (aN ab 0)) - (if i.toInt < 0 then -1 else aBk ab i.toInt.toNat (aN ab 0)))) from by first | (have bp := rp0_S1; rw [hpre1] at bp; rw [← bp]; exact ⟨⟨by omega, by omega⟩, by omega, Or.inl ⟨by omega, rfl⟩⟩))
        · skip
          have g14 := i_ne h12
          refine sp_106_87_s (ab := (aS 88 S)) (v2) (by omega) (by omega) (zB_dn_zJ87 hI) (show xB S (mR S 70) from by first | (exact xB_x (xC_o (W := 75) hpre0).2)) (show aS 88 S = (aS 88 S) from by first | (exact rfl) | (exact hpre1)) (by omega) (by omega) (fun v4 S3 eS_S3 hp_v4 rp0_S3 => zi_n ⟨(by rw [eS_S3]; exact zG_T hI), ?_⟩)
          replace eS_S3 := eS_S3.symm; subst eS_S3
          have rp0_S3 : v4.toInt = aE (aS 88 S) v2.toInt := rp0_S3
          first | have e15 : (v4 - v2).toInt = v4.toInt - v2.toInt := i_sub (by omega) (by omega) | have b16 := i_bd (v4 - v2)
          exact K ((v4 - v2)) _ hI trivial (show xB S (mR S 70) from by first | (exact xB_x (xC_o (W := 75) hpre0).2)) (show aS 88 S = ab from by first | (exact (xC_o (W := 88) hpre0).1.trans hpre1)) (show (0 ≤ pa.toInt ∧ pa.toInt ≤ 1) ∧ (if i.toInt < 0 then -1 else aBk ab i.toInt.toNat (aN ab 0)) ≠ -1 ∧ ((pa.toInt = 0 ∧ (v4 - v2).toInt = (if i.toInt < 0 then -1 else aBk ab i.toInt.toNat (aN ab 0))) ∨ (pa.toInt = 1 ∧ (v4 - v2).toInt = aE ab (if i.toInt < 0 then -1 else aBk ab i.toInt.toNat (aN ab 0)) - (if i.toInt < 0 then -1 else aBk ab i.toInt.toNat (aN ab 0)))) from by first | (have bp := rp0_S1; rw [hpre1] at bp; rw [← bp]; have ef := rp0_S3; rw [hpre1] at ef; exact ⟨⟨by omega, by omega⟩, by omega, Or.inr ⟨by omega, by omega⟩⟩))
    · skip
      have g17 := i_nle h6
      exact KX 2 _ (by decide) hI (show xB S (mR S 70) from by first | (exact xB_x (xC_o (W := 75) hpre0).2)) (show aS 88 S = ab from by first | (exact (xC_o (W := 88) hpre0).1.trans hpre1)) (show (2 = 2 ∧ ¬ (0 ≤ pa.toInt ∧ pa.toInt ≤ 1)) ∨ (2 = 1 ∧ (0 ≤ pa.toInt ∧ pa.toInt ≤ 1) ∧ (if i.toInt < 0 then -1 else aBk ab i.toInt.toNat (aN ab 0)) = -1) from by first | (exact Or.inl ⟨rfl, by omega⟩))
