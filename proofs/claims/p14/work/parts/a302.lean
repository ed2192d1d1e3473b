/-! from 95.x16 -/
/-! the class opens a heap (written by wip/tools/gen15h.py) -/
theorem g_160_64_sn_p80_0 {X : Nat × (Nat → Int32)} {d w : Nat} {S : ma_S} {Q : Option ma_V ⊕ Nat → ma_S → Prop} (n : Int32) (hd : 7 ≤ d) (hw : 114 ≤ w) (hS : zT S) (h : if n < 0 then (Q (.inr 2) (ma_bump S)) else (if n ≤ (1000 : Int32) then (mR S 64 11 = some 80 ∧ (mR S 64 11 = some 80 ∧ (Q (.inr 6) (ma_bump S)))) else (Q (.inr 2) (ma_bump S)))) : ma_wp X d w 160 0 [(0, .inr (.inr (some 64))), (1, .inl n)] [] S Q := by
  refine zw_push hm_160 dX11_step_0 (v := .inl n) rfl ?_
  refine zw_if0 hm_160 dX11_step_1 (t := 11) rfl zc0_lt ?_ ?_
  · intro hc
    rw [if_pos hc] at h
    exact zw_thr hm_160 dX11_step_11 dX11_step_14 dX11_step_15 dX11_step_18 x_11_79_81 n_11_79 (by omega) (by show 0 + 81 ≤ w; omega) h
  · intro hc
    rw [if_neg hc] at h
    refine zw_push hm_160 dX11_step_4 (v := .inl n) rfl ?_
    refine zw_push hm_160 dX11_step_5 (v := .inl (1000 : Int32)) rfl ?_
    refine zw_if2 hm_160 dX11_step_8 (t := 19) rfl zc2_le ?_ ?_
    · intro hc
      rw [if_pos hc] at h
      refine zw_push hm_160 dX11_step_19 (v := .inr (.inr (some 64))) rfl ?_
      refine zw_cv hm_160 dX11_step_20 v_11_119_11 hm_144 [] [] rfl (zT_rt hS s_64 rfl) ⟨by omega, by omega⟩ rfl ?_
      show ma_wp X (d - 1) (w - 20) 144 0 [(0, .inr (.inr (some 64)))] [] S _
      refine zw_push hm_144 dX11_needCollector_0 (v := .inr (.inr (some 64))) rfl ?_
      obtain ⟨hg, h⟩ := h
      refine zw_gf hm_144 dX11_needCollector_1 (v := .inr (.inr (some 80))) (zT_is hS s_64) (zT_t hS s_64) rfl f_11_98_11 (congrArg (fun z => Sum.inr (Sum.inr z)) hg) ?_
      refine zw_ifnonnull hm_144 dX11_needCollector_4 (t := 15) rfl (fun z => by cases z) (fun _ _ => ?_)
      refine zw_push hm_144 dX11_needCollector_15 (v := .inr (.inr (some 64))) rfl ?_
      obtain ⟨hg, h⟩ := h
      refine zw_gf hm_144 dX11_needCollector_16 (v := .inr (.inr (some 80))) (zT_is hS s_64) (zT_t hS s_64) rfl f_11_98_11 (congrArg (fun z => Sum.inr (Sum.inr z)) hg) ?_
      refine zw_aret hm_144 dX11_needCollector_19 ?_
      show ma_wp X d w 160 23 [(0, .inr (.inr (some 64))), (1, .inl n)] [.inr (.inr (some 80))] S _
      refine zw_sto hm_160 dX11_step_23 [(3, .inr (.inr (some 80))), (0, .inr (.inr (some 64))), (1, .inl n)] rfl rfl rfl ?_
      refine zw_push hm_160 dX11_step_24 (v := .inr (.inr (some 80))) rfl ?_
      refine zw_iof hm_160 dX11_step_25 (zT_is hS s_80) (zT_t hS s_80) rfl ct_11_58_5 (v := (0 : Int32)) rfl ?_
      refine zw_if0 hm_160 dX11_step_28 (t := 42) rfl zc0_eq (fun _ => ?_) (fun hc => absurd (by decide) hc)
      exact zw_thr hm_160 dX11_step_42 dX11_step_45 dX11_step_46 dX11_step_49 x_11_192_194 n_11_192 (by omega) (by show 0 + 81 ≤ w; omega) h
    · intro hc
      rw [if_neg hc] at h
      exact zw_thr hm_160 dX11_step_11 dX11_step_14 dX11_step_15 dX11_step_18 x_11_79_81 n_11_79 (by omega) (by show 0 + 81 ≤ w; omega) h
theorem sp_160_64_sn_p80 {X : Nat × (Nat → Int32)} {d w : Nat} {f : Nat → Nat → Int32} {r : Nat → Nat → Option Nat} {C Z N : Nat} {Q : Option ma_V ⊕ Nat → ma_S → Prop} {I0 : Nat→Nat→Int32} {L0 : Nat→Nat→Int64} {R0 : zRT} {S : ma_S} (n : Int32) (hd : 7 ≤ d) (hw : 114 ≤ w) (hI : zB f r C Z N S) (hr : r 64 11 = some 80) (hpre0 : zFm I0 L0 R0 S) (K : ∀ v S₉, zB f r C Z N S₉ → ((0 : Int) = 1) → Q (.inl (some (.inl v))) S₉) (KX : ∀ x S₉, (x = 2 ∨ x = 6) → zB f r C Z N S₉ → ((x = 2 ∧ (n.toInt < 0 ∨ 1000 < n.toInt)) ∨ (x = 6 ∧ 0 ≤ n.toInt ∧ n.toInt ≤ 1000)) → (zFm I0 L0 R0 S₉) → Q (.inr x) (ma_bump S₉)) : ma_wp X d w 160 0 [(0, .inr (.inr (some 64))), (1, .inl n)] [] S Q := by
  refine g_160_64_sn_p80_0 n (by omega) (by omega) (zG_T hI) ?_
  have b1 := i_bd n
  have li2 : (0 : Int32).toInt = 0 := rfl
  refine zd (fun h3 => ?_) (fun h3 => ?_)
  · skip
    have g4 := i_lt h3
    exact KX 2 _ (by decide) hI (show (2 = 2 ∧ (n.toInt < 0 ∨ 1000 < n.toInt)) ∨ (2 = 6 ∧ 0 ≤ n.toInt ∧ n.toInt ≤ 1000) from by omega) (show zFm I0 L0 R0 S from by first | (exact hpre0))
  · skip
    have g5 := i_nlt h3
    have li6 : (1000 : Int32).toInt = 1000 := rfl
    refine zd (fun h7 => ?_) (fun h7 => ?_)
    · skip
      have g8 := i_le h7
      refine ⟨((zG_r hI (by decide)).trans hr), ?_⟩
      refine ⟨((zG_r hI (by decide)).trans hr), ?_⟩
      exact KX 6 _ (by decide) hI (show (6 = 2 ∧ (n.toInt < 0 ∨ 1000 < n.toInt)) ∨ (6 = 6 ∧ 0 ≤ n.toInt ∧ n.toInt ≤ 1000) from by omega) (show zFm I0 L0 R0 S from by first | (exact hpre0))
    · skip
      have g9 := i_nle h7
      exact KX 2 _ (by decide) hI (show (2 = 2 ∧ (n.toInt < 0 ∨ 1000 < n.toInt)) ∨ (2 = 6 ∧ 0 ≤ n.toInt ∧ n.toInt ≤ 1000) from by omega) (show zFm I0 L0 R0 S from by first | (exact hpre0))
theorem g_162_64_sn_p80_0 {X : Nat × (Nat → Int32)} {d w : Nat} {S : ma_S} {Q : Option ma_V ⊕ Nat → ma_S → Prop} (ix : Int32) (pa : Int32) (hd : 7 ≤ d) (hw : 109 ≤ w) (hS : zT S) (h : if pa < 0 then (Q (.inr 2) (ma_bump S)) else (if pa ≤ (1 : Int32) then (mR S 64 11 = some 80 ∧ (mR S 64 11 = some 80 ∧ (Q (.inr 6) (ma_bump S)))) else (Q (.inr 2) (ma_bump S)))) : ma_wp X d w 162 0 [(0, .inr (.inr (some 64))), (1, .inl ix), (2, .inl pa)] [] S Q := by
  refine zw_push hm_162 dX11_block_0 (v := .inl pa) rfl ?_
  refine zw_if0 hm_162 dX11_block_1 (t := 9) rfl zc0_lt ?_ ?_
  · intro hc
    rw [if_pos hc] at h
    exact zw_thr hm_162 dX11_block_9 dX11_block_12 dX11_block_13 dX11_block_16 x_11_79_81 n_11_79 (by omega) (by show 0 + 81 ≤ w; omega) h
  · intro hc
    rw [if_neg hc] at h
    refine zw_push hm_162 dX11_block_4 (v := .inl pa) rfl ?_
    refine zw_push hm_162 dX11_block_5 (v := .inl (1 : Int32)) rfl ?_
    refine zw_if2 hm_162 dX11_block_6 (t := 17) rfl zc2_le ?_ ?_
    · intro hc
      rw [if_pos hc] at h
      refine zw_push hm_162 dX11_block_17 (v := .inr (.inr (some 64))) rfl ?_
      refine zw_cv hm_162 dX11_block_18 v_11_119_11 hm_144 [] [] rfl (zT_rt hS s_64 rfl) ⟨by omega, by omega⟩ rfl ?_
      show ma_wp X (d - 1) (w - 20) 144 0 [(0, .inr (.inr (some 64)))] [] S _
      refine zw_push hm_144 dX11_needCollector_0 (v := .inr (.inr (some 64))) rfl ?_
      obtain ⟨hg, h⟩ := h
      refine zw_gf hm_144 dX11_needCollector_1 (v := .inr (.inr (some 80))) (zT_is hS s_64) (zT_t hS s_64) rfl f_11_98_11 (congrArg (fun z => Sum.inr (Sum.inr z)) hg) ?_
      refine zw_ifnonnull hm_144 dX11_needCollector_4 (t := 15) rfl (fun z => by cases z) (fun _ _ => ?_)
      refine zw_push hm_144 dX11_needCollector_15 (v := .inr (.inr (some 64))) rfl ?_
      obtain ⟨hg, h⟩ := h
      refine zw_gf hm_144 dX11_needCollector_16 (v := .inr (.inr (some 80))) (zT_is hS s_64) (zT_t hS s_64) rfl f_11_98_11 (congrArg (fun z => Sum.inr (Sum.inr z)) hg) ?_
      refine zw_aret hm_144 dX11_needCollector_19 ?_
      show ma_wp X d w 162 21 [(0, .inr (.inr (some 64))), (1, .inl ix), (2, .inl pa)] [.inr (.inr (some 80))] S _
      refine zw_sto hm_162 dX11_block_21 [(4, .inr (.inr (some 80))), (0, .inr (.inr (some 64))), (1, .inl ix), (2, .inl pa)] rfl rfl rfl ?_
      refine zw_push hm_162 dX11_block_23 (v := .inr (.inr (some 80))) rfl ?_
      refine zw_iof hm_162 dX11_block_25 (zT_is hS s_80) (zT_t hS s_80) rfl ct_11_41_5 (v := (0 : Int32)) rfl ?_
      refine zw_if0 hm_162 dX11_block_28 (t := 77) rfl zc0_eq (fun _ => ?_) (fun hc => absurd (by decide) hc)
      exact zw_thr hm_162 dX11_block_77 dX11_block_80 dX11_block_81 dX11_block_84 x_11_192_194 n_11_192 (by omega) (by show 0 + 81 ≤ w; omega) h
    · intro hc
      rw [if_neg hc] at h
      exact zw_thr hm_162 dX11_block_9 dX11_block_12 dX11_block_13 dX11_block_16 x_11_79_81 n_11_79 (by omega) (by show 0 + 81 ≤ w; omega) h
theorem sp_162_64_sn_p80 {X : Nat × (Nat → Int32)} {d w : Nat} {f : Nat → Nat → Int32} {r : Nat → Nat → Option Nat} {C Z N : Nat} {Q : Option ma_V ⊕ Nat → ma_S → Prop} {I0 : Nat→Nat→Int32} {L0 : Nat→Nat→Int64} {R0 : zRT} {S : ma_S} (ix : Int32) (pa : Int32) (hd : 7 ≤ d) (hw : 109 ≤ w) (hI : zB f r C Z N S) (hr : r 64 11 = some 80) (hpre0 : zFm I0 L0 R0 S) (K : ∀ v S₉, zB f r C Z N S₉ → ((0 : Int) = 1) → Q (.inl (some (.inl v))) S₉) (KX : ∀ x S₉, (x = 2 ∨ x = 6) → zB f r C Z N S₉ → ((x = 2 ∧ (pa.toInt < 0 ∨ 1 < pa.toInt)) ∨ (x = 6 ∧ 0 ≤ pa.toInt ∧ pa.toInt ≤ 1)) → (zFm I0 L0 R0 S₉) → Q (.inr x) (ma_bump S₉)) : ma_wp X d w 162 0 [(0, .inr (.inr (some 64))), (1, .inl ix), (2, .inl pa)] [] S Q := by
  refine g_162_64_sn_p80_0 ix pa (by omega) (by omega) (zG_T hI) ?_
  have b1 := i_bd pa
  have li2 : (0 : Int32).toInt = 0 := rfl
  refine zd (fun h3 => ?_) (fun h3 => ?_)
  · skip
    have g4 := i_lt h3
    exact KX 2 _ (by decide) hI (show (2 = 2 ∧ (pa.toInt < 0 ∨ 1 < pa.toInt)) ∨ (2 = 6 ∧ 0 ≤ pa.toInt ∧ pa.toInt ≤ 1) from by omega) (show zFm I0 L0 R0 S from by first | (exact hpre0))
  · skip
    have g5 := i_nlt h3
    have li6 : (1 : Int32).toInt = 1 := rfl
    refine zd (fun h7 => ?_) (fun h7 => ?_)
    · skip
      have g8 := i_le h7
      refine ⟨((zG_r hI (by decide)).trans hr), ?_⟩
      refine ⟨((zG_r hI (by decide)).trans hr), ?_⟩
      exact KX 6 _ (by decide) hI (show (6 = 2 ∧ (pa.toInt < 0 ∨ 1 < pa.toInt)) ∨ (6 = 6 ∧ 0 ≤ pa.toInt ∧ pa.toInt ≤ 1) from by omega) (show zFm I0 L0 R0 S from by first | (exact hpre0))
    · skip
      have g9 := i_nle h7
      exact KX 2 _ (by decide) hI (show (2 = 2 ∧ (pa.toInt < 0 ∨ 1 < pa.toInt)) ∨ (2 = 6 ∧ 0 ≤ pa.toInt ∧ pa.toInt ≤ 1) from by omega) (show zFm I0 L0 R0 S from by first | (exact hpre0))
theorem g_160_64_sn_p81_0 {X : Nat × (Nat → Int32)} {d w : Nat} {S : ma_S} {Q : Option ma_V ⊕ Nat → ma_S → Prop} (n : Int32) (hd : 7 ≤ d) (hw : 114 ≤ w) (hS : zT S) (h : if n < 0 then (Q (.inr 2) (ma_bump S)) else (if n ≤ (1000 : Int32) then (mR S 64 11 = some 81 ∧ (mR S 64 11 = some 81 ∧ (Q (.inr 6) (ma_bump S)))) else (Q (.inr 2) (ma_bump S)))) : ma_wp X d w 160 0 [(0, .inr (.inr (some 64))), (1, .inl n)] [] S Q := by
  refine zw_push hm_160 dX11_step_0 (v := .inl n) rfl ?_
  refine zw_if0 hm_160 dX11_step_1 (t := 11) rfl zc0_lt ?_ ?_
  · intro hc
    rw [if_pos hc] at h
    exact zw_thr hm_160 dX11_step_11 dX11_step_14 dX11_step_15 dX11_step_18 x_11_79_81 n_11_79 (by omega) (by show 0 + 81 ≤ w; omega) h
  · intro hc
    rw [if_neg hc] at h
    refine zw_push hm_160 dX11_step_4 (v := .inl n) rfl ?_
    refine zw_push hm_160 dX11_step_5 (v := .inl (1000 : Int32)) rfl ?_
    refine zw_if2 hm_160 dX11_step_8 (t := 19) rfl zc2_le ?_ ?_
    · intro hc
      rw [if_pos hc] at h
      refine zw_push hm_160 dX11_step_19 (v := .inr (.inr (some 64))) rfl ?_
      refine zw_cv hm_160 dX11_step_20 v_11_119_11 hm_144 [] [] rfl (zT_rt hS s_64 rfl) ⟨by omega, by omega⟩ rfl ?_
      show ma_wp X (d - 1) (w - 20) 144 0 [(0, .inr (.inr (some 64)))] [] S _
      refine zw_push hm_144 dX11_needCollector_0 (v := .inr (.inr (some 64))) rfl ?_
      obtain ⟨hg, h⟩ := h
      refine zw_gf hm_144 dX11_needCollector_1 (v := .inr (.inr (some 81))) (zT_is hS s_64) (zT_t hS s_64) rfl f_11_98_11 (congrArg (fun z => Sum.inr (Sum.inr z)) hg) ?_
      refine zw_ifnonnull hm_144 dX11_needCollector_4 (t := 15) rfl (fun z => by cases z) (fun _ _ => ?_)
      refine zw_push hm_144 dX11_needCollector_15 (v := .inr (.inr (some 64))) rfl ?_
      obtain ⟨hg, h⟩ := h
      refine zw_gf hm_144 dX11_needCollector_16 (v := .inr (.inr (some 81))) (zT_is hS s_64) (zT_t hS s_64) rfl f_11_98_11 (congrArg (fun z => Sum.inr (Sum.inr z)) hg) ?_
      refine zw_aret hm_144 dX11_needCollector_19 ?_
      show ma_wp X d w 160 23 [(0, .inr (.inr (some 64))), (1, .inl n)] [.inr (.inr (some 81))] S _
      refine zw_sto hm_160 dX11_step_23 [(3, .inr (.inr (some 81))), (0, .inr (.inr (some 64))), (1, .inl n)] rfl rfl rfl ?_
      refine zw_push hm_160 dX11_step_24 (v := .inr (.inr (some 81))) rfl ?_
      refine zw_iof hm_160 dX11_step_25 (zT_is hS s_81) (zT_t hS s_81) rfl ct_11_58_3 (v := (0 : Int32)) rfl ?_
      refine zw_if0 hm_160 dX11_step_28 (t := 42) rfl zc0_eq (fun _ => ?_) (fun hc => absurd (by decide) hc)
      exact zw_thr hm_160 dX11_step_42 dX11_step_45 dX11_step_46 dX11_step_49 x_11_192_194 n_11_192 (by omega) (by show 0 + 81 ≤ w; omega) h
    · intro hc
      rw [if_neg hc] at h
      exact zw_thr hm_160 dX11_step_11 dX11_step_14 dX11_step_15 dX11_step_18 x_11_79_81 n_11_79 (by omega) (by show 0 + 81 ≤ w; omega) h
theorem sp_160_64_sn_p81 {X : Nat × (Nat → Int32)} {d w : Nat} {f : Nat → Nat → Int32} {r : Nat → Nat → Option Nat} {C Z N : Nat} {Q : Option ma_V ⊕ Nat → ma_S → Prop} {I0 : Nat→Nat→Int32} {L0 : Nat→Nat→Int64} {R0 : zRT} {S : ma_S} (n : Int32) (hd : 7 ≤ d) (hw : 114 ≤ w) (hI : zB f r C Z N S) (hr : r 64 11 = some 81) (hpre0 : zFm I0 L0 R0 S) (K : ∀ v S₉, zB f r C Z N S₉ → ((0 : Int) = 1) → Q (.inl (some (.inl v))) S₉) (KX : ∀ x S₉, (x = 2 ∨ x = 6) → zB f r C Z N S₉ → ((x = 2 ∧ (n.toInt < 0 ∨ 1000 < n.toInt)) ∨ (x = 6 ∧ 0 ≤ n.toInt ∧ n.toInt ≤ 1000)) → (zFm I0 L0 R0 S₉) → Q (.inr x) (ma_bump S₉)) : ma_wp X d w 160 0 [(0, .inr (.inr (some 64))), (1, .inl n)] [] S Q := by
  refine g_160_64_sn_p81_0 n (by omega) (by omega) (zG_T hI) ?_
  have b1 := i_bd n
  have li2 : (0 : Int32).toInt = 0 := rfl
  refine zd (fun h3 => ?_) (fun h3 => ?_)
  · skip
    have g4 := i_lt h3
    exact KX 2 _ (by decide) hI (show (2 = 2 ∧ (n.toInt < 0 ∨ 1000 < n.toInt)) ∨ (2 = 6 ∧ 0 ≤ n.toInt ∧ n.toInt ≤ 1000) from by omega) (show zFm I0 L0 R0 S from by first | (exact hpre0))
  · skip
    have g5 := i_nlt h3
    have li6 : (1000 : Int32).toInt = 1000 := rfl
    refine zd (fun h7 => ?_) (fun h7 => ?_)
    · skip
      have g8 := i_le h7
      refine ⟨((zG_r hI (by decide)).trans hr), ?_⟩
      refine ⟨((zG_r hI (by decide)).trans hr), ?_⟩
      exact KX 6 _ (by decide) hI (show (6 = 2 ∧ (n.toInt < 0 ∨ 1000 < n.toInt)) ∨ (6 = 6 ∧ 0 ≤ n.toInt ∧ n.toInt ≤ 1000) from by omega) (show zFm I0 L0 R0 S from by first | (exact hpre0))
    · skip
      have g9 := i_nle h7
      exact KX 2 _ (by decide) hI (show (2 = 2 ∧ (n.toInt < 0 ∨ 1000 < n.toInt)) ∨ (2 = 6 ∧ 0 ≤ n.toInt ∧ n.toInt ≤ 1000) from by omega) (show zFm I0 L0 R0 S from by first | (exact hpre0))
theorem g_162_64_sn_p81_0 {X : Nat × (Nat → Int32)} {d w : Nat} {S : ma_S} {Q : Option ma_V ⊕ Nat → ma_S → Prop} (ix : Int32) (pa : Int32) (hd : 7 ≤ d) (hw : 109 ≤ w) (hS : zT S) (h : if pa < 0 then (Q (.inr 2) (ma_bump S)) else (if pa ≤ (1 : Int32) then (mR S 64 11 = some 81 ∧ (mR S 64 11 = some 81 ∧ (Q (.inr 6) (ma_bump S)))) else (Q (.inr 2) (ma_bump S)))) : ma_wp X d w 162 0 [(0, .inr (.inr (some 64))), (1, .inl ix), (2, .inl pa)] [] S Q := by
  refine zw_push hm_162 dX11_block_0 (v := .inl pa) rfl ?_
  refine zw_if0 hm_162 dX11_block_1 (t := 9) rfl zc0_lt ?_ ?_
  · intro hc
    rw [if_pos hc] at h
    exact zw_thr hm_162 dX11_block_9 dX11_block_12 dX11_block_13 dX11_block_16 x_11_79_81 n_11_79 (by omega) (by show 0 + 81 ≤ w; omega) h
  · intro hc
    rw [if_neg hc] at h
    refine zw_push hm_162 dX11_block_4 (v := .inl pa) rfl ?_
    refine zw_push hm_162 dX11_block_5 (v := .inl (1 : Int32)) rfl ?_
    refine zw_if2 hm_162 dX11_block_6 (t := 17) rfl zc2_le ?_ ?_
    · intro hc
      rw [if_pos hc] at h
      refine zw_push hm_162 dX11_block_17 (v := .inr (.inr (some 64))) rfl ?_
      refine zw_cv hm_162 dX11_block_18 v_11_119_11 hm_144 [] [] rfl (zT_rt hS s_64 rfl) ⟨by omega, by omega⟩ rfl ?_
      show ma_wp X (d - 1) (w - 20) 144 0 [(0, .inr (.inr (some 64)))] [] S _
      refine zw_push hm_144 dX11_needCollector_0 (v := .inr (.inr (some 64))) rfl ?_
      obtain ⟨hg, h⟩ := h
      refine zw_gf hm_144 dX11_needCollector_1 (v := .inr (.inr (some 81))) (zT_is hS s_64) (zT_t hS s_64) rfl f_11_98_11 (congrArg (fun z => Sum.inr (Sum.inr z)) hg) ?_
      refine zw_ifnonnull hm_144 dX11_needCollector_4 (t := 15) rfl (fun z => by cases z) (fun _ _ => ?_)
      refine zw_push hm_144 dX11_needCollector_15 (v := .inr (.inr (some 64))) rfl ?_
      obtain ⟨hg, h⟩ := h
      refine zw_gf hm_144 dX11_needCollector_16 (v := .inr (.inr (some 81))) (zT_is hS s_64) (zT_t hS s_64) rfl f_11_98_11 (congrArg (fun z => Sum.inr (Sum.inr z)) hg) ?_
      refine zw_aret hm_144 dX11_needCollector_19 ?_
      show ma_wp X d w 162 21 [(0, .inr (.inr (some 64))), (1, .inl ix), (2, .inl pa)] [.inr (.inr (some 81))] S _
      refine zw_sto hm_162 dX11_block_21 [(4, .inr (.inr (some 81))), (0, .inr (.inr (some 64))), (1, .inl ix), (2, .inl pa)] rfl rfl rfl ?_
      refine zw_push hm_162 dX11_block_23 (v := .inr (.inr (some 81))) rfl ?_
      refine zw_iof hm_162 dX11_block_25 (zT_is hS s_81) (zT_t hS s_81) rfl ct_11_41_3 (v := (0 : Int32)) rfl ?_
      refine zw_if0 hm_162 dX11_block_28 (t := 77) rfl zc0_eq (fun _ => ?_) (fun hc => absurd (by decide) hc)
      exact zw_thr hm_162 dX11_block_77 dX11_block_80 dX11_block_81 dX11_block_84 x_11_192_194 n_11_192 (by omega) (by show 0 + 81 ≤ w; omega) h
    · intro hc
      rw [if_neg hc] at h
      exact zw_thr hm_162 dX11_block_9 dX11_block_12 dX11_block_13 dX11_block_16 x_11_79_81 n_11_79 (by omega) (by show 0 + 81 ≤ w; omega) h
theorem sp_162_64_sn_p81 {X : Nat × (Nat → Int32)} {d w : Nat} {f : Nat → Nat → Int32} {r : Nat → Nat → Option Nat} {C Z N : Nat} {Q : Option ma_V ⊕ Nat → ma_S → Prop} {I0 : Nat→Nat→Int32} {L0 : Nat→Nat→Int64} {R0 : zRT} {S : ma_S} (ix : Int32) (pa : Int32) (hd : 7 ≤ d) (hw : 109 ≤ w) (hI : zB f r C Z N S) (hr : r 64 11 = some 81) (hpre0 : zFm I0 L0 R0 S) (K : ∀ v S₉, zB f r C Z N S₉ → ((0 : Int) = 1) → Q (.inl (some (.inl v))) S₉) (KX : ∀ x S₉, (x = 2 ∨ x = 6) → zB f r C Z N S₉ → ((x = 2 ∧ (pa.toInt < 0 ∨ 1 < pa.toInt)) ∨ (x = 6 ∧ 0 ≤ pa.toInt ∧ pa.toInt ≤ 1)) → (zFm I0 L0 R0 S₉) → Q (.inr x) (ma_bump S₉)) : ma_wp X d w 162 0 [(0, .inr (.inr (some 64))), (1, .inl ix), (2, .inl pa)] [] S Q := by
  refine g_162_64_sn_p81_0 ix pa (by omega) (by omega) (zG_T hI) ?_
  have b1 := i_bd pa
  have li2 : (0 : Int32).toInt = 0 := rfl
  refine zd (fun h3 => ?_) (fun h3 => ?_)
  · skip
    have g4 := i_lt h3
    exact KX 2 _ (by decide) hI (show (2 = 2 ∧ (pa.toInt < 0 ∨ 1 < pa.toInt)) ∨ (2 = 6 ∧ 0 ≤ pa.toInt ∧ pa.toInt ≤ 1) from by omega) (show zFm I0 L0 R0 S from by first | (exact hpre0))
  · skip
    have g5 := i_nlt h3
    have li6 : (1 : Int32).toInt = 1 := rfl
    refine zd (fun h7 => ?_) (fun h7 => ?_)
    · skip
      have g8 := i_le h7
      refine ⟨((zG_r hI (by decide)).trans hr), ?_⟩
      refine ⟨((zG_r hI (by decide)).trans hr), ?_⟩
      exact KX 6 _ (by decide) hI (show (6 = 2 ∧ (pa.toInt < 0 ∨ 1 < pa.toInt)) ∨ (6 = 6 ∧ 0 ≤ pa.toInt ∧ pa.toInt ≤ 1) from by omega) (show zFm I0 L0 R0 S from by first | (exact hpre0))
    · skip
      have g9 := i_nle h7
      exact KX 2 _ (by decide) hI (show (2 = 2 ∧ (pa.toInt < 0 ∨ 1 < pa.toInt)) ∨ (2 = 6 ∧ 0 ≤ pa.toInt ∧ pa.toInt ≤ 1) from by omega) (show zFm I0 L0 R0 S from by first | (exact hpre0))
theorem g_160_64_sn_p82_0 {X : Nat × (Nat → Int32)} {d w : Nat} {S : ma_S} {Q : Option ma_V ⊕ Nat → ma_S → Prop} (n : Int32) (hd : 7 ≤ d) (hw : 114 ≤ w) (hS : zT S) (h : if n < 0 then (Q (.inr 2) (ma_bump S)) else (if n ≤ (1000 : Int32) then (mR S 64 11 = some 82 ∧ (mR S 64 11 = some 82 ∧ (Q (.inr 6) (ma_bump S)))) else (Q (.inr 2) (ma_bump S)))) : ma_wp X d w 160 0 [(0, .inr (.inr (some 64))), (1, .inl n)] [] S Q := by
  refine zw_push hm_160 dX11_step_0 (v := .inl n) rfl ?_
  refine zw_if0 hm_160 dX11_step_1 (t := 11) rfl zc0_lt ?_ ?_
  · intro hc
    rw [if_pos hc] at h
    exact zw_thr hm_160 dX11_step_11 dX11_step_14 dX11_step_15 dX11_step_18 x_11_79_81 n_11_79 (by omega) (by show 0 + 81 ≤ w; omega) h
  · intro hc
    rw [if_neg hc] at h
    refine zw_push hm_160 dX11_step_4 (v := .inl n) rfl ?_
    refine zw_push hm_160 dX11_step_5 (v := .inl (1000 : Int32)) rfl ?_
    refine zw_if2 hm_160 dX11_step_8 (t := 19) rfl zc2_le ?_ ?_
    · intro hc
      rw [if_pos hc] at h
      refine zw_push hm_160 dX11_step_19 (v := .inr (.inr (some 64))) rfl ?_
      refine zw_cv hm_160 dX11_step_20 v_11_119_11 hm_144 [] [] rfl (zT_rt hS s_64 rfl) ⟨by omega, by omega⟩ rfl ?_
      show ma_wp X (d - 1) (w - 20) 144 0 [(0, .inr (.inr (some 64)))] [] S _
      refine zw_push hm_144 dX11_needCollector_0 (v := .inr (.inr (some 64))) rfl ?_
      obtain ⟨hg, h⟩ := h
      refine zw_gf hm_144 dX11_needCollector_1 (v := .inr (.inr (some 82))) (zT_is hS s_64) (zT_t hS s_64) rfl f_11_98_11 (congrArg (fun z => Sum.inr (Sum.inr z)) hg) ?_
      refine zw_ifnonnull hm_144 dX11_needCollector_4 (t := 15) rfl (fun z => by cases z) (fun _ _ => ?_)
      refine zw_push hm_144 dX11_needCollector_15 (v := .inr (.inr (some 64))) rfl ?_
      obtain ⟨hg, h⟩ := h
      refine zw_gf hm_144 dX11_needCollector_16 (v := .inr (.inr (some 82))) (zT_is hS s_64) (zT_t hS s_64) rfl f_11_98_11 (congrArg (fun z => Sum.inr (Sum.inr z)) hg) ?_
      refine zw_aret hm_144 dX11_needCollector_19 ?_
      show ma_wp X d w 160 23 [(0, .inr (.inr (some 64))), (1, .inl n)] [.inr (.inr (some 82))] S _
      refine zw_sto hm_160 dX11_step_23 [(3, .inr (.inr (some 82))), (0, .inr (.inr (some 64))), (1, .inl n)] rfl rfl rfl ?_
      refine zw_push hm_160 dX11_step_24 (v := .inr (.inr (some 82))) rfl ?_
      refine zw_iof hm_160 dX11_step_25 (zT_is hS s_82) (zT_t hS s_82) rfl ct_11_58_1 (v := (0 : Int32)) rfl ?_
      refine zw_if0 hm_160 dX11_step_28 (t := 42) rfl zc0_eq (fun _ => ?_) (fun hc => absurd (by decide) hc)
      exact zw_thr hm_160 dX11_step_42 dX11_step_45 dX11_step_46 dX11_step_49 x_11_192_194 n_11_192 (by omega) (by show 0 + 81 ≤ w; omega) h
    · intro hc
      rw [if_neg hc] at h
      exact zw_thr hm_160 dX11_step_11 dX11_step_14 dX11_step_15 dX11_step_18 x_11_79_81 n_11_79 (by omega) (by show 0 + 81 ≤ w; omega) h
theorem sp_160_64_sn_p82 {X : Nat × (Nat → Int32)} {d w : Nat} {f : Nat → Nat → Int32} {r : Nat → Nat → Option Nat} {C Z N : Nat} {Q : Option ma_V ⊕ Nat → ma_S → Prop} {I0 : Nat→Nat→Int32} {L0 : Nat→Nat→Int64} {R0 : zRT} {S : ma_S} (n : Int32) (hd : 7 ≤ d) (hw : 114 ≤ w) (hI : zB f r C Z N S) (hr : r 64 11 = some 82) (hpre0 : zFm I0 L0 R0 S) (K : ∀ v S₉, zB f r C Z N S₉ → ((0 : Int) = 1) → Q (.inl (some (.inl v))) S₉) (KX : ∀ x S₉, (x = 2 ∨ x = 6) → zB f r C Z N S₉ → ((x = 2 ∧ (n.toInt < 0 ∨ 1000 < n.toInt)) ∨ (x = 6 ∧ 0 ≤ n.toInt ∧ n.toInt ≤ 1000)) → (zFm I0 L0 R0 S₉) → Q (.inr x) (ma_bump S₉)) : ma_wp X d w 160 0 [(0, .inr (.inr (some 64))), (1, .inl n)] [] S Q := by
  refine g_160_64_sn_p82_0 n (by omega) (by omega) (zG_T hI) ?_
  have b1 := i_bd n
  have li2 : (0 : Int32).toInt = 0 := rfl
  refine zd (fun h3 => ?_) (fun h3 => ?_)
  · skip
    have g4 := i_lt h3
    exact KX 2 _ (by decide) hI (show (2 = 2 ∧ (n.toInt < 0 ∨ 1000 < n.toInt)) ∨ (2 = 6 ∧ 0 ≤ n.toInt ∧ n.toInt ≤ 1000) from by omega) (show zFm I0 L0 R0 S from by first | (exact hpre0))
  · skip
    have g5 := i_nlt h3
    have li6 : (1000 : Int32).toInt = 1000 := rfl
    refine zd (fun h7 => ?_) (fun h7 => ?_)
    · skip
      have g8 := i_le h7
      refine ⟨((zG_r hI (by decide)).trans hr), ?_⟩
      refine ⟨((zG_r hI (by decide)).trans hr), ?_⟩
      exact KX 6 _ (by decide) hI (show (6 = 2 ∧ (n.toInt < 0 ∨ 1000 < n.toInt)) ∨ (6 = 6 ∧ 0 ≤ n.toInt ∧ n.toInt ≤ 1000) from by omega) (show zFm I0 L0 R0 S from by first | (exact hpre0))
    · skip
      have g9 := i_nle h7
      exact KX 2 _ (by decide) hI (show (2 = 2 ∧ (n.toInt < 0 ∨ 1000 < n.toInt)) ∨ (2 = 6 ∧ 0 ≤ n.toInt ∧ n.toInt ≤ 1000) from by omega) (show zFm I0 L0 R0 S from by first | (exact hpre0))
theorem g_162_64_sn_p82_0 {X : Nat × (Nat → Int32)} {d w : Nat} {S : ma_S} {Q : Option ma_V ⊕ Nat → ma_S → Prop} (ix : Int32) (pa : Int32) (hd : 7 ≤ d) (hw : 109 ≤ w) (hS : zT S) (h : if pa < 0 then (Q (.inr 2) (ma_bump S)) else (if pa ≤ (1 : Int32) then (mR S 64 11 = some 82 ∧ (mR S 64 11 = some 82 ∧ (Q (.inr 6) (ma_bump S)))) else (Q (.inr 2) (ma_bump S)))) : ma_wp X d w 162 0 [(0, .inr (.inr (some 64))), (1, .inl ix), (2, .inl pa)] [] S Q := by
  refine zw_push hm_162 dX11_block_0 (v := .inl pa) rfl ?_
  refine zw_if0 hm_162 dX11_block_1 (t := 9) rfl zc0_lt ?_ ?_
  · intro hc
    rw [if_pos hc] at h
    exact zw_thr hm_162 dX11_block_9 dX11_block_12 dX11_block_13 dX11_block_16 x_11_79_81 n_11_79 (by omega) (by show 0 + 81 ≤ w; omega) h
  · intro hc
    rw [if_neg hc] at h
    refine zw_push hm_162 dX11_block_4 (v := .inl pa) rfl ?_
    refine zw_push hm_162 dX11_block_5 (v := .inl (1 : Int32)) rfl ?_
    refine zw_if2 hm_162 dX11_block_6 (t := 17) rfl zc2_le ?_ ?_
    · intro hc
      rw [if_pos hc] at h
      refine zw_push hm_162 dX11_block_17 (v := .inr (.inr (some 64))) rfl ?_
      refine zw_cv hm_162 dX11_block_18 v_11_119_11 hm_144 [] [] rfl (zT_rt hS s_64 rfl) ⟨by omega, by omega⟩ rfl ?_
      show ma_wp X (d - 1) (w - 20) 144 0 [(0, .inr (.inr (some 64)))] [] S _
      refine zw_push hm_144 dX11_needCollector_0 (v := .inr (.inr (some 64))) rfl ?_
      obtain ⟨hg, h⟩ := h
      refine zw_gf hm_144 dX11_needCollector_1 (v := .inr (.inr (some 82))) (zT_is hS s_64) (zT_t hS s_64) rfl f_11_98_11 (congrArg (fun z => Sum.inr (Sum.inr z)) hg) ?_
      refine zw_ifnonnull hm_144 dX11_needCollector_4 (t := 15) rfl (fun z => by cases z) (fun _ _ => ?_)
      refine zw_push hm_144 dX11_needCollector_15 (v := .inr (.inr (some 64))) rfl ?_
      obtain ⟨hg, h⟩ := h
      refine zw_gf hm_144 dX11_needCollector_16 (v := .inr (.inr (some 82))) (zT_is hS s_64) (zT_t hS s_64) rfl f_11_98_11 (congrArg (fun z => Sum.inr (Sum.inr z)) hg) ?_
      refine zw_aret hm_144 dX11_needCollector_19 ?_
      show ma_wp X d w 162 21 [(0, .inr (.inr (some 64))), (1, .inl ix), (2, .inl pa)] [.inr (.inr (some 82))] S _
      refine zw_sto hm_162 dX11_block_21 [(4, .inr (.inr (some 82))), (0, .inr (.inr (some 64))), (1, .inl ix), (2, .inl pa)] rfl rfl rfl ?_
      refine zw_push hm_162 dX11_block_23 (v := .inr (.inr (some 82))) rfl ?_
      refine zw_iof hm_162 dX11_block_25 (zT_is hS s_82) (zT_t hS s_82) rfl ct_11_41_1 (v := (0 : Int32)) rfl ?_
      refine zw_if0 hm_162 dX11_block_28 (t := 77) rfl zc0_eq (fun _ => ?_) (fun hc => absurd (by decide) hc)
      exact zw_thr hm_162 dX11_block_77 dX11_block_80 dX11_block_81 dX11_block_84 x_11_192_194 n_11_192 (by omega) (by show 0 + 81 ≤ w; omega) h
    · intro hc
      rw [if_neg hc] at h
      exact zw_thr hm_162 dX11_block_9 dX11_block_12 dX11_block_13 dX11_block_16 x_11_79_81 n_11_79 (by omega) (by show 0 + 81 ≤ w; omega) h
theorem sp_162_64_sn_p82 {X : Nat × (Nat → Int32)} {d w : Nat} {f : Nat → Nat → Int32} {r : Nat → Nat → Option Nat} {C Z N : Nat} {Q : Option ma_V ⊕ Nat → ma_S → Prop} {I0 : Nat→Nat→Int32} {L0 : Nat→Nat→Int64} {R0 : zRT} {S : ma_S} (ix : Int32) (pa : Int32) (hd : 7 ≤ d) (hw : 109 ≤ w) (hI : zB f r C Z N S) (hr : r 64 11 = some 82) (hpre0 : zFm I0 L0 R0 S) (K : ∀ v S₉, zB f r C Z N S₉ → ((0 : Int) = 1) → Q (.inl (some (.inl v))) S₉) (KX : ∀ x S₉, (x = 2 ∨ x = 6) → zB f r C Z N S₉ → ((x = 2 ∧ (pa.toInt < 0 ∨ 1 < pa.toInt)) ∨ (x = 6 ∧ 0 ≤ pa.toInt ∧ pa.toInt ≤ 1)) → (zFm I0 L0 R0 S₉) → Q (.inr x) (ma_bump S₉)) : ma_wp X d w 162 0 [(0, .inr (.inr (some 64))), (1, .inl ix), (2, .inl pa)] [] S Q := by
  refine g_162_64_sn_p82_0 ix pa (by omega) (by omega) (zG_T hI) ?_
  have b1 := i_bd pa
  have li2 : (0 : Int32).toInt = 0 := rfl
  refine zd (fun h3 => ?_) (fun h3 => ?_)
  · skip
    have g4 := i_lt h3
    exact KX 2 _ (by decide) hI (show (2 = 2 ∧ (pa.toInt < 0 ∨ 1 < pa.toInt)) ∨ (2 = 6 ∧ 0 ≤ pa.toInt ∧ pa.toInt ≤ 1) from by omega) (show zFm I0 L0 R0 S from by first | (exact hpre0))
  · skip
    have g5 := i_nlt h3
    have li6 : (1 : Int32).toInt = 1 := rfl
    refine zd (fun h7 => ?_) (fun h7 => ?_)
    · skip
      have g8 := i_le h7
      refine ⟨((zG_r hI (by decide)).trans hr), ?_⟩
      refine ⟨((zG_r hI (by decide)).trans hr), ?_⟩
      exact KX 6 _ (by decide) hI (show (6 = 2 ∧ (pa.toInt < 0 ∨ 1 < pa.toInt)) ∨ (6 = 6 ∧ 0 ≤ pa.toInt ∧ pa.toInt ≤ 1) from by omega) (show zFm I0 L0 R0 S from by first | (exact hpre0))
    · skip
      have g9 := i_nle h7
      exact KX 2 _ (by decide) hI (show (2 = 2 ∧ (pa.toInt < 0 ∨ 1 < pa.toInt)) ∨ (2 = 6 ∧ 0 ≤ pa.toInt ∧ pa.toInt ≤ 1) from by omega) (show zFm I0 L0 R0 S from by first | (exact hpre0))

/-! from 95.x17 -/
/-! the class opens a heap (written by wip/tools/gen15h.py) -/
theorem g_160_64_sn_p91_0 {X : Nat × (Nat → Int32)} {d w : Nat} {S : ma_S} {Q : Option ma_V ⊕ Nat → ma_S → Prop} (n : Int32) (hd : 7 ≤ d) (hw : 114 ≤ w) (hS : zT S) (h : if n < 0 then (Q (.inr 2) (ma_bump S)) else (if n ≤ (1000 : Int32) then (mR S 64 11 = some 91 ∧ (mR S 64 11 = some 91 ∧ (Q (.inr 6) (ma_bump S)))) else (Q (.inr 2) (ma_bump S)))) : ma_wp X d w 160 0 [(0, .inr (.inr (some 64))), (1, .inl n)] [] S Q := by
  refine zw_push hm_160 dX11_step_0 (v := .inl n) rfl ?_
  refine zw_if0 hm_160 dX11_step_1 (t := 11) rfl zc0_lt ?_ ?_
  · intro hc
    rw [if_pos hc] at h
    exact zw_thr hm_160 dX11_step_11 dX11_step_14 dX11_step_15 dX11_step_18 x_11_79_81 n_11_79 (by omega) (by show 0 + 81 ≤ w; omega) h
  · intro hc
    rw [if_neg hc] at h
    refine zw_push hm_160 dX11_step_4 (v := .inl n) rfl ?_
    refine zw_push hm_160 dX11_step_5 (v := .inl (1000 : Int32)) rfl ?_
    refine zw_if2 hm_160 dX11_step_8 (t := 19) rfl zc2_le ?_ ?_
    · intro hc
      rw [if_pos hc] at h
      refine zw_push hm_160 dX11_step_19 (v := .inr (.inr (some 64))) rfl ?_
      refine zw_cv hm_160 dX11_step_20 v_11_119_11 hm_144 [] [] rfl (zT_rt hS s_64 rfl) ⟨by omega, by omega⟩ rfl ?_
      show ma_wp X (d - 1) (w - 20) 144 0 [(0, .inr (.inr (some 64)))] [] S _
      refine zw_push hm_144 dX11_needCollector_0 (v := .inr (.inr (some 64))) rfl ?_
      obtain ⟨hg, h⟩ := h
      refine zw_gf hm_144 dX11_needCollector_1 (v := .inr (.inr (some 91))) (zT_is hS s_64) (zT_t hS s_64) rfl f_11_98_11 (congrArg (fun z => Sum.inr (Sum.inr z)) hg) ?_
      refine zw_ifnonnull hm_144 dX11_needCollector_4 (t := 15) rfl (fun z => by cases z) (fun _ _ => ?_)
      refine zw_push hm_144 dX11_needCollector_15 (v := .inr (.inr (some 64))) rfl ?_
      obtain ⟨hg, h⟩ := h
      refine zw_gf hm_144 dX11_needCollector_16 (v := .inr (.inr (some 91))) (zT_is hS s_64) (zT_t hS s_64) rfl f_11_98_11 (congrArg (fun z => Sum.inr (Sum.inr z)) hg) ?_
      refine zw_aret hm_144 dX11_needCollector_19 ?_
      show ma_wp X d w 160 23 [(0, .inr (.inr (some 64))), (1, .inl n)] [.inr (.inr (some 91))] S _
      refine zw_sto hm_160 dX11_step_23 [(3, .inr (.inr (some 91))), (0, .inr (.inr (some 64))), (1, .inl n)] rfl rfl rfl ?_
      refine zw_push hm_160 dX11_step_24 (v := .inr (.inr (some 91))) rfl ?_
      refine zw_iof hm_160 dX11_step_25 (zT_is hS s_91) (zT_t hS s_91) rfl ct_11_58_4 (v := (0 : Int32)) rfl ?_
      refine zw_if0 hm_160 dX11_step_28 (t := 42) rfl zc0_eq (fun _ => ?_) (fun hc => absurd (by decide) hc)
      exact zw_thr hm_160 dX11_step_42 dX11_step_45 dX11_step_46 dX11_step_49 x_11_192_194 n_11_192 (by omega) (by show 0 + 81 ≤ w; omega) h
    · intro hc
      rw [if_neg hc] at h
      exact zw_thr hm_160 dX11_step_11 dX11_step_14 dX11_step_15 dX11_step_18 x_11_79_81 n_11_79 (by omega) (by show 0 + 81 ≤ w; omega) h
theorem sp_160_64_sn_p91 {X : Nat × (Nat → Int32)} {d w : Nat} {f : Nat → Nat → Int32} {r : Nat → Nat → Option Nat} {C Z N : Nat} {Q : Option ma_V ⊕ Nat → ma_S → Prop} {I0 : Nat→Nat→Int32} {L0 : Nat→Nat→Int64} {R0 : zRT} {S : ma_S} (n : Int32) (hd : 7 ≤ d) (hw : 114 ≤ w) (hI : zB f r C Z N S) (hr : r 64 11 = some 91) (hpre0 : zFm I0 L0 R0 S) (K : ∀ v S₉, zB f r C Z N S₉ → ((0 : Int) = 1) → Q (.inl (some (.inl v))) S₉) (KX : ∀ x S₉, (x = 2 ∨ x = 6) → zB f r C Z N S₉ → ((x = 2 ∧ (n.toInt < 0 ∨ 1000 < n.toInt)) ∨ (x = 6 ∧ 0 ≤ n.toInt ∧ n.toInt ≤ 1000)) → (zFm I0 L0 R0 S₉) → Q (.inr x) (ma_bump S₉)) : ma_wp X d w 160 0 [(0, .inr (.inr (some 64))), (1, .inl n)] [] S Q := by
  refine g_160_64_sn_p91_0 n (by omega) (by omega) (zG_T hI) ?_
  have b1 := i_bd n
  have li2 : (0 : Int32).toInt = 0 := rfl
  refine zd (fun h3 => ?_) (fun h3 => ?_)
  · skip
    have g4 := i_lt h3
    exact KX 2 _ (by decide) hI (show (2 = 2 ∧ (n.toInt < 0 ∨ 1000 < n.toInt)) ∨ (2 = 6 ∧ 0 ≤ n.toInt ∧ n.toInt ≤ 1000) from by omega) (show zFm I0 L0 R0 S from by first | (exact hpre0))
  · skip
    have g5 := i_nlt h3
    have li6 : (1000 : Int32).toInt = 1000 := rfl
    refine zd (fun h7 => ?_) (fun h7 => ?_)
    · skip
      have g8 := i_le h7
      refine ⟨((zG_r hI (by decide)).trans hr), ?_⟩
      refine ⟨((zG_r hI (by decide)).trans hr), ?_⟩
      exact KX 6 _ (by decide) hI (show (6 = 2 ∧ (n.toInt < 0 ∨ 1000 < n.toInt)) ∨ (6 = 6 ∧ 0 ≤ n.toInt ∧ n.toInt ≤ 1000) from by omega) (show zFm I0 L0 R0 S from by first | (exact hpre0))
    · skip
      have g9 := i_nle h7
      exact KX 2 _ (by decide) hI (show (2 = 2 ∧ (n.toInt < 0 ∨ 1000 < n.toInt)) ∨ (2 = 6 ∧ 0 ≤ n.toInt ∧ n.toInt ≤ 1000) from by omega) (show zFm I0 L0 R0 S from by first | (exact hpre0))
theorem g_162_64_sn_p91_0 {X : Nat × (Nat → Int32)} {d w : Nat} {S : ma_S} {Q : Option ma_V ⊕ Nat → ma_S → Prop} (ix : Int32) (pa : Int32) (hd : 7 ≤ d) (hw : 109 ≤ w) (hS : zT S) (h : if pa < 0 then (Q (.inr 2) (ma_bump S)) else (if pa ≤ (1 : Int32) then (mR S 64 11 = some 91 ∧ (mR S 64 11 = some 91 ∧ (Q (.inr 6) (ma_bump S)))) else (Q (.inr 2) (ma_bump S)))) : ma_wp X d w 162 0 [(0, .inr (.inr (some 64))), (1, .inl ix), (2, .inl pa)] [] S Q := by
  refine zw_push hm_162 dX11_block_0 (v := .inl pa) rfl ?_
  refine zw_if0 hm_162 dX11_block_1 (t := 9) rfl zc0_lt ?_ ?_
  · intro hc
    rw [if_pos hc] at h
    exact zw_thr hm_162 dX11_block_9 dX11_block_12 dX11_block_13 dX11_block_16 x_11_79_81 n_11_79 (by omega) (by show 0 + 81 ≤ w; omega) h
  · intro hc
    rw [if_neg hc] at h
    refine zw_push hm_162 dX11_block_4 (v := .inl pa) rfl ?_
    refine zw_push hm_162 dX11_block_5 (v := .inl (1 : Int32)) rfl ?_
    refine zw_if2 hm_162 dX11_block_6 (t := 17) rfl zc2_le ?_ ?_
    · intro hc
      rw [if_pos hc] at h
      refine zw_push hm_162 dX11_block_17 (v := .inr (.inr (some 64))) rfl ?_
      refine zw_cv hm_162 dX11_block_18 v_11_119_11 hm_144 [] [] rfl (zT_rt hS s_64 rfl) ⟨by omega, by omega⟩ rfl ?_
      show ma_wp X (d - 1) (w - 20) 144 0 [(0, .inr (.inr (some 64)))] [] S _
      refine zw_push hm_144 dX11_needCollector_0 (v := .inr (.inr (some 64))) rfl ?_
      obtain ⟨hg, h⟩ := h
      refine zw_gf hm_144 dX11_needCollector_1 (v := .inr (.inr (some 91))) (zT_is hS s_64) (zT_t hS s_64) rfl f_11_98_11 (congrArg (fun z => Sum.inr (Sum.inr z)) hg) ?_
      refine zw_ifnonnull hm_144 dX11_needCollector_4 (t := 15) rfl (fun z => by cases z) (fun _ _ => ?_)
      refine zw_push hm_144 dX11_needCollector_15 (v := .inr (.inr (some 64))) rfl ?_
      obtain ⟨hg, h⟩ := h
      refine zw_gf hm_144 dX11_needCollector_16 (v := .inr (.inr (some 91))) (zT_is hS s_64) (zT_t hS s_64) rfl f_11_98_11 (congrArg (fun z => Sum.inr (Sum.inr z)) hg) ?_
      refine zw_aret hm_144 dX11_needCollector_19 ?_
      show ma_wp X d w 162 21 [(0, .inr (.inr (some 64))), (1, .inl ix), (2, .inl pa)] [.inr (.inr (some 91))] S _
      refine zw_sto hm_162 dX11_block_21 [(4, .inr (.inr (some 91))), (0, .inr (.inr (some 64))), (1, .inl ix), (2, .inl pa)] rfl rfl rfl ?_
      refine zw_push hm_162 dX11_block_23 (v := .inr (.inr (some 91))) rfl ?_
      refine zw_iof hm_162 dX11_block_25 (zT_is hS s_91) (zT_t hS s_91) rfl ct_11_41_4 (v := (0 : Int32)) rfl ?_
      refine zw_if0 hm_162 dX11_block_28 (t := 77) rfl zc0_eq (fun _ => ?_) (fun hc => absurd (by decide) hc)
      exact zw_thr hm_162 dX11_block_77 dX11_block_80 dX11_block_81 dX11_block_84 x_11_192_194 n_11_192 (by omega) (by show 0 + 81 ≤ w; omega) h
    · intro hc
      rw [if_neg hc] at h
      exact zw_thr hm_162 dX11_block_9 dX11_block_12 dX11_block_13 dX11_block_16 x_11_79_81 n_11_79 (by omega) (by show 0 + 81 ≤ w; omega) h
theorem sp_162_64_sn_p91 {X : Nat × (Nat → Int32)} {d w : Nat} {f : Nat → Nat → Int32} {r : Nat → Nat → Option Nat} {C Z N : Nat} {Q : Option ma_V ⊕ Nat → ma_S → Prop} {I0 : Nat→Nat→Int32} {L0 : Nat→Nat→Int64} {R0 : zRT} {S : ma_S} (ix : Int32) (pa : Int32) (hd : 7 ≤ d) (hw : 109 ≤ w) (hI : zB f r C Z N S) (hr : r 64 11 = some 91) (hpre0 : zFm I0 L0 R0 S) (K : ∀ v S₉, zB f r C Z N S₉ → ((0 : Int) = 1) → Q (.inl (some (.inl v))) S₉) (KX : ∀ x S₉, (x = 2 ∨ x = 6) → zB f r C Z N S₉ → ((x = 2 ∧ (pa.toInt < 0 ∨ 1 < pa.toInt)) ∨ (x = 6 ∧ 0 ≤ pa.toInt ∧ pa.toInt ≤ 1)) → (zFm I0 L0 R0 S₉) → Q (.inr x) (ma_bump S₉)) : ma_wp X d w 162 0 [(0, .inr (.inr (some 64))), (1, .inl ix), (2, .inl pa)] [] S Q := by
  refine g_162_64_sn_p91_0 ix pa (by omega) (by omega) (zG_T hI) ?_
  have b1 := i_bd pa
  have li2 : (0 : Int32).toInt = 0 := rfl
  refine zd (fun h3 => ?_) (fun h3 => ?_)
  · skip
    have g4 := i_lt h3
    exact KX 2 _ (by decide) hI (show (2 = 2 ∧ (pa.toInt < 0 ∨ 1 < pa.toInt)) ∨ (2 = 6 ∧ 0 ≤ pa.toInt ∧ pa.toInt ≤ 1) from by omega) (show zFm I0 L0 R0 S from by first | (exact hpre0))
  · skip
    have g5 := i_nlt h3
    have li6 : (1 : Int32).toInt = 1 := rfl
    refine zd (fun h7 => ?_) (fun h7 => ?_)
    · skip
      have g8 := i_le h7
      refine ⟨((zG_r hI (by decide)).trans hr), ?_⟩
      refine ⟨((zG_r hI (by decide)).trans hr), ?_⟩
      exact KX 6 _ (by decide) hI (show (6 = 2 ∧ (pa.toInt < 0 ∨ 1 < pa.toInt)) ∨ (6 = 6 ∧ 0 ≤ pa.toInt ∧ pa.toInt ≤ 1) from by omega) (show zFm I0 L0 R0 S from by first | (exact hpre0))
    · skip
      have g9 := i_nle h7
      exact KX 2 _ (by decide) hI (show (2 = 2 ∧ (pa.toInt < 0 ∨ 1 < pa.toInt)) ∨ (2 = 6 ∧ 0 ≤ pa.toInt ∧ pa.toInt ≤ 1) from by omega) (show zFm I0 L0 R0 S from by first | (exact hpre0))

/-! from 95.y00 -/
/-! the reference opens a heap (written by wip/tools/gen15w.py) -/
/-! what the text says of the moving policies -/
def qT1 (K ro : Int) (t : Nat → Int32) (n : Int) : Prop := (K = 1 ∨ K = 2) → ro = zVal t n 0 1
def qT3 (K yo ol ag cd : Int) (t : Nat → Int32) (n : Int) : Prop := K = 3 → (yo = zVal t n 0 1 ∧ ol = zVal t n 0 2 ∧ ag = zVal t n 1 3 ∧ cd = zVal t n 2 4)
def qTa (K ro e : Int) (t : Nat → Int32) (n : Int) : Prop := K = 6 → (ro = zVal t n 0 1 ∧ e = zte t n 1)
def qT6 (K ro si sh : Int) (t : Nat → Int32) (n : Int) : Prop := K = 6 → (ro = zVal t n 0 1 ∧ si = zV4 t n ∧ sh = zVal t n 5 3)
theorem zV4_cg {t t₉ : Nat → Int32} {n : Int} (h : ∀ k : Nat, (k : Int) < n → t k = t₉ k) (hn : 0 ≤ n) (h3 : n ≤ 100) : zV4 t n = zV4 t₉ n := by
  have q := zt_cg h hn 2
  unfold zV4
  rw [zVal_cg h hn h3, q.1, q.2.1]
  exact zPart_cg h q.2.2.1 q.2.2.2.1 q.2.2.2.2 h3
theorem jm_cg {t t₉ : Nat → Int32} {n K ro yo ol ag cd si sh : Int} (h : qT1 K ro t n ∧ qT3 K yo ol ag cd t n ∧ qT6 K ro si sh t n) (hs : ∀ k : Nat, (k : Int) < n → t k = t₉ k) (hn : 0 ≤ n) (h3 : n ≤ 100) : qT1 K ro t₉ n ∧ qT3 K yo ol ag cd t₉ n ∧ qT6 K ro si sh t₉ n := by
  obtain ⟨h1, h2, h6⟩ := h
  unfold qT1 qT3 qT6 at *
  rw [← zVal_cg (c := 0) (k := 1) hs hn h3, ← zVal_cg (c := 0) (k := 2) hs hn h3, ← zVal_cg (c := 1) (k := 3) hs hn h3, ← zVal_cg (c := 2) (k := 4) hs hn h3, ← zVal_cg (c := 5) (k := 3) hs hn h3, ← zV4_cg hs hn h3]
  exact ⟨h1, h2, h6⟩

