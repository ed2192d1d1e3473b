/-! from 95.zn0 -/
/-! the class where no heap stands (written by wip/tools/gen15n.py) -/

theorem g_157_64_sx_p0_0 {X : Nat × (Nat → Int32)} {d w : Nat} {S : ma_S} {Q : Option ma_V ⊕ Nat → ma_S → Prop} (o : Int32) (hd : 7 ≤ d) (hw : 111 ≤ w) (hS : zT S) (h : mR S 64 11 = none ∧ (Q (.inr 3) (ma_bump S))) : ma_wp X d w 157 0 [(0, .inr (.inr (some 64))), (1, .inl o)] [] S Q := by
  refine zw_push hm_157 dX11_wish_0 (v := .inr (.inr (some 64))) rfl ?_
  refine zw_cv hm_157 dX11_wish_1 v_11_119_11 hm_144 [] [] rfl (zT_rt hS s_64 rfl) ⟨by omega, by omega⟩ rfl ?_
  show ma_wp X (d - 1) (w - 20) 144 0 [(0, .inr (.inr (some 64)))] [] S _
  refine zw_push hm_144 dX11_needCollector_0 (v := .inr (.inr (some 64))) rfl ?_
  obtain ⟨hg, h⟩ := h
  refine zw_gf hm_144 dX11_needCollector_1 (v := .inr (.inr none)) (zT_is hS s_64) (zT_t hS s_64) rfl f_11_98_11 (congrArg (fun z => Sum.inr (Sum.inr z)) hg) ?_
  refine zw_ifnonnull hm_144 dX11_needCollector_4 (t := 15) rfl (fun _ => ?_) (fun _ z => by cases z)
  exact zw_thr hm_144 dX11_needCollector_7 dX11_needCollector_10 dX11_needCollector_11 dX11_needCollector_14 x_11_85_87 n_11_85 (by omega) (by show 0 + 81 ≤ (w - 20); omega) ⟨by decide, h⟩
theorem sp_157_64_sx_p0 {X : Nat × (Nat → Int32)} {d w : Nat} {f : Nat → Nat → Int32} {r : Nat → Nat → Option Nat} {C Z N : Nat} {Q : Option ma_V ⊕ Nat → ma_S → Prop} {S : ma_S} (o : Int32) (hd : 7 ≤ d) (hw : 111 ≤ w) (hI : zB f r C Z N S) (hr : r 64 11 = none)  (K : ∀ v S₉, zB f r C Z N S₉ → ((0 : Int) = 1) → Q (.inl (some (.inl v))) S₉) (KX : ∀ x S₉, (x = 3) → zB f r C Z N S₉ → Q (.inr x) (ma_bump S₉)) : ma_wp X d w 157 0 [(0, .inr (.inr (some 64))), (1, .inl o)] [] S Q := by
  refine g_157_64_sx_p0_0 o (by omega) (by omega) (zG_T hI) ?_
  refine ⟨((zG_r hI (by decide)).trans hr), ?_⟩
  exact KX 3 _ (by decide) hI
theorem g_148_64_sx_p0_0 {X : Nat × (Nat → Int32)} {d w : Nat} {S : ma_S} {Q : Option ma_V ⊕ Nat → ma_S → Prop} (o : Int32) (i : Int32) (x : Int32) (hd : 7 ≤ d) (hw : 111 ≤ w) (hS : zT S) (h : mR S 64 11 = none ∧ (Q (.inr 3) (ma_bump S))) : ma_wp X d w 148 0 [(0, .inr (.inr (some 64))), (1, .inl o), (2, .inl i), (3, .inl x)] [] S Q := by
  refine zw_push hm_148 dX11_put_0 (v := .inr (.inr (some 64))) rfl ?_
  refine zw_cv hm_148 dX11_put_1 v_11_119_11 hm_144 [] [] rfl (zT_rt hS s_64 rfl) ⟨by omega, by omega⟩ rfl ?_
  show ma_wp X (d - 1) (w - 20) 144 0 [(0, .inr (.inr (some 64)))] [] S _
  refine zw_push hm_144 dX11_needCollector_0 (v := .inr (.inr (some 64))) rfl ?_
  obtain ⟨hg, h⟩ := h
  refine zw_gf hm_144 dX11_needCollector_1 (v := .inr (.inr none)) (zT_is hS s_64) (zT_t hS s_64) rfl f_11_98_11 (congrArg (fun z => Sum.inr (Sum.inr z)) hg) ?_
  refine zw_ifnonnull hm_144 dX11_needCollector_4 (t := 15) rfl (fun _ => ?_) (fun _ z => by cases z)
  exact zw_thr hm_144 dX11_needCollector_7 dX11_needCollector_10 dX11_needCollector_11 dX11_needCollector_14 x_11_85_87 n_11_85 (by omega) (by show 0 + 81 ≤ (w - 20); omega) ⟨by decide, h⟩
theorem sp_148_64_sx_p0 {X : Nat × (Nat → Int32)} {d w : Nat} {f : Nat → Nat → Int32} {r : Nat → Nat → Option Nat} {C Z N : Nat} {Q : Option ma_V ⊕ Nat → ma_S → Prop} {S : ma_S} (o : Int32) (i : Int32) (x : Int32) (hd : 7 ≤ d) (hw : 111 ≤ w) (hI : zB f r C Z N S) (hr : r 64 11 = none)  (K : ∀ v S₉, zB f r C Z N S₉ → ((0 : Int) = 1) → Q (.inl (some (.inl v))) S₉) (KX : ∀ x S₉, (x = 3) → zB f r C Z N S₉ → Q (.inr x) (ma_bump S₉)) : ma_wp X d w 148 0 [(0, .inr (.inr (some 64))), (1, .inl o), (2, .inl i), (3, .inl x)] [] S Q := by
  refine g_148_64_sx_p0_0 o i x (by omega) (by omega) (zG_T hI) ?_
  refine ⟨((zG_r hI (by decide)).trans hr), ?_⟩
  exact KX 3 _ (by decide) hI
theorem g_150_64_sx_p0_0 {X : Nat × (Nat → Int32)} {d w : Nat} {S : ma_S} {Q : Option ma_V ⊕ Nat → ma_S → Prop} (o : Int32) (i : Int32) (t : Int32) (hd : 8 ≤ d) (hw : 132 ≤ w) (hS : zT S) (h : mR S 64 11 = none ∧ (Q (.inr 3) (ma_bump S))) : ma_wp X d w 150 0 [(0, .inr (.inr (some 64))), (1, .inl o), (2, .inl i), (3, .inl t)] [] S Q := by
  refine zw_push hm_150 dX11_link_0 (v := .inr (.inr (some 64))) rfl ?_
  refine zw_cv hm_150 dX11_link_1 v_11_119_11 hm_144 [] [] rfl (zT_rt hS s_64 rfl) ⟨by omega, by omega⟩ rfl ?_
  show ma_wp X (d - 1) (w - 20) 144 0 [(0, .inr (.inr (some 64)))] [] S _
  refine zw_push hm_144 dX11_needCollector_0 (v := .inr (.inr (some 64))) rfl ?_
  obtain ⟨hg, h⟩ := h
  refine zw_gf hm_144 dX11_needCollector_1 (v := .inr (.inr none)) (zT_is hS s_64) (zT_t hS s_64) rfl f_11_98_11 (congrArg (fun z => Sum.inr (Sum.inr z)) hg) ?_
  refine zw_ifnonnull hm_144 dX11_needCollector_4 (t := 15) rfl (fun _ => ?_) (fun _ z => by cases z)
  exact zw_thr hm_144 dX11_needCollector_7 dX11_needCollector_10 dX11_needCollector_11 dX11_needCollector_14 x_11_85_87 n_11_85 (by omega) (by show 0 + 81 ≤ (w - 20); omega) ⟨by decide, h⟩
theorem sp_150_64_sx_p0 {X : Nat × (Nat → Int32)} {d w : Nat} {f : Nat → Nat → Int32} {r : Nat → Nat → Option Nat} {C Z N : Nat} {Q : Option ma_V ⊕ Nat → ma_S → Prop} {S : ma_S} (o : Int32) (i : Int32) (t : Int32) (hd : 8 ≤ d) (hw : 132 ≤ w) (hI : zB f r C Z N S) (hr : r 64 11 = none)  (K : ∀ v S₉, zB f r C Z N S₉ → ((0 : Int) = 1) → Q (.inl (some (.inl v))) S₉) (KX : ∀ x S₉, (x = 3) → zB f r C Z N S₉ → Q (.inr x) (ma_bump S₉)) : ma_wp X d w 150 0 [(0, .inr (.inr (some 64))), (1, .inl o), (2, .inl i), (3, .inl t)] [] S Q := by
  refine g_150_64_sx_p0_0 o i t (by omega) (by omega) (zG_T hI) ?_
  refine ⟨((zG_r hI (by decide)).trans hr), ?_⟩
  exact KX 3 _ (by decide) hI
theorem g_152_64_sx_p0_0 {X : Nat × (Nat → Int32)} {d w : Nat} {S : ma_S} {Q : Option ma_V ⊕ Nat → ma_S → Prop} (o : Int32) (i : Int32) (hd : 7 ≤ d) (hw : 111 ≤ w) (hS : zT S) (h : mR S 64 11 = none ∧ (Q (.inr 3) (ma_bump S))) : ma_wp X d w 152 0 [(0, .inr (.inr (some 64))), (1, .inl o), (2, .inl i)] [] S Q := by
  refine zw_push hm_152 dX11_get_0 (v := .inr (.inr (some 64))) rfl ?_
  refine zw_cv hm_152 dX11_get_1 v_11_119_11 hm_144 [] [] rfl (zT_rt hS s_64 rfl) ⟨by omega, by omega⟩ rfl ?_
  show ma_wp X (d - 1) (w - 20) 144 0 [(0, .inr (.inr (some 64)))] [] S _
  refine zw_push hm_144 dX11_needCollector_0 (v := .inr (.inr (some 64))) rfl ?_
  obtain ⟨hg, h⟩ := h
  refine zw_gf hm_144 dX11_needCollector_1 (v := .inr (.inr none)) (zT_is hS s_64) (zT_t hS s_64) rfl f_11_98_11 (congrArg (fun z => Sum.inr (Sum.inr z)) hg) ?_
  refine zw_ifnonnull hm_144 dX11_needCollector_4 (t := 15) rfl (fun _ => ?_) (fun _ z => by cases z)
  exact zw_thr hm_144 dX11_needCollector_7 dX11_needCollector_10 dX11_needCollector_11 dX11_needCollector_14 x_11_85_87 n_11_85 (by omega) (by show 0 + 81 ≤ (w - 20); omega) ⟨by decide, h⟩
theorem sp_152_64_sx_p0 {X : Nat × (Nat → Int32)} {d w : Nat} {f : Nat → Nat → Int32} {r : Nat → Nat → Option Nat} {C Z N : Nat} {Q : Option ma_V ⊕ Nat → ma_S → Prop} {S : ma_S} (o : Int32) (i : Int32) (hd : 7 ≤ d) (hw : 111 ≤ w) (hI : zB f r C Z N S) (hr : r 64 11 = none)  (K : ∀ v S₉, zB f r C Z N S₉ → ((0 : Int) = 1) → Q (.inl (some (.inl v))) S₉) (KX : ∀ x S₉, (x = 3) → zB f r C Z N S₉ → Q (.inr x) (ma_bump S₉)) : ma_wp X d w 152 0 [(0, .inr (.inr (some 64))), (1, .inl o), (2, .inl i)] [] S Q := by
  refine g_152_64_sx_p0_0 o i (by omega) (by omega) (zG_T hI) ?_
  refine ⟨((zG_r hI (by decide)).trans hr), ?_⟩
  exact KX 3 _ (by decide) hI
theorem g_156_64_sx_p0_0 {X : Nat × (Nat → Int32)} {d w : Nat} {S : ma_S} {Q : Option ma_V ⊕ Nat → ma_S → Prop} (o : Int32) (b : Int32) (hd : 7 ≤ d) (hw : 111 ≤ w) (hS : zT S) (h : mR S 64 11 = none ∧ (Q (.inr 3) (ma_bump S))) : ma_wp X d w 156 0 [(0, .inr (.inr (some 64))), (1, .inl o), (2, .inl b)] [] S Q := by
  refine zw_push hm_156 dX11_hold_0 (v := .inr (.inr (some 64))) rfl ?_
  refine zw_cv hm_156 dX11_hold_1 v_11_119_11 hm_144 [] [] rfl (zT_rt hS s_64 rfl) ⟨by omega, by omega⟩ rfl ?_
  show ma_wp X (d - 1) (w - 20) 144 0 [(0, .inr (.inr (some 64)))] [] S _
  refine zw_push hm_144 dX11_needCollector_0 (v := .inr (.inr (some 64))) rfl ?_
  obtain ⟨hg, h⟩ := h
  refine zw_gf hm_144 dX11_needCollector_1 (v := .inr (.inr none)) (zT_is hS s_64) (zT_t hS s_64) rfl f_11_98_11 (congrArg (fun z => Sum.inr (Sum.inr z)) hg) ?_
  refine zw_ifnonnull hm_144 dX11_needCollector_4 (t := 15) rfl (fun _ => ?_) (fun _ z => by cases z)
  exact zw_thr hm_144 dX11_needCollector_7 dX11_needCollector_10 dX11_needCollector_11 dX11_needCollector_14 x_11_85_87 n_11_85 (by omega) (by show 0 + 81 ≤ (w - 20); omega) ⟨by decide, h⟩
theorem sp_156_64_sx_p0 {X : Nat × (Nat → Int32)} {d w : Nat} {f : Nat → Nat → Int32} {r : Nat → Nat → Option Nat} {C Z N : Nat} {Q : Option ma_V ⊕ Nat → ma_S → Prop} {S : ma_S} (o : Int32) (b : Int32) (hd : 7 ≤ d) (hw : 111 ≤ w) (hI : zB f r C Z N S) (hr : r 64 11 = none)  (K : ∀ v S₉, zB f r C Z N S₉ → ((0 : Int) = 1) → Q (.inl (some (.inl v))) S₉) (KX : ∀ x S₉, (x = 3) → zB f r C Z N S₉ → Q (.inr x) (ma_bump S₉)) : ma_wp X d w 156 0 [(0, .inr (.inr (some 64))), (1, .inl o), (2, .inl b)] [] S Q := by
  refine g_156_64_sx_p0_0 o b (by omega) (by omega) (zG_T hI) ?_
  refine ⟨((zG_r hI (by decide)).trans hr), ?_⟩
  exact KX 3 _ (by decide) hI
theorem g_159_64_sx_p0_0 {X : Nat × (Nat → Int32)} {d w : Nat} {S : ma_S} {Q : Option ma_V ⊕ Nat → ma_S → Prop}  (hd : 7 ≤ d) (hw : 179 ≤ w) (hS : zT S) (h : mR S 64 11 = none ∧ (Q (.inr 3) (ma_bump S))) : ma_wp X d w 159 0 [(0, .inr (.inr (some 64)))] [] S Q := by
  refine zw_push hm_159 dX11_clean_0 (v := .inr (.inr (some 64))) rfl ?_
  refine zw_cv hm_159 dX11_clean_1 v_11_119_11 hm_144 [] [] rfl (zT_rt hS s_64 rfl) ⟨by omega, by omega⟩ rfl ?_
  show ma_wp X (d - 1) (w - 20) 144 0 [(0, .inr (.inr (some 64)))] [] S _
  refine zw_push hm_144 dX11_needCollector_0 (v := .inr (.inr (some 64))) rfl ?_
  obtain ⟨hg, h⟩ := h
  refine zw_gf hm_144 dX11_needCollector_1 (v := .inr (.inr none)) (zT_is hS s_64) (zT_t hS s_64) rfl f_11_98_11 (congrArg (fun z => Sum.inr (Sum.inr z)) hg) ?_
  refine zw_ifnonnull hm_144 dX11_needCollector_4 (t := 15) rfl (fun _ => ?_) (fun _ z => by cases z)
  exact zw_thr hm_144 dX11_needCollector_7 dX11_needCollector_10 dX11_needCollector_11 dX11_needCollector_14 x_11_85_87 n_11_85 (by omega) (by show 0 + 81 ≤ (w - 20); omega) ⟨by decide, h⟩
theorem sp_159_64_sx_p0 {X : Nat × (Nat → Int32)} {d w : Nat} {f : Nat → Nat → Int32} {r : Nat → Nat → Option Nat} {C Z N : Nat} {Q : Option ma_V ⊕ Nat → ma_S → Prop} {S : ma_S}  (hd : 7 ≤ d) (hw : 179 ≤ w) (hI : zB f r C Z N S) (hr : r 64 11 = none)  (K : ∀ v S₉, zB f r C Z N S₉ → ((0 : Int) = 1) → Q (.inl (some (.inl v))) S₉) (KX : ∀ x S₉, (x = 3) → zB f r C Z N S₉ → Q (.inr x) (ma_bump S₉)) : ma_wp X d w 159 0 [(0, .inr (.inr (some 64)))] [] S Q := by
  refine g_159_64_sx_p0_0  (by omega) (by omega) (zG_T hI) ?_
  refine ⟨((zG_r hI (by decide)).trans hr), ?_⟩
  exact KX 3 _ (by decide) hI
theorem g_153_64_sx_p0_0 {X : Nat × (Nat → Int32)} {d w : Nat} {S : ma_S} {Q : Option ma_V ⊕ Nat → ma_S → Prop} (i : Int32) (o : Int32) (hd : 8 ≤ d) (hw : 134 ≤ w) (hS : zT S) (h : if i < 0 then (Q (.inr 2) (ma_bump S)) else (if (16 : Int32) ≤ i then (Q (.inr 2) (ma_bump S)) else (mR S 64 11 = none ∧ (Q (.inr 3) (ma_bump S))))) : ma_wp X d w 153 0 [(0, .inr (.inr (some 64))), (1, .inl i), (2, .inl o)] [] S Q := by
  refine zw_push hm_153 dX11_root_0 (v := .inl i) rfl ?_
  refine zw_cs hm_153 dX11_root_1 pn_11_109 sl_11_109 hm_142 [.inl i] [] rfl ⟨by omega, by omega⟩ rfl ?_
  show ma_wp X (d - 1) (w - 20) 142 0 [(0, .inl i)] [] S _
  refine zw_push hm_142 dX11_isSlot_0 (v := .inl i) rfl ?_
  refine zw_if0 hm_142 dX11_isSlot_1 (t := 14) rfl zc0_lt ?_ ?_
  · intro hc
    rw [if_pos hc] at h
    refine zw_push hm_142 dX11_isSlot_14 (v := .inl (0 : Int32)) rfl ?_
    refine zw_bret hm_142 dX11_isSlot_15 (by decide) ?_
    show ma_wp X d w 153 4 [(0, .inr (.inr (some 64))), (1, .inl i), (2, .inl o)] [.inl (0 : Int32)] S _
    refine zw_if0 hm_153 dX11_root_4 (t := 15) rfl zc0_ne (fun hc => absurd hc (by decide)) (fun _ => ?_)
    exact zw_thr hm_153 dX11_root_7 dX11_root_10 dX11_root_11 dX11_root_14 x_11_79_81 n_11_79 (by omega) (by show 0 + 81 ≤ w; omega) h
  · intro hc
    rw [if_neg hc] at h
    refine zw_push hm_142 dX11_isSlot_4 (v := .inl i) rfl ?_
    refine zw_push hm_142 dX11_isSlot_5 (v := .inl (16 : Int32)) rfl ?_
    refine zw_if2 hm_142 dX11_isSlot_7 (t := 14) rfl zc2_ge ?_ ?_
    · intro hc
      rw [if_pos hc] at h
      refine zw_push hm_142 dX11_isSlot_14 (v := .inl (0 : Int32)) rfl ?_
      refine zw_bret hm_142 dX11_isSlot_15 (by decide) ?_
      show ma_wp X d w 153 4 [(0, .inr (.inr (some 64))), (1, .inl i), (2, .inl o)] [.inl (0 : Int32)] S _
      refine zw_if0 hm_153 dX11_root_4 (t := 15) rfl zc0_ne (fun hc => absurd hc (by decide)) (fun _ => ?_)
      exact zw_thr hm_153 dX11_root_7 dX11_root_10 dX11_root_11 dX11_root_14 x_11_79_81 n_11_79 (by omega) (by show 0 + 81 ≤ w; omega) h
    · intro hc
      rw [if_neg hc] at h
      refine zw_push hm_142 dX11_isSlot_10 (v := .inl (1 : Int32)) rfl ?_
      refine zw_goto hm_142 dX11_isSlot_11 (t := 15) rfl ?_
      refine zw_bret hm_142 dX11_isSlot_15 (by decide) ?_
      show ma_wp X d w 153 4 [(0, .inr (.inr (some 64))), (1, .inl i), (2, .inl o)] [.inl (1 : Int32)] S _
      refine zw_if0 hm_153 dX11_root_4 (t := 15) rfl zc0_ne (fun _ => ?_) (fun hc => absurd (by decide) hc)
      refine zw_push hm_153 dX11_root_15 (v := .inr (.inr (some 64))) rfl ?_
      refine zw_cv hm_153 dX11_root_16 v_11_119_11 hm_144 [] [] rfl (zT_rt hS s_64 rfl) ⟨by omega, by omega⟩ rfl ?_
      show ma_wp X (d - 1) (w - 20) 144 0 [(0, .inr (.inr (some 64)))] [] S _
      refine zw_push hm_144 dX11_needCollector_0 (v := .inr (.inr (some 64))) rfl ?_
      obtain ⟨hg, h⟩ := h
      refine zw_gf hm_144 dX11_needCollector_1 (v := .inr (.inr none)) (zT_is hS s_64) (zT_t hS s_64) rfl f_11_98_11 (congrArg (fun z => Sum.inr (Sum.inr z)) hg) ?_
      refine zw_ifnonnull hm_144 dX11_needCollector_4 (t := 15) rfl (fun _ => ?_) (fun _ z => by cases z)
      exact zw_thr hm_144 dX11_needCollector_7 dX11_needCollector_10 dX11_needCollector_11 dX11_needCollector_14 x_11_85_87 n_11_85 (by omega) (by show 0 + 81 ≤ (w - 20); omega) ⟨by decide, h⟩
theorem sp_153_64_sx_p0 {X : Nat × (Nat → Int32)} {d w : Nat} {f : Nat → Nat → Int32} {r : Nat → Nat → Option Nat} {C Z N : Nat} {Q : Option ma_V ⊕ Nat → ma_S → Prop} {S : ma_S} (i : Int32) (o : Int32) (hd : 8 ≤ d) (hw : 134 ≤ w) (hI : zB f r C Z N S) (hr : r 64 11 = none)  (K : ∀ v S₉, zB f r C Z N S₉ → ((0 : Int) = 1) → Q (.inl (some (.inl v))) S₉) (KX : ∀ x S₉, (x = 2 ∨ x = 3) → zB f r C Z N S₉ → ((x = 2 ∧ ¬ (0 ≤ i.toInt ∧ i.toInt ≤ 15)) ∨ (x = 3 ∧ (0 ≤ i.toInt ∧ i.toInt ≤ 15))) → Q (.inr x) (ma_bump S₉)) : ma_wp X d w 153 0 [(0, .inr (.inr (some 64))), (1, .inl i), (2, .inl o)] [] S Q := by
  refine g_153_64_sx_p0_0 i o (by omega) (by omega) (zG_T hI) ?_
  have b1 := i_bd i
  have li2 : (0 : Int32).toInt = 0 := rfl
  refine zd (fun h3 => ?_) (fun h3 => ?_)
  · skip
    have g4 := i_lt h3
    exact KX 2 _ (by decide) hI (show (2 = 2 ∧ ¬ (0 ≤ i.toInt ∧ i.toInt ≤ 15)) ∨ (2 = 3 ∧ (0 ≤ i.toInt ∧ i.toInt ≤ 15)) from by omega)
  · skip
    have g5 := i_nlt h3
    have li6 : (16 : Int32).toInt = 16 := rfl
    refine zd (fun h7 => ?_) (fun h7 => ?_)
    · skip
      have g8 := i_le h7
      exact KX 2 _ (by decide) hI (show (2 = 2 ∧ ¬ (0 ≤ i.toInt ∧ i.toInt ≤ 15)) ∨ (2 = 3 ∧ (0 ≤ i.toInt ∧ i.toInt ≤ 15)) from by omega)
    · skip
      have g9 := i_nle h7
      refine ⟨((zG_r hI (by decide)).trans hr), ?_⟩
      exact KX 3 _ (by decide) hI (show (3 = 2 ∧ ¬ (0 ≤ i.toInt ∧ i.toInt ≤ 15)) ∨ (3 = 3 ∧ (0 ≤ i.toInt ∧ i.toInt ≤ 15)) from by omega)
theorem g_154_64_sx_p0_0 {X : Nat × (Nat → Int32)} {d w : Nat} {S : ma_S} {Q : Option ma_V ⊕ Nat → ma_S → Prop} (i : Int32) (o : Int32) (hd : 8 ≤ d) (hw : 132 ≤ w) (hS : zT S) (h : if i < 0 then (Q (.inr 2) (ma_bump S)) else (if (16 : Int32) ≤ i then (Q (.inr 2) (ma_bump S)) else (mR S 64 11 = none ∧ (Q (.inr 3) (ma_bump S))))) : ma_wp X d w 154 0 [(0, .inr (.inr (some 64))), (1, .inl i), (2, .inl o)] [] S Q := by
  refine zw_push hm_154 dX11_weak_0 (v := .inl i) rfl ?_
  refine zw_cs hm_154 dX11_weak_1 pn_11_109 sl_11_109 hm_142 [.inl i] [] rfl ⟨by omega, by omega⟩ rfl ?_
  show ma_wp X (d - 1) (w - 20) 142 0 [(0, .inl i)] [] S _
  refine zw_push hm_142 dX11_isSlot_0 (v := .inl i) rfl ?_
  refine zw_if0 hm_142 dX11_isSlot_1 (t := 14) rfl zc0_lt ?_ ?_
  · intro hc
    rw [if_pos hc] at h
    refine zw_push hm_142 dX11_isSlot_14 (v := .inl (0 : Int32)) rfl ?_
    refine zw_bret hm_142 dX11_isSlot_15 (by decide) ?_
    show ma_wp X d w 154 4 [(0, .inr (.inr (some 64))), (1, .inl i), (2, .inl o)] [.inl (0 : Int32)] S _
    refine zw_if0 hm_154 dX11_weak_4 (t := 15) rfl zc0_ne (fun hc => absurd hc (by decide)) (fun _ => ?_)
    exact zw_thr hm_154 dX11_weak_7 dX11_weak_10 dX11_weak_11 dX11_weak_14 x_11_79_81 n_11_79 (by omega) (by show 0 + 81 ≤ w; omega) h
  · intro hc
    rw [if_neg hc] at h
    refine zw_push hm_142 dX11_isSlot_4 (v := .inl i) rfl ?_
    refine zw_push hm_142 dX11_isSlot_5 (v := .inl (16 : Int32)) rfl ?_
    refine zw_if2 hm_142 dX11_isSlot_7 (t := 14) rfl zc2_ge ?_ ?_
    · intro hc
      rw [if_pos hc] at h
      refine zw_push hm_142 dX11_isSlot_14 (v := .inl (0 : Int32)) rfl ?_
      refine zw_bret hm_142 dX11_isSlot_15 (by decide) ?_
      show ma_wp X d w 154 4 [(0, .inr (.inr (some 64))), (1, .inl i), (2, .inl o)] [.inl (0 : Int32)] S _
      refine zw_if0 hm_154 dX11_weak_4 (t := 15) rfl zc0_ne (fun hc => absurd hc (by decide)) (fun _ => ?_)
      exact zw_thr hm_154 dX11_weak_7 dX11_weak_10 dX11_weak_11 dX11_weak_14 x_11_79_81 n_11_79 (by omega) (by show 0 + 81 ≤ w; omega) h
    · intro hc
      rw [if_neg hc] at h
      refine zw_push hm_142 dX11_isSlot_10 (v := .inl (1 : Int32)) rfl ?_
      refine zw_goto hm_142 dX11_isSlot_11 (t := 15) rfl ?_
      refine zw_bret hm_142 dX11_isSlot_15 (by decide) ?_
      show ma_wp X d w 154 4 [(0, .inr (.inr (some 64))), (1, .inl i), (2, .inl o)] [.inl (1 : Int32)] S _
      refine zw_if0 hm_154 dX11_weak_4 (t := 15) rfl zc0_ne (fun _ => ?_) (fun hc => absurd (by decide) hc)
      refine zw_push hm_154 dX11_weak_15 (v := .inr (.inr (some 64))) rfl ?_
      refine zw_cv hm_154 dX11_weak_16 v_11_119_11 hm_144 [] [] rfl (zT_rt hS s_64 rfl) ⟨by omega, by omega⟩ rfl ?_
      show ma_wp X (d - 1) (w - 20) 144 0 [(0, .inr (.inr (some 64)))] [] S _
      refine zw_push hm_144 dX11_needCollector_0 (v := .inr (.inr (some 64))) rfl ?_
      obtain ⟨hg, h⟩ := h
      refine zw_gf hm_144 dX11_needCollector_1 (v := .inr (.inr none)) (zT_is hS s_64) (zT_t hS s_64) rfl f_11_98_11 (congrArg (fun z => Sum.inr (Sum.inr z)) hg) ?_
      refine zw_ifnonnull hm_144 dX11_needCollector_4 (t := 15) rfl (fun _ => ?_) (fun _ z => by cases z)
      exact zw_thr hm_144 dX11_needCollector_7 dX11_needCollector_10 dX11_needCollector_11 dX11_needCollector_14 x_11_85_87 n_11_85 (by omega) (by show 0 + 81 ≤ (w - 20); omega) ⟨by decide, h⟩
theorem sp_154_64_sx_p0 {X : Nat × (Nat → Int32)} {d w : Nat} {f : Nat → Nat → Int32} {r : Nat → Nat → Option Nat} {C Z N : Nat} {Q : Option ma_V ⊕ Nat → ma_S → Prop} {S : ma_S} (i : Int32) (o : Int32) (hd : 8 ≤ d) (hw : 132 ≤ w) (hI : zB f r C Z N S) (hr : r 64 11 = none)  (K : ∀ v S₉, zB f r C Z N S₉ → ((0 : Int) = 1) → Q (.inl (some (.inl v))) S₉) (KX : ∀ x S₉, (x = 2 ∨ x = 3) → zB f r C Z N S₉ → ((x = 2 ∧ ¬ (0 ≤ i.toInt ∧ i.toInt ≤ 15)) ∨ (x = 3 ∧ (0 ≤ i.toInt ∧ i.toInt ≤ 15))) → Q (.inr x) (ma_bump S₉)) : ma_wp X d w 154 0 [(0, .inr (.inr (some 64))), (1, .inl i), (2, .inl o)] [] S Q := by
  refine g_154_64_sx_p0_0 i o (by omega) (by omega) (zG_T hI) ?_
  have b1 := i_bd i
  have li2 : (0 : Int32).toInt = 0 := rfl
  refine zd (fun h3 => ?_) (fun h3 => ?_)
  · skip
    have g4 := i_lt h3
    exact KX 2 _ (by decide) hI (show (2 = 2 ∧ ¬ (0 ≤ i.toInt ∧ i.toInt ≤ 15)) ∨ (2 = 3 ∧ (0 ≤ i.toInt ∧ i.toInt ≤ 15)) from by omega)
  · skip
    have g5 := i_nlt h3
    have li6 : (16 : Int32).toInt = 16 := rfl
    refine zd (fun h7 => ?_) (fun h7 => ?_)
    · skip
      have g8 := i_le h7
      exact KX 2 _ (by decide) hI (show (2 = 2 ∧ ¬ (0 ≤ i.toInt ∧ i.toInt ≤ 15)) ∨ (2 = 3 ∧ (0 ≤ i.toInt ∧ i.toInt ≤ 15)) from by omega)
    · skip
      have g9 := i_nle h7
      refine ⟨((zG_r hI (by decide)).trans hr), ?_⟩
      exact KX 3 _ (by decide) hI (show (3 = 2 ∧ ¬ (0 ≤ i.toInt ∧ i.toInt ≤ 15)) ∨ (3 = 3 ∧ (0 ≤ i.toInt ∧ i.toInt ≤ 15)) from by omega)
theorem g_155_64_sx_p0_0 {X : Nat × (Nat → Int32)} {d w : Nat} {S : ma_S} {Q : Option ma_V ⊕ Nat → ma_S → Prop} (i : Int32) (rt : Int32) (hd : 7 ≤ d) (hw : 134 ≤ w) (hS : zT S) (h : if i < 0 then (Q (.inr 2) (ma_bump S)) else (if (16 : Int32) ≤ i then (Q (.inr 2) (ma_bump S)) else (if rt < 0 then (Q (.inr 2) (ma_bump S)) else (if (16 : Int32) ≤ rt then (Q (.inr 2) (ma_bump S)) else (mR S 64 11 = none ∧ (Q (.inr 3) (ma_bump S))))))) : ma_wp X d w 155 0 [(0, .inr (.inr (some 64))), (1, .inl i), (2, .inl rt)] [] S Q := by
  refine zw_push hm_155 dX11_strong_0 (v := .inl i) rfl ?_
  refine zw_cs hm_155 dX11_strong_1 pn_11_109 sl_11_109 hm_142 [.inl i] [] rfl ⟨by omega, by omega⟩ rfl ?_
  show ma_wp X (d - 1) (w - 20) 142 0 [(0, .inl i)] [] S _
  refine zw_push hm_142 dX11_isSlot_0 (v := .inl i) rfl ?_
  refine zw_if0 hm_142 dX11_isSlot_1 (t := 14) rfl zc0_lt ?_ ?_
  · intro hc
    rw [if_pos hc] at h
    refine zw_push hm_142 dX11_isSlot_14 (v := .inl (0 : Int32)) rfl ?_
    refine zw_bret hm_142 dX11_isSlot_15 (by decide) ?_
    show ma_wp X d w 155 4 [(0, .inr (.inr (some 64))), (1, .inl i), (2, .inl rt)] [.inl (0 : Int32)] S _
    refine zw_if0 hm_155 dX11_strong_4 (t := 14) rfl zc0_eq (fun _ => ?_) (fun hc => absurd (by decide) hc)
    exact zw_thr hm_155 dX11_strong_14 dX11_strong_17 dX11_strong_18 dX11_strong_21 x_11_79_81 n_11_79 (by omega) (by show 0 + 81 ≤ w; omega) h
  · intro hc
    rw [if_neg hc] at h
    refine zw_push hm_142 dX11_isSlot_4 (v := .inl i) rfl ?_
    refine zw_push hm_142 dX11_isSlot_5 (v := .inl (16 : Int32)) rfl ?_
    refine zw_if2 hm_142 dX11_isSlot_7 (t := 14) rfl zc2_ge ?_ ?_
    · intro hc
      rw [if_pos hc] at h
      refine zw_push hm_142 dX11_isSlot_14 (v := .inl (0 : Int32)) rfl ?_
      refine zw_bret hm_142 dX11_isSlot_15 (by decide) ?_
      show ma_wp X d w 155 4 [(0, .inr (.inr (some 64))), (1, .inl i), (2, .inl rt)] [.inl (0 : Int32)] S _
      refine zw_if0 hm_155 dX11_strong_4 (t := 14) rfl zc0_eq (fun _ => ?_) (fun hc => absurd (by decide) hc)
      exact zw_thr hm_155 dX11_strong_14 dX11_strong_17 dX11_strong_18 dX11_strong_21 x_11_79_81 n_11_79 (by omega) (by show 0 + 81 ≤ w; omega) h
    · intro hc
      rw [if_neg hc] at h
      refine zw_push hm_142 dX11_isSlot_10 (v := .inl (1 : Int32)) rfl ?_
      refine zw_goto hm_142 dX11_isSlot_11 (t := 15) rfl ?_
      refine zw_bret hm_142 dX11_isSlot_15 (by decide) ?_
      show ma_wp X d w 155 4 [(0, .inr (.inr (some 64))), (1, .inl i), (2, .inl rt)] [.inl (1 : Int32)] S _
      refine zw_if0 hm_155 dX11_strong_4 (t := 14) rfl zc0_eq (fun hc => absurd hc (by decide)) (fun _ => ?_)
      refine zw_push hm_155 dX11_strong_7 (v := .inl rt) rfl ?_
      refine zw_cs hm_155 dX11_strong_8 pn_11_109 sl_11_109 hm_142 [.inl rt] [] rfl ⟨by omega, by omega⟩ rfl ?_
      show ma_wp X (d - 1) (w - 20) 142 0 [(0, .inl rt)] [] S _
      refine zw_push hm_142 dX11_isSlot_0 (v := .inl rt) rfl ?_
      refine zw_if0 hm_142 dX11_isSlot_1 (t := 14) rfl zc0_lt ?_ ?_
      · intro hc
        rw [if_pos hc] at h
        refine zw_push hm_142 dX11_isSlot_14 (v := .inl (0 : Int32)) rfl ?_
        refine zw_bret hm_142 dX11_isSlot_15 (by decide) ?_
        show ma_wp X d w 155 11 [(0, .inr (.inr (some 64))), (1, .inl i), (2, .inl rt)] [.inl (0 : Int32)] S _
        refine zw_if0 hm_155 dX11_strong_11 (t := 22) rfl zc0_ne (fun hc => absurd hc (by decide)) (fun _ => ?_)
        exact zw_thr hm_155 dX11_strong_14 dX11_strong_17 dX11_strong_18 dX11_strong_21 x_11_79_81 n_11_79 (by omega) (by show 0 + 81 ≤ w; omega) h
      · intro hc
        rw [if_neg hc] at h
        refine zw_push hm_142 dX11_isSlot_4 (v := .inl rt) rfl ?_
        refine zw_push hm_142 dX11_isSlot_5 (v := .inl (16 : Int32)) rfl ?_
        refine zw_if2 hm_142 dX11_isSlot_7 (t := 14) rfl zc2_ge ?_ ?_
        · intro hc
          rw [if_pos hc] at h
          refine zw_push hm_142 dX11_isSlot_14 (v := .inl (0 : Int32)) rfl ?_
          refine zw_bret hm_142 dX11_isSlot_15 (by decide) ?_
          show ma_wp X d w 155 11 [(0, .inr (.inr (some 64))), (1, .inl i), (2, .inl rt)] [.inl (0 : Int32)] S _
          refine zw_if0 hm_155 dX11_strong_11 (t := 22) rfl zc0_ne (fun hc => absurd hc (by decide)) (fun _ => ?_)
          exact zw_thr hm_155 dX11_strong_14 dX11_strong_17 dX11_strong_18 dX11_strong_21 x_11_79_81 n_11_79 (by omega) (by show 0 + 81 ≤ w; omega) h
        · intro hc
          rw [if_neg hc] at h
          refine zw_push hm_142 dX11_isSlot_10 (v := .inl (1 : Int32)) rfl ?_
          refine zw_goto hm_142 dX11_isSlot_11 (t := 15) rfl ?_
          refine zw_bret hm_142 dX11_isSlot_15 (by decide) ?_
          show ma_wp X d w 155 11 [(0, .inr (.inr (some 64))), (1, .inl i), (2, .inl rt)] [.inl (1 : Int32)] S _
          refine zw_if0 hm_155 dX11_strong_11 (t := 22) rfl zc0_ne (fun _ => ?_) (fun hc => absurd (by decide) hc)
          refine zw_push hm_155 dX11_strong_22 (v := .inr (.inr (some 64))) rfl ?_
          refine zw_cv hm_155 dX11_strong_23 v_11_119_11 hm_144 [] [] rfl (zT_rt hS s_64 rfl) ⟨by omega, by omega⟩ rfl ?_
          show ma_wp X (d - 1) (w - 20) 144 0 [(0, .inr (.inr (some 64)))] [] S _
          refine zw_push hm_144 dX11_needCollector_0 (v := .inr (.inr (some 64))) rfl ?_
          obtain ⟨hg, h⟩ := h
          refine zw_gf hm_144 dX11_needCollector_1 (v := .inr (.inr none)) (zT_is hS s_64) (zT_t hS s_64) rfl f_11_98_11 (congrArg (fun z => Sum.inr (Sum.inr z)) hg) ?_
          refine zw_ifnonnull hm_144 dX11_needCollector_4 (t := 15) rfl (fun _ => ?_) (fun _ z => by cases z)
          exact zw_thr hm_144 dX11_needCollector_7 dX11_needCollector_10 dX11_needCollector_11 dX11_needCollector_14 x_11_85_87 n_11_85 (by omega) (by show 0 + 81 ≤ (w - 20); omega) ⟨by decide, h⟩
theorem sp_155_64_sx_p0 {X : Nat × (Nat → Int32)} {d w : Nat} {f : Nat → Nat → Int32} {r : Nat → Nat → Option Nat} {C Z N : Nat} {Q : Option ma_V ⊕ Nat → ma_S → Prop} {S : ma_S} (i : Int32) (rt : Int32) (hd : 7 ≤ d) (hw : 134 ≤ w) (hI : zB f r C Z N S) (hr : r 64 11 = none)  (K : ∀ v S₉, zB f r C Z N S₉ → ((0 : Int) = 1) → Q (.inl (some (.inl v))) S₉) (KX : ∀ x S₉, (x = 2 ∨ x = 3) → zB f r C Z N S₉ → ((x = 2 ∧ ¬ ((0 ≤ i.toInt ∧ i.toInt ≤ 15) ∧ (0 ≤ rt.toInt ∧ rt.toInt ≤ 15))) ∨ (x = 3 ∧ ((0 ≤ i.toInt ∧ i.toInt ≤ 15) ∧ (0 ≤ rt.toInt ∧ rt.toInt ≤ 15)))) → Q (.inr x) (ma_bump S₉)) : ma_wp X d w 155 0 [(0, .inr (.inr (some 64))), (1, .inl i), (2, .inl rt)] [] S Q := by
  refine g_155_64_sx_p0_0 i rt (by omega) (by omega) (zG_T hI) ?_
  have b1 := i_bd i
  have li2 : (0 : Int32).toInt = 0 := rfl
  refine zd (fun h3 => ?_) (fun h3 => ?_)
  · skip
    have g4 := i_lt h3
    exact KX 2 _ (by decide) hI (show (2 = 2 ∧ ¬ ((0 ≤ i.toInt ∧ i.toInt ≤ 15) ∧ (0 ≤ rt.toInt ∧ rt.toInt ≤ 15))) ∨ (2 = 3 ∧ ((0 ≤ i.toInt ∧ i.toInt ≤ 15) ∧ (0 ≤ rt.toInt ∧ rt.toInt ≤ 15))) from by omega)
  · skip
    have g5 := i_nlt h3
    have li6 : (16 : Int32).toInt = 16 := rfl
    refine zd (fun h7 => ?_) (fun h7 => ?_)
    · skip
      have g8 := i_le h7
      exact KX 2 _ (by decide) hI (show (2 = 2 ∧ ¬ ((0 ≤ i.toInt ∧ i.toInt ≤ 15) ∧ (0 ≤ rt.toInt ∧ rt.toInt ≤ 15))) ∨ (2 = 3 ∧ ((0 ≤ i.toInt ∧ i.toInt ≤ 15) ∧ (0 ≤ rt.toInt ∧ rt.toInt ≤ 15))) from by omega)
    · skip
      have g9 := i_nle h7
      have b10 := i_bd rt
      refine zd (fun h11 => ?_) (fun h11 => ?_)
      · skip
        have g12 := i_lt h11
        exact KX 2 _ (by decide) hI (show (2 = 2 ∧ ¬ ((0 ≤ i.toInt ∧ i.toInt ≤ 15) ∧ (0 ≤ rt.toInt ∧ rt.toInt ≤ 15))) ∨ (2 = 3 ∧ ((0 ≤ i.toInt ∧ i.toInt ≤ 15) ∧ (0 ≤ rt.toInt ∧ rt.toInt ≤ 15))) from by omega)
      · skip
        have g13 := i_nlt h11
        refine zd (fun h14 => ?_) (fun h14 => ?_)
        · skip
          have g15 := i_le h14
          exact KX 2 _ (by decide) hI (show (2 = 2 ∧ ¬ ((0 ≤ i.toInt ∧ i.toInt ≤ 15) ∧ (0 ≤ rt.toInt ∧ rt.toInt ≤ 15))) ∨ (2 = 3 ∧ ((0 ≤ i.toInt ∧ i.toInt ≤ 15) ∧ (0 ≤ rt.toInt ∧ rt.toInt ≤ 15))) from by omega)
        · skip
          have g16 := i_nle h14
          refine ⟨((zG_r hI (by decide)).trans hr), ?_⟩
          exact KX 3 _ (by decide) hI (show (3 = 2 ∧ ¬ ((0 ≤ i.toInt ∧ i.toInt ≤ 15) ∧ (0 ≤ rt.toInt ∧ rt.toInt ≤ 15))) ∨ (3 = 3 ∧ ((0 ≤ i.toInt ∧ i.toInt ≤ 15) ∧ (0 ≤ rt.toInt ∧ rt.toInt ≤ 15))) from by omega)
theorem g_158_64_sx_p0_0 {X : Nat × (Nat → Int32)} {d w : Nat} {S : ma_S} {Q : Option ma_V ⊕ Nat → ma_S → Prop} (rt : Int32) (hd : 7 ≤ d) (hw : 134 ≤ w) (hS : zT S) (h : if rt < 0 then (Q (.inr 2) (ma_bump S)) else (if (16 : Int32) ≤ rt then (Q (.inr 2) (ma_bump S)) else (mR S 64 11 = none ∧ (Q (.inr 3) (ma_bump S))))) : ma_wp X d w 158 0 [(0, .inr (.inr (some 64))), (1, .inl rt)] [] S Q := by
  refine zw_push hm_158 dX11_granted_0 (v := .inl rt) rfl ?_
  refine zw_cs hm_158 dX11_granted_1 pn_11_109 sl_11_109 hm_142 [.inl rt] [] rfl ⟨by omega, by omega⟩ rfl ?_
  show ma_wp X (d - 1) (w - 20) 142 0 [(0, .inl rt)] [] S _
  refine zw_push hm_142 dX11_isSlot_0 (v := .inl rt) rfl ?_
  refine zw_if0 hm_142 dX11_isSlot_1 (t := 14) rfl zc0_lt ?_ ?_
  · intro hc
    rw [if_pos hc] at h
    refine zw_push hm_142 dX11_isSlot_14 (v := .inl (0 : Int32)) rfl ?_
    refine zw_bret hm_142 dX11_isSlot_15 (by decide) ?_
    show ma_wp X d w 158 4 [(0, .inr (.inr (some 64))), (1, .inl rt)] [.inl (0 : Int32)] S _
    refine zw_if0 hm_158 dX11_granted_4 (t := 15) rfl zc0_ne (fun hc => absurd hc (by decide)) (fun _ => ?_)
    exact zw_thr hm_158 dX11_granted_7 dX11_granted_10 dX11_granted_11 dX11_granted_14 x_11_79_81 n_11_79 (by omega) (by show 0 + 81 ≤ w; omega) h
  · intro hc
    rw [if_neg hc] at h
    refine zw_push hm_142 dX11_isSlot_4 (v := .inl rt) rfl ?_
    refine zw_push hm_142 dX11_isSlot_5 (v := .inl (16 : Int32)) rfl ?_
    refine zw_if2 hm_142 dX11_isSlot_7 (t := 14) rfl zc2_ge ?_ ?_
    · intro hc
      rw [if_pos hc] at h
      refine zw_push hm_142 dX11_isSlot_14 (v := .inl (0 : Int32)) rfl ?_
      refine zw_bret hm_142 dX11_isSlot_15 (by decide) ?_
      show ma_wp X d w 158 4 [(0, .inr (.inr (some 64))), (1, .inl rt)] [.inl (0 : Int32)] S _
      refine zw_if0 hm_158 dX11_granted_4 (t := 15) rfl zc0_ne (fun hc => absurd hc (by decide)) (fun _ => ?_)
      exact zw_thr hm_158 dX11_granted_7 dX11_granted_10 dX11_granted_11 dX11_granted_14 x_11_79_81 n_11_79 (by omega) (by show 0 + 81 ≤ w; omega) h
    · intro hc
      rw [if_neg hc] at h
      refine zw_push hm_142 dX11_isSlot_10 (v := .inl (1 : Int32)) rfl ?_
      refine zw_goto hm_142 dX11_isSlot_11 (t := 15) rfl ?_
      refine zw_bret hm_142 dX11_isSlot_15 (by decide) ?_
      show ma_wp X d w 158 4 [(0, .inr (.inr (some 64))), (1, .inl rt)] [.inl (1 : Int32)] S _
      refine zw_if0 hm_158 dX11_granted_4 (t := 15) rfl zc0_ne (fun _ => ?_) (fun hc => absurd (by decide) hc)
      refine zw_push hm_158 dX11_granted_15 (v := .inr (.inr (some 64))) rfl ?_
      refine zw_cv hm_158 dX11_granted_16 v_11_119_11 hm_144 [] [] rfl (zT_rt hS s_64 rfl) ⟨by omega, by omega⟩ rfl ?_
      show ma_wp X (d - 1) (w - 20) 144 0 [(0, .inr (.inr (some 64)))] [] S _
      refine zw_push hm_144 dX11_needCollector_0 (v := .inr (.inr (some 64))) rfl ?_
      obtain ⟨hg, h⟩ := h
      refine zw_gf hm_144 dX11_needCollector_1 (v := .inr (.inr none)) (zT_is hS s_64) (zT_t hS s_64) rfl f_11_98_11 (congrArg (fun z => Sum.inr (Sum.inr z)) hg) ?_
      refine zw_ifnonnull hm_144 dX11_needCollector_4 (t := 15) rfl (fun _ => ?_) (fun _ z => by cases z)
      exact zw_thr hm_144 dX11_needCollector_7 dX11_needCollector_10 dX11_needCollector_11 dX11_needCollector_14 x_11_85_87 n_11_85 (by omega) (by show 0 + 81 ≤ (w - 20); omega) ⟨by decide, h⟩
theorem sp_158_64_sx_p0 {X : Nat × (Nat → Int32)} {d w : Nat} {f : Nat → Nat → Int32} {r : Nat → Nat → Option Nat} {C Z N : Nat} {Q : Option ma_V ⊕ Nat → ma_S → Prop} {S : ma_S} (rt : Int32) (hd : 7 ≤ d) (hw : 134 ≤ w) (hI : zB f r C Z N S) (hr : r 64 11 = none)  (K : ∀ v S₉, zB f r C Z N S₉ → ((0 : Int) = 1) → Q (.inl (some (.inl v))) S₉) (KX : ∀ x S₉, (x = 2 ∨ x = 3) → zB f r C Z N S₉ → ((x = 2 ∧ ¬ (0 ≤ rt.toInt ∧ rt.toInt ≤ 15)) ∨ (x = 3 ∧ (0 ≤ rt.toInt ∧ rt.toInt ≤ 15))) → Q (.inr x) (ma_bump S₉)) : ma_wp X d w 158 0 [(0, .inr (.inr (some 64))), (1, .inl rt)] [] S Q := by
  refine g_158_64_sx_p0_0 rt (by omega) (by omega) (zG_T hI) ?_
  have b1 := i_bd rt
  have li2 : (0 : Int32).toInt = 0 := rfl
  refine zd (fun h3 => ?_) (fun h3 => ?_)
  · skip
    have g4 := i_lt h3
    exact KX 2 _ (by decide) hI (show (2 = 2 ∧ ¬ (0 ≤ rt.toInt ∧ rt.toInt ≤ 15)) ∨ (2 = 3 ∧ (0 ≤ rt.toInt ∧ rt.toInt ≤ 15)) from by omega)
  · skip
    have g5 := i_nlt h3
    have li6 : (16 : Int32).toInt = 16 := rfl
    refine zd (fun h7 => ?_) (fun h7 => ?_)
    · skip
      have g8 := i_le h7
      exact KX 2 _ (by decide) hI (show (2 = 2 ∧ ¬ (0 ≤ rt.toInt ∧ rt.toInt ≤ 15)) ∨ (2 = 3 ∧ (0 ≤ rt.toInt ∧ rt.toInt ≤ 15)) from by omega)
    · skip
      have g9 := i_nle h7
      refine ⟨((zG_r hI (by decide)).trans hr), ?_⟩
      exact KX 3 _ (by decide) hI (show (3 = 2 ∧ ¬ (0 ≤ rt.toInt ∧ rt.toInt ≤ 15)) ∨ (3 = 3 ∧ (0 ≤ rt.toInt ∧ rt.toInt ≤ 15)) from by omega)
theorem g_143_64_sx_p0_0 {X : Nat × (Nat → Int32)} {d w : Nat} {S : ma_S} {Q : Option ma_V ⊕ Nat → ma_S → Prop} (kd : Int32) (wd : Int32) (rf : Int64) (rt : Int32) (hd : 7 ≤ d) (hw : 182 ≤ w) (hS : zT S) (h : mR S 64 11 = none ∧ (Q (.inr 3) (ma_bump S))) : ma_wp X d w 143 0 [(0, .inr (.inr (some 64))), (1, .inl kd), (2, .inl wd), (3, .inr (.inl rf)), (5, .inl rt)] [] S Q := by
  refine zw_push hm_143 dX11_addObject_0 (v := .inr (.inr (some 64))) rfl ?_
  refine zw_cv hm_143 dX11_addObject_1 v_11_119_11 hm_144 [] [] rfl (zT_rt hS s_64 rfl) ⟨by omega, by omega⟩ rfl ?_
  show ma_wp X (d - 1) (w - 20) 144 0 [(0, .inr (.inr (some 64)))] [] S _
  refine zw_push hm_144 dX11_needCollector_0 (v := .inr (.inr (some 64))) rfl ?_
  obtain ⟨hg, h⟩ := h
  refine zw_gf hm_144 dX11_needCollector_1 (v := .inr (.inr none)) (zT_is hS s_64) (zT_t hS s_64) rfl f_11_98_11 (congrArg (fun z => Sum.inr (Sum.inr z)) hg) ?_
  refine zw_ifnonnull hm_144 dX11_needCollector_4 (t := 15) rfl (fun _ => ?_) (fun _ z => by cases z)
  exact zw_thr hm_144 dX11_needCollector_7 dX11_needCollector_10 dX11_needCollector_11 dX11_needCollector_14 x_11_85_87 n_11_85 (by omega) (by show 0 + 81 ≤ (w - 20); omega) ⟨by decide, h⟩
theorem sp_143_64_sx_p0 {X : Nat × (Nat → Int32)} {d w : Nat} {f : Nat → Nat → Int32} {r : Nat → Nat → Option Nat} {C Z N : Nat} {Q : Option ma_V ⊕ Nat → ma_S → Prop} {S : ma_S} (kd : Int32) (wd : Int32) (rf : Int64) (rt : Int32) (hd : 7 ≤ d) (hw : 182 ≤ w) (hI : zB f r C Z N S) (hr : r 64 11 = none) (hpre0 : 0 ≤ wd.toInt) (hpre1 : wd.toInt ≤ 60) (hpre2 : 0 ≤ rt.toInt) (hpre3 : rt.toInt ≤ 15) (K : ∀ v S₉, zB f r C Z N S₉ → ((0 : Int) = 1) → Q (.inl (some (.inl v))) S₉) (KX : ∀ x S₉, (x = 3) → zB f r C Z N S₉ → Q (.inr x) (ma_bump S₉)) : ma_wp X d w 143 0 [(0, .inr (.inr (some 64))), (1, .inl kd), (2, .inl wd), (3, .inr (.inl rf)), (5, .inl rt)] [] S Q := by
  refine g_143_64_sx_p0_0 kd wd rf rt (by omega) (by omega) (zG_T hI) ?_
  refine ⟨((zG_r hI (by decide)).trans hr), ?_⟩
  exact KX 3 _ (by decide) hI
theorem g_141_64_sx_p0_0 {X : Nat × (Nat → Int32)} {d w : Nat} {S : ma_S} {Q : Option ma_V ⊕ Nat → ma_S → Prop} (ki : Int32) (rt : Int32) (hd : 8 ≤ d) (hw : 232 ≤ w) (hS : zT S) (h : if ki < 0 then (Q (.inr 2) (ma_bump S)) else (if (mI S 64 7) ≤ ki then (Q (.inr 2) (ma_bump S)) else (if rt < 0 then (Q (.inr 2) (ma_bump S)) else (if (16 : Int32) ≤ rt then (Q (.inr 2) (ma_bump S)) else ((0 ≤ ki ∧ ki.toNatClampNeg < 16) ∧ ((0 ≤ ki ∧ ki.toNatClampNeg < 16) ∧ (ma_wp X (d - 1) (w - 28) 143 0 [(0, .inr (.inr (some 64))), (1, .inl ki), (2, .inl (mI S 67 ki.toNatClampNeg)), (3, .inr (.inl ((mI S 68 ki.toNatClampNeg).toInt64))), (5, .inl rt)] [] S (zi (fun v2 S1 => zT S1 ∧ (Q (.inl (some (.inl v2))) S1)) (fun x S9 => Q (.inr x) S9))))))))) : ma_wp X d w 141 0 [(0, .inr (.inr (some 64))), (1, .inl ki), (2, .inl rt)] [] S Q := by
  refine zw_push hm_141 dX11_make_0 (v := .inl ki) rfl ?_
  refine zw_if0 hm_141 dX11_make_1 (t := 19) rfl zc0_lt ?_ ?_
  · intro hc
    rw [if_pos hc] at h
    exact zw_thr hm_141 dX11_make_19 dX11_make_22 dX11_make_23 dX11_make_26 x_11_79_81 n_11_79 (by omega) (by show 0 + 81 ≤ w; omega) h
  · intro hc
    rw [if_neg hc] at h
    refine zw_push hm_141 dX11_make_4 (v := .inl ki) rfl ?_
    refine zw_push hm_141 dX11_make_5 (v := .inr (.inr (some 64))) rfl ?_
    refine zw_gf hm_141 dX11_make_6 (v := .inl (mI S 64 7)) (zT_is hS s_64) (zT_t hS s_64) rfl f_11_82_11 rfl ?_
    refine zw_if2 hm_141 dX11_make_9 (t := 19) rfl zc2_ge ?_ ?_
    · intro hc
      rw [if_pos hc] at h
      exact zw_thr hm_141 dX11_make_19 dX11_make_22 dX11_make_23 dX11_make_26 x_11_79_81 n_11_79 (by omega) (by show 0 + 81 ≤ w; omega) h
    · intro hc
      rw [if_neg hc] at h
      refine zw_push hm_141 dX11_make_12 (v := .inl rt) rfl ?_
      refine zw_cs hm_141 dX11_make_13 pn_11_109 sl_11_109 hm_142 [.inl rt] [] rfl ⟨by omega, by omega⟩ rfl ?_
      show ma_wp X (d - 1) (w - 20) 142 0 [(0, .inl rt)] [] S _
      refine zw_push hm_142 dX11_isSlot_0 (v := .inl rt) rfl ?_
      refine zw_if0 hm_142 dX11_isSlot_1 (t := 14) rfl zc0_lt ?_ ?_
      · intro hc
        rw [if_pos hc] at h
        refine zw_push hm_142 dX11_isSlot_14 (v := .inl (0 : Int32)) rfl ?_
        refine zw_bret hm_142 dX11_isSlot_15 (by decide) ?_
        show ma_wp X d w 141 16 [(0, .inr (.inr (some 64))), (1, .inl ki), (2, .inl rt)] [.inl (0 : Int32)] S _
        refine zw_if0 hm_141 dX11_make_16 (t := 27) rfl zc0_ne (fun hc => absurd hc (by decide)) (fun _ => ?_)
        exact zw_thr hm_141 dX11_make_19 dX11_make_22 dX11_make_23 dX11_make_26 x_11_79_81 n_11_79 (by omega) (by show 0 + 81 ≤ w; omega) h
      · intro hc
        rw [if_neg hc] at h
        refine zw_push hm_142 dX11_isSlot_4 (v := .inl rt) rfl ?_
        refine zw_push hm_142 dX11_isSlot_5 (v := .inl (16 : Int32)) rfl ?_
        refine zw_if2 hm_142 dX11_isSlot_7 (t := 14) rfl zc2_ge ?_ ?_
        · intro hc
          rw [if_pos hc] at h
          refine zw_push hm_142 dX11_isSlot_14 (v := .inl (0 : Int32)) rfl ?_
          refine zw_bret hm_142 dX11_isSlot_15 (by decide) ?_
          show ma_wp X d w 141 16 [(0, .inr (.inr (some 64))), (1, .inl ki), (2, .inl rt)] [.inl (0 : Int32)] S _
          refine zw_if0 hm_141 dX11_make_16 (t := 27) rfl zc0_ne (fun hc => absurd hc (by decide)) (fun _ => ?_)
          exact zw_thr hm_141 dX11_make_19 dX11_make_22 dX11_make_23 dX11_make_26 x_11_79_81 n_11_79 (by omega) (by show 0 + 81 ≤ w; omega) h
        · intro hc
          rw [if_neg hc] at h
          refine zw_push hm_142 dX11_isSlot_10 (v := .inl (1 : Int32)) rfl ?_
          refine zw_goto hm_142 dX11_isSlot_11 (t := 15) rfl ?_
          refine zw_bret hm_142 dX11_isSlot_15 (by decide) ?_
          show ma_wp X d w 141 16 [(0, .inr (.inr (some 64))), (1, .inl ki), (2, .inl rt)] [.inl (1 : Int32)] S _
          refine zw_if0 hm_141 dX11_make_16 (t := 27) rfl zc0_ne (fun _ => ?_) (fun hc => absurd (by decide) hc)
          refine zw_push hm_141 dX11_make_27 (v := .inr (.inr (some 64))) rfl ?_
          refine zw_push hm_141 dX11_make_28 (v := .inl ki) rfl ?_
          refine zw_push hm_141 dX11_make_29 (v := .inr (.inr (some 64))) rfl ?_
          refine zw_gf hm_141 dX11_make_30 (v := .inr (.inr (some 67))) (zT_is hS s_64) (zT_t hS s_64) rfl f_11_17_11 (zT_f hS r_64_5) ?_
          refine zw_push hm_141 dX11_make_33 (v := .inl ki) rfl ?_
          obtain ⟨hg, h⟩ := h
          refine zw_ia hm_141 dX11_make_34 (zT_is hS s_67) (zT_h hS s_67) rfl hg ?_
          show ma_wp X d w 141 35 [(0, .inr (.inr (some 64))), (1, .inl ki), (2, .inl rt)] [.inl (mI S 67 ki.toNatClampNeg), .inl ki, .inr (.inr (some 64))] S _
          refine zw_push hm_141 dX11_make_35 (v := .inr (.inr (some 64))) rfl ?_
          refine zw_gf hm_141 dX11_make_36 (v := .inr (.inr (some 68))) (zT_is hS s_64) (zT_t hS s_64) rfl f_11_20_11 (zT_f hS r_64_6) ?_
          refine zw_push hm_141 dX11_make_39 (v := .inl ki) rfl ?_
          obtain ⟨hg, h⟩ := h
          refine zw_ia hm_141 dX11_make_40 (zT_is hS s_68) (zT_h hS s_68) rfl hg ?_
          show ma_wp X d w 141 41 [(0, .inr (.inr (some 64))), (1, .inl ki), (2, .inl rt)] [.inl (mI S 68 ki.toNatClampNeg), .inl (mI S 67 ki.toNatClampNeg), .inl ki, .inr (.inr (some 64))] S _
          refine zw_stk hm_141 dX11_make_41 (st₉ := [.inr (.inl ((mI S 68 ki.toNatClampNeg).toInt64)), .inl (mI S 67 ki.toNatClampNeg), .inl ki, .inr (.inr (some 64))]) rfl rfl ?_
          refine zw_push hm_141 dX11_make_42 (v := .inl rt) rfl ?_
          refine zw_cv hm_141 dX11_make_43 v_11_113_11 hm_143 [.inl rt, .inr (.inl ((mI S 68 ki.toNatClampNeg).toInt64)), .inl (mI S 67 ki.toNatClampNeg), .inl ki] [] rfl (zT_rt hS s_64 rfl) ⟨by omega, by omega⟩ rfl (zw_mono h (zi_go ?_ ?_))
          · intro v2 S1 hv
            obtain ⟨hS1, h⟩ := hv
            exact zw_iret hm_141 dX11_make_46 h
          · intro x S9 hx
            exact ⟨by decide, hx⟩
theorem sp_141_64_sx_p0 {X : Nat × (Nat → Int32)} {d w : Nat} {f : Nat → Nat → Int32} {r : Nat → Nat → Option Nat} {C Z N : Nat} {Q : Option ma_V ⊕ Nat → ma_S → Prop} {S : ma_S} (ki : Int32) (rt : Int32) (hd : 8 ≤ d) (hw : 232 ≤ w) (hI : zB f r C Z N S) (hr : r 64 11 = none)  (K : ∀ v S₉, zB f r C Z N S₉ → ((0 : Int) = 1) → Q (.inl (some (.inl v))) S₉) (KX : ∀ x S₉, (x = 2 ∨ x = 3) → zB f r C Z N S₉ → ((x = 2 ∧ ¬ (0 ≤ ki.toInt ∧ ki.toInt < (f 64 7).toInt ∧ 0 ≤ rt.toInt ∧ rt.toInt ≤ 15)) ∨ (x = 3 ∧ (0 ≤ ki.toInt ∧ ki.toInt < (f 64 7).toInt ∧ 0 ≤ rt.toInt ∧ rt.toInt ≤ 15))) → Q (.inr x) (ma_bump S₉)) : ma_wp X d w 141 0 [(0, .inr (.inr (some 64))), (1, .inl ki), (2, .inl rt)] [] S Q := by
  refine g_141_64_sx_p0_0 ki rt (by omega) (by omega) (zG_T hI) ?_
  have e7 : (mI S 64 7).toInt = (f 64 7).toInt := by rw [(zG_z hI rfl : mI S 64 7 = f 64 7)]
  have b1 := i_bd ki
  have li2 : (0 : Int32).toInt = 0 := rfl
  refine zd (fun h3 => ?_) (fun h3 => ?_)
  · skip
    have g4 := i_lt h3
    exact KX 2 _ (by decide) hI (show (2 = 2 ∧ ¬ (0 ≤ ki.toInt ∧ ki.toInt < (f 64 7).toInt ∧ 0 ≤ rt.toInt ∧ rt.toInt ≤ 15)) ∨ (2 = 3 ∧ (0 ≤ ki.toInt ∧ ki.toInt < (f 64 7).toInt ∧ 0 ≤ rt.toInt ∧ rt.toInt ≤ 15)) from by omega)
  · skip
    have g5 := i_nlt h3
    have f6 := zG_s hI (0) (16) (c := 64) (k := 7) (by decide)
    refine zd (fun h7 => ?_) (fun h7 => ?_)
    · skip
      have g8 := i_le h7
      exact KX 2 _ (by decide) hI (show (2 = 2 ∧ ¬ (0 ≤ ki.toInt ∧ ki.toInt < (f 64 7).toInt ∧ 0 ≤ rt.toInt ∧ rt.toInt ≤ 15)) ∨ (2 = 3 ∧ (0 ≤ ki.toInt ∧ ki.toInt < (f 64 7).toInt ∧ 0 ≤ rt.toInt ∧ rt.toInt ≤ 15)) from by omega)
    · skip
      have g9 := i_nle h7
      have b10 := i_bd rt
      refine zd (fun h11 => ?_) (fun h11 => ?_)
      · skip
        have g12 := i_lt h11
        exact KX 2 _ (by decide) hI (show (2 = 2 ∧ ¬ (0 ≤ ki.toInt ∧ ki.toInt < (f 64 7).toInt ∧ 0 ≤ rt.toInt ∧ rt.toInt ≤ 15)) ∨ (2 = 3 ∧ (0 ≤ ki.toInt ∧ ki.toInt < (f 64 7).toInt ∧ 0 ≤ rt.toInt ∧ rt.toInt ≤ 15)) from by omega)
      · skip
        have g13 := i_nlt h11
        have li14 : (16 : Int32).toInt = 16 := rfl
        refine zd (fun h15 => ?_) (fun h15 => ?_)
        · skip
          have g16 := i_le h15
          exact KX 2 _ (by decide) hI (show (2 = 2 ∧ ¬ (0 ≤ ki.toInt ∧ ki.toInt < (f 64 7).toInt ∧ 0 ≤ rt.toInt ∧ rt.toInt ≤ 15)) ∨ (2 = 3 ∧ (0 ≤ ki.toInt ∧ ki.toInt < (f 64 7).toInt ∧ 0 ≤ rt.toInt ∧ rt.toInt ≤ 15)) from by omega)
        · skip
          have g17 := i_nle h15
          refine ⟨i_ix (by omega) (by omega), ?_⟩
          refine ⟨i_ix (by omega) (by omega), ?_⟩
          first | have f18 := zG_a hI 16 (0) (8) (c := 67) (k := ki.toNatClampNeg) (by decide) (i_ix (n := 16) (by omega) (by omega)).2 | have b19 := i_bd (mI S 67 ki.toNatClampNeg)
          refine sp_143_64_sx_p0 (ki) ((mI S 67 ki.toNatClampNeg)) (((mI S 68 ki.toNatClampNeg).toInt64)) (rt) (by omega) (by omega) hI hr (by omega) (by omega) (by omega) (by omega) (fun v2 S1 hI_S1 hp_v2 => zi_n ⟨zG_T hI_S1, ?_⟩) (fun x S9 hx h9 => zi_x (KX x S9 (by omega) h9 (by subst hx; omega)))
          have b20 := i_bd v2
          exact K (v2) _ hI_S1 (by omega)
theorem g_147_64_sx_p0_0 {X : Nat × (Nat → Int32)} {d w : Nat} {S : ma_S} {Q : Option ma_V ⊕ Nat → ma_S → Prop} (b : Int32) (n : Int32) (rt : Int32) (hd : 8 ≤ d) (hw : 232 ≤ w) (hS : zT S) (h : if n < 0 then (Q (.inr 2) (ma_bump S)) else (if (60 : Int32) < n then (Q (.inr 2) (ma_bump S)) else (if rt < 0 then (Q (.inr 2) (ma_bump S)) else (if (16 : Int32) ≤ rt then (Q (.inr 2) (ma_bump S)) else (if b = 0 then (ma_wp X (d - 1) (w - 28) 143 0 [(0, .inr (.inr (some 64))), (1, .inl (17 : Int32)), (2, .inl n), (3, .inr (.inl (0 : Int64))), (5, .inl rt)] [] S (zi (fun v2 S1 => zT S1 ∧ (Q (.inl (some (.inl v2))) S1)) (fun x S9 => Q (.inr x) S9))) else (ma_wp X (d - 1) (w - 28) 143 0 [(0, .inr (.inr (some 64))), (1, .inl (16 : Int32)), (2, .inl n), (3, .inr (.inl (-1 : Int64))), (5, .inl rt)] [] S (zi (fun v4 S3 => zT S3 ∧ (Q (.inl (some (.inl v4))) S3)) (fun x S9 => Q (.inr x) S9)))))))) : ma_wp X d w 147 0 [(0, .inr (.inr (some 64))), (1, .inl b), (2, .inl n), (3, .inl rt)] [] S Q := by
  refine zw_push hm_147 dX11_row_0 (v := .inl n) rfl ?_
  refine zw_if0 hm_147 dX11_row_1 (t := 17) rfl zc0_lt ?_ ?_
  · intro hc
    rw [if_pos hc] at h
    exact zw_thr hm_147 dX11_row_17 dX11_row_20 dX11_row_21 dX11_row_24 x_11_79_81 n_11_79 (by omega) (by show 0 + 81 ≤ w; omega) h
  · intro hc
    rw [if_neg hc] at h
    refine zw_push hm_147 dX11_row_4 (v := .inl n) rfl ?_
    refine zw_push hm_147 dX11_row_5 (v := .inl (60 : Int32)) rfl ?_
    refine zw_if2 hm_147 dX11_row_7 (t := 17) rfl zc2_gt ?_ ?_
    · intro hc
      rw [if_pos hc] at h
      exact zw_thr hm_147 dX11_row_17 dX11_row_20 dX11_row_21 dX11_row_24 x_11_79_81 n_11_79 (by omega) (by show 0 + 81 ≤ w; omega) h
    · intro hc
      rw [if_neg hc] at h
      refine zw_push hm_147 dX11_row_10 (v := .inl rt) rfl ?_
      refine zw_cs hm_147 dX11_row_11 pn_11_109 sl_11_109 hm_142 [.inl rt] [] rfl ⟨by omega, by omega⟩ rfl ?_
      show ma_wp X (d - 1) (w - 20) 142 0 [(0, .inl rt)] [] S _
      refine zw_push hm_142 dX11_isSlot_0 (v := .inl rt) rfl ?_
      refine zw_if0 hm_142 dX11_isSlot_1 (t := 14) rfl zc0_lt ?_ ?_
      · intro hc
        rw [if_pos hc] at h
        refine zw_push hm_142 dX11_isSlot_14 (v := .inl (0 : Int32)) rfl ?_
        refine zw_bret hm_142 dX11_isSlot_15 (by decide) ?_
        show ma_wp X d w 147 14 [(0, .inr (.inr (some 64))), (1, .inl b), (2, .inl n), (3, .inl rt)] [.inl (0 : Int32)] S _
        refine zw_if0 hm_147 dX11_row_14 (t := 25) rfl zc0_ne (fun hc => absurd hc (by decide)) (fun _ => ?_)
        exact zw_thr hm_147 dX11_row_17 dX11_row_20 dX11_row_21 dX11_row_24 x_11_79_81 n_11_79 (by omega) (by show 0 + 81 ≤ w; omega) h
      · intro hc
        rw [if_neg hc] at h
        refine zw_push hm_142 dX11_isSlot_4 (v := .inl rt) rfl ?_
        refine zw_push hm_142 dX11_isSlot_5 (v := .inl (16 : Int32)) rfl ?_
        refine zw_if2 hm_142 dX11_isSlot_7 (t := 14) rfl zc2_ge ?_ ?_
        · intro hc
          rw [if_pos hc] at h
          refine zw_push hm_142 dX11_isSlot_14 (v := .inl (0 : Int32)) rfl ?_
          refine zw_bret hm_142 dX11_isSlot_15 (by decide) ?_
          show ma_wp X d w 147 14 [(0, .inr (.inr (some 64))), (1, .inl b), (2, .inl n), (3, .inl rt)] [.inl (0 : Int32)] S _
          refine zw_if0 hm_147 dX11_row_14 (t := 25) rfl zc0_ne (fun hc => absurd hc (by decide)) (fun _ => ?_)
          exact zw_thr hm_147 dX11_row_17 dX11_row_20 dX11_row_21 dX11_row_24 x_11_79_81 n_11_79 (by omega) (by show 0 + 81 ≤ w; omega) h
        · intro hc
          rw [if_neg hc] at h
          refine zw_push hm_142 dX11_isSlot_10 (v := .inl (1 : Int32)) rfl ?_
          refine zw_goto hm_142 dX11_isSlot_11 (t := 15) rfl ?_
          refine zw_bret hm_142 dX11_isSlot_15 (by decide) ?_
          show ma_wp X d w 147 14 [(0, .inr (.inr (some 64))), (1, .inl b), (2, .inl n), (3, .inl rt)] [.inl (1 : Int32)] S _
          refine zw_if0 hm_147 dX11_row_14 (t := 25) rfl zc0_ne (fun _ => ?_) (fun hc => absurd (by decide) hc)
          refine zw_push hm_147 dX11_row_25 (v := .inl b) rfl ?_
          refine zw_if0 hm_147 dX11_row_26 (t := 43) rfl zc0_eq ?_ ?_
          · intro hc
            rw [if_pos hc] at h
            refine zw_push hm_147 dX11_row_43 (v := .inr (.inr (some 64))) rfl ?_
            refine zw_push hm_147 dX11_row_44 (v := .inl (17 : Int32)) rfl ?_
            refine zw_push hm_147 dX11_row_46 (v := .inl n) rfl ?_
            refine zw_push hm_147 dX11_row_47 (v := .inr (.inl (0 : Int64))) rfl ?_
            refine zw_push hm_147 dX11_row_48 (v := .inl rt) rfl ?_
            refine zw_cv hm_147 dX11_row_49 v_11_113_11 hm_143 [.inl rt, .inr (.inl (0 : Int64)), .inl n, .inl (17 : Int32)] [] rfl (zT_rt hS s_64 rfl) ⟨by omega, by omega⟩ rfl (zw_mono h (zi_go ?_ ?_))
            · intro v2 S1 hv
              obtain ⟨hS1, h⟩ := hv
              exact zw_iret hm_147 dX11_row_52 h
            · intro x S9 hx
              exact ⟨by decide, hx⟩
          · intro hc
            rw [if_neg hc] at h
            refine zw_push hm_147 dX11_row_29 (v := .inr (.inr (some 64))) rfl ?_
            refine zw_push hm_147 dX11_row_30 (v := .inl (16 : Int32)) rfl ?_
            refine zw_push hm_147 dX11_row_32 (v := .inl n) rfl ?_
            refine zw_l2 hm_147 dX11_row_33 l2_11_117 ?_
            refine zw_push hm_147 dX11_row_36 (v := .inl rt) rfl ?_
            refine zw_cv hm_147 dX11_row_37 v_11_113_11 hm_143 [.inl rt, .inr (.inl (-1 : Int64)), .inl n, .inl (16 : Int32)] [] rfl (zT_rt hS s_64 rfl) ⟨by omega, by omega⟩ rfl (zw_mono h (zi_go ?_ ?_))
            · intro v4 S3 hv
              obtain ⟨hS3, h⟩ := hv
              refine zw_goto hm_147 dX11_row_40 (t := 52) rfl ?_
              exact zw_iret hm_147 dX11_row_52 h
            · intro x S9 hx
              exact ⟨by decide, hx⟩
theorem sp_147_64_sx_p0 {X : Nat × (Nat → Int32)} {d w : Nat} {f : Nat → Nat → Int32} {r : Nat → Nat → Option Nat} {C Z N : Nat} {Q : Option ma_V ⊕ Nat → ma_S → Prop} {S : ma_S} (b : Int32) (n : Int32) (rt : Int32) (hd : 8 ≤ d) (hw : 232 ≤ w) (hI : zB f r C Z N S) (hr : r 64 11 = none) (hpre0 : 0 ≤ b.toInt) (hpre1 : b.toInt ≤ 1) (K : ∀ v S₉, zB f r C Z N S₉ → ((0 : Int) = 1) → Q (.inl (some (.inl v))) S₉) (KX : ∀ x S₉, (x = 2 ∨ x = 3) → zB f r C Z N S₉ → ((x = 2 ∧ ¬ (0 ≤ n.toInt ∧ n.toInt ≤ 60 ∧ 0 ≤ rt.toInt ∧ rt.toInt ≤ 15)) ∨ (x = 3 ∧ (0 ≤ n.toInt ∧ n.toInt ≤ 60 ∧ 0 ≤ rt.toInt ∧ rt.toInt ≤ 15))) → Q (.inr x) (ma_bump S₉)) : ma_wp X d w 147 0 [(0, .inr (.inr (some 64))), (1, .inl b), (2, .inl n), (3, .inl rt)] [] S Q := by
  refine g_147_64_sx_p0_0 b n rt (by omega) (by omega) (zG_T hI) ?_
  have b1 := i_bd n
  have li2 : (0 : Int32).toInt = 0 := rfl
  refine zd (fun h3 => ?_) (fun h3 => ?_)
  · skip
    have g4 := i_lt h3
    exact KX 2 _ (by decide) hI (show (2 = 2 ∧ ¬ (0 ≤ n.toInt ∧ n.toInt ≤ 60 ∧ 0 ≤ rt.toInt ∧ rt.toInt ≤ 15)) ∨ (2 = 3 ∧ (0 ≤ n.toInt ∧ n.toInt ≤ 60 ∧ 0 ≤ rt.toInt ∧ rt.toInt ≤ 15)) from by omega)
  · skip
    have g5 := i_nlt h3
    have li6 : (60 : Int32).toInt = 60 := rfl
    refine zd (fun h7 => ?_) (fun h7 => ?_)
    · skip
      have g8 := i_lt h7
      exact KX 2 _ (by decide) hI (show (2 = 2 ∧ ¬ (0 ≤ n.toInt ∧ n.toInt ≤ 60 ∧ 0 ≤ rt.toInt ∧ rt.toInt ≤ 15)) ∨ (2 = 3 ∧ (0 ≤ n.toInt ∧ n.toInt ≤ 60 ∧ 0 ≤ rt.toInt ∧ rt.toInt ≤ 15)) from by omega)
    · skip
      have g9 := i_nlt h7
      have b10 := i_bd rt
      refine zd (fun h11 => ?_) (fun h11 => ?_)
      · skip
        have g12 := i_lt h11
        exact KX 2 _ (by decide) hI (show (2 = 2 ∧ ¬ (0 ≤ n.toInt ∧ n.toInt ≤ 60 ∧ 0 ≤ rt.toInt ∧ rt.toInt ≤ 15)) ∨ (2 = 3 ∧ (0 ≤ n.toInt ∧ n.toInt ≤ 60 ∧ 0 ≤ rt.toInt ∧ rt.toInt ≤ 15)) from by omega)
      · skip
        have g13 := i_nlt h11
        have li14 : (16 : Int32).toInt = 16 := rfl
        refine zd (fun h15 => ?_) (fun h15 => ?_)
        · skip
          have g16 := i_le h15
          exact KX 2 _ (by decide) hI (show (2 = 2 ∧ ¬ (0 ≤ n.toInt ∧ n.toInt ≤ 60 ∧ 0 ≤ rt.toInt ∧ rt.toInt ≤ 15)) ∨ (2 = 3 ∧ (0 ≤ n.toInt ∧ n.toInt ≤ 60 ∧ 0 ≤ rt.toInt ∧ rt.toInt ≤ 15)) from by omega)
        · skip
          have g17 := i_nle h15
          have b18 := i_bd b
          refine zd (fun h19 => ?_) (fun h19 => ?_)
          · skip
            have g20 := i_eq h19
            have li21 : (17 : Int32).toInt = 17 := rfl
            refine sp_143_64_sx_p0 ((17 : Int32)) (n) ((0 : Int64)) (rt) (by omega) (by omega) hI hr (by omega) (by omega) (by omega) (by omega) (fun v2 S1 hI_S1 hp_v2 => zi_n ⟨zG_T hI_S1, ?_⟩) (fun x S9 hx h9 => zi_x (KX x S9 (by omega) h9 (by subst hx; omega)))
            have b22 := i_bd v2
            exact K (v2) _ hI_S1 (by omega)
          · skip
            have g23 := i_ne h19
            refine sp_143_64_sx_p0 ((16 : Int32)) (n) ((-1 : Int64)) (rt) (by omega) (by omega) hI hr (by omega) (by omega) (by omega) (by omega) (fun v4 S3 hI_S3 hp_v4 => zi_n ⟨zG_T hI_S3, ?_⟩) (fun x S9 hx h9 => zi_x (KX x S9 (by omega) h9 (by subst hx; omega)))
            have b24 := i_bd v4
            exact K (v4) _ hI_S3 (by omega)

