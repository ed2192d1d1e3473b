/-! from 95.m15 -/
/-! COUNTS, the class (written by wip/tools/gen20k.py) -/
theorem g_276_77_sk_0 {X : Nat × (Nat → Int32)} {d w : Nat} {S : ma_S} {Q : Option ma_V ⊕ Nat → ma_S → Prop} (x : Int32) (hd : 0 ≤ d) (hw : 0 ≤ w) (hS : zT S) (h : ma_wp X d w 276 5 [(0, .inr (.inr (some 77))), (1, .inl x), (2, .inl (0 : Int32)), (3, .inl (512 : Int32))] [] S Q) : ma_wp X d w 276 0 [(0, .inr (.inr (some 77))), (1, .inl x)] [] S Q := by
  refine zw_push hm_276 dJ7_fill_53178_0 (v := .inl (0 : Int32)) rfl ?_
  refine zw_sto hm_276 dJ7_fill_53178_1 [(2, .inl (0 : Int32)), (0, .inr (.inr (some 77))), (1, .inl x)] rfl rfl rfl ?_
  refine zw_push hm_276 dJ7_fill_53178_2 (v := .inr (.inr (some 77))) rfl ?_
  refine zw_len hm_276 dJ7_fill_53178_3 (zT_is hS s_77) (zT_h hS s_77) rfl rfl ?_
  refine zw_sto hm_276 dJ7_fill_53178_4 [(3, .inl (512 : Int32)), (2, .inl (0 : Int32)), (0, .inr (.inr (some 77))), (1, .inl x)] rfl rfl rfl ?_
  exact zw_sub (ma_nd_of (ks := [0, 1, 2, 3]) rfl (by decide)) (ma_nd_of (ks := [3, 2, 0, 1]) rfl (by decide)) (ma_le_cons rfl (ma_le_cons rfl (ma_le_cons rfl (ma_le_cons rfl (ma_le_nil _))))) h
theorem g_276_77_sk_5 {X : Nat × (Nat → Int32)} {d w : Nat} {S : ma_S} {Q : Option ma_V ⊕ Nat → ma_S → Prop} (l1 : Int32) (l2 : Int32) (l3 : Int32) (hd : 0 ≤ d) (hw : 0 ≤ w) (hS : zT S) (h : if l3 ≤ l2 then (Q (.inl none) S) else ((0 ≤ l2 ∧ l2.toNatClampNeg < 512) ∧ (ma_wp X d w 276 5 [(0, .inr (.inr (some 77))), (1, .inl l1), (2, .inl (l2 + (1 : Int32))), (3, .inl l3)] [] (ma_put S 77 l2.toNatClampNeg (.inl l1)) Q))) : ma_wp X d w 276 5 [(0, .inr (.inr (some 77))), (1, .inl l1), (2, .inl l2), (3, .inl l3)] [] S Q := by
  refine zw_push hm_276 dJ7_fill_53178_5 (v := .inl l2) rfl ?_
  refine zw_push hm_276 dJ7_fill_53178_6 (v := .inl l3) rfl ?_
  refine zw_if2 hm_276 dJ7_fill_53178_7 (t := 20) rfl zc2_ge ?_ ?_
  · intro hc
    rw [if_pos hc] at h
    exact zw_vret hm_276 dJ7_fill_53178_20 h
  · intro hc
    rw [if_neg hc] at h
    refine zw_push hm_276 dJ7_fill_53178_10 (v := .inr (.inr (some 77))) rfl ?_
    refine zw_push hm_276 dJ7_fill_53178_11 (v := .inl l2) rfl ?_
    refine zw_push hm_276 dJ7_fill_53178_12 (v := .inl l1) rfl ?_
    obtain ⟨hg, h⟩ := h
    refine zw_ias hm_276 dJ7_fill_53178_13 (zT_is hS s_77) (zT_h hS s_77) rfl hg ?_
    refine zw_sto hm_276 dJ7_fill_53178_14 [(2, .inl (l2 + (1 : Int32))), (0, .inr (.inr (some 77))), (1, .inl l1), (3, .inl l3)] rfl rfl rfl ?_
    refine zw_goto hm_276 dJ7_fill_53178_17 (t := 5) rfl ?_
    exact zw_sub (ma_nd_of (ks := [0, 1, 2, 3]) rfl (by decide)) (ma_nd_of (ks := [2, 0, 1, 3]) rfl (by decide)) (ma_le_cons rfl (ma_le_cons rfl (ma_le_cons rfl (ma_le_cons rfl (ma_le_nil _))))) h
theorem lp_276_77_sk_5 {X : Nat × (Nat → Int32)} {d w : Nat} {f : Nat → Nat → Int32} {r : Nat → Nat → Option Nat} {C Z N : Nat} {Q : Option ma_V ⊕ Nat → ma_S → Prop} {ab : Nat→Nat→Int32} {R : zRT} {a8 : Nat→Nat→Int32} {kk : Nat→Int32} {x : Int32} (hd : 0 ≤ d) (hw : 0 ≤ w) (K : ∀ S₉, zI f r C Z N S₉ → (xB S₉ R) → (aS 75 S₉ = zFl ab 77 x 512) → (aS 88 S₉ = a8) → (kC S₉ = kk) → Q (.inl none) S₉) : ∀ (n : Nat) (S : ma_S) (l1 : Int32) (l2 : Int32) (l3 : Int32), (l3.toInt - l2.toInt).toNat = n → zI f r C Z N S → (0 ≤ l2.toInt) → (l3.toInt = 512) → (l2.toInt ≤ 512) → (xB S R) → (aS 75 S = zFl ab 77 l1 l2.toInt) → (l1 = x) → (aS 88 S = a8) → (kC S = kk) → ma_wp X d w 276 5 [(0, .inr (.inr (some 77))), (1, .inl l1), (2, .inl l2), (3, .inl l3)] [] S Q := by
  intro n
  induction n using Nat.strongRecOn with
  | _ n IH =>
    intro S l1 l2 l3 hmu hI  hi0 hi1 hi2 hi3 hi4 hi5 hi6 hi7
    refine g_276_77_sk_5 l1 l2 l3 (by omega) (by omega) (zG_T hI) ?_
    have b1 := i_bd l3
    have b2 := i_bd l2
    refine zd (fun h3 => ?_) (fun h3 => ?_)
    · skip
      have g4 := i_le h3
      exact K _ hI (show xB S R from by first | (exact (xC_o (W := 75) hi3).2)) (show aS 75 S = zFl ab 77 x 512 from by first | (rw [hi4, show l2.toInt = 512 from by omega, hi5])) (show aS 88 S = a8 from by first | (exact (xC_o (W := 88) hi3).1.trans hi6)) (show kC S = kk from by first | (exact (xK_o (W := 75) hi3 hi7).2))
    · skip
      have g5 := i_nle h3
      refine ⟨i_ix (by omega) (by omega), ?_⟩
      have hI6 : zI f r C Z N (ma_put S 77 l2.toNatClampNeg (.inl l1)) := zG_fa hI rfl (by decide) (by decide) (by decide) trivial
      have b7 := i_bd l1
      first | have e8 : (l2 + (1 : Int32)).toInt = l2.toInt + (1) := i_addk rfl (by omega) (by omega) | have b9 := i_bd (l2 + (1 : Int32))
      exact IH _ (by omega) _ (l1) ((l2 + (1 : Int32))) (l3) rfl hI6 (by omega) (by omega) (by omega) (show xB (ma_put S 77 l2.toNatClampNeg (.inl l1)) R from by first | (exact (xC_p (c := 77) (k := l2.toNatClampNeg) (x := l1) (xC_o (W := 75) hi3) 77 xW75 rfl rfl).2)) (show aS 75 (ma_put S 77 l2.toNatClampNeg (.inl l1)) = zFl ab 77 (l1) ((l2 + (1 : Int32))).toInt from by first | (refine (xC_p (c := 77) (k := l2.toNatClampNeg) (x := l1) (xC_o (W := 75) hi3) 77 xW75 rfl rfl).1.trans ?_; skip; rw [hi4]; exact zFl_s (by omega) (by omega))) (show (l1) = x from by first | (exact rfl) | (exact hi5)) (show aS 88 (ma_put S 77 l2.toNatClampNeg (.inl l1)) = a8 from by first | (exact (xC_n (c := 77) (k := l2.toNatClampNeg) (x := l1) (xC_o (W := 88) hi3) ⟨by decide, Or.inr ⟨rfl, Or.inl (by decide)⟩⟩).1.trans hi6)) (show kC (ma_put S 77 l2.toNatClampNeg (.inl l1)) = kk from by first | (exact (xK_p (c := 77) (k := l2.toNatClampNeg) (x := l1) (xK_o (W := 75) hi3 hi7) 77 xW75 rfl rfl).2))
theorem sp_276_77_sk {X : Nat × (Nat → Int32)} {d w : Nat} {f : Nat → Nat → Int32} {r : Nat → Nat → Option Nat} {C Z N : Nat} {Q : Option ma_V ⊕ Nat → ma_S → Prop} {ab : Nat→Nat→Int32} {R : zRT} {a8 : Nat→Nat→Int32} {kk : Nat→Int32} {S : ma_S} (x : Int32) (hd : 0 ≤ d) (hw : 0 ≤ w) (hI : zI f r C Z N S) (hpre0 : xB S R) (hpre1 : aS 75 S = ab) (hpre2 : aS 88 S = a8) (hpre3 : kC S = kk) (K : ∀ S₉, zI f r C Z N S₉ → (xB S₉ R) → (aS 75 S₉ = zFl ab 77 x 512) → (aS 88 S₉ = a8) → (kC S₉ = kk) → Q (.inl none) S₉) : ma_wp X d w 276 0 [(0, .inr (.inr (some 77))), (1, .inl x)] [] S Q := by
  refine g_276_77_sk_0 x (by omega) (by omega) (zG_T hI) ?_
  have b1 := i_bd x
  have li2 : (0 : Int32).toInt = 0 := rfl
  have li3 : (512 : Int32).toInt = 512 := rfl
  exact lp_276_77_sk_5 (by omega) (by omega) K _ _ (x) ((0 : Int32)) ((512 : Int32)) rfl hI (by omega) (by omega) (by omega) (show xB S R from by first | (exact (xC_o (W := 75) hpre0).2)) (show aS 75 S = zFl ab 77 (x) ((0 : Int32)).toInt from by first | (rw [hpre1]; exact zFl_0.symm)) (show (x) = x from by first | (exact rfl)) (show aS 88 S = a8 from by first | (exact (xC_o (W := 88) hpre0).1.trans hpre2)) (show kC S = kk from by first | (exact (xK_o (W := 75) hpre0 hpre3).2))
theorem g_117_75_sk_0 {X : Nat × (Nat → Int32)} {d w : Nat} {S : ma_S} {Q : Option ma_V ⊕ Nat → ma_S → Prop} (p : Int32) (hd : 1 ≤ d) (hw : 23 ≤ w) (hS : zT S) (h : ma_wp X (d - 1) (w - 23) 276 0 [(0, .inr (.inr (some 77))), (1, .inl (0 : Int32))] [] S (zv (fun S1 => zT S1 ∧ (Q (.inl none) (ma_put (ma_put (ma_put S1 75 3 (.inl (0 : Int32))) 75 4 (.inl (0 : Int32))) 75 5 (.inl p)))) (fun _ _ => False))) : ma_wp X d w 117 0 [(0, .inr (.inr (some 75))), (1, .inl p)] [] S Q := by
  refine zw_push hm_117 dX10_restart_0 (v := .inr (.inr (some 75))) rfl ?_
  refine zw_gf hm_117 dX10_restart_1 (v := .inr (.inr (some 77))) (zT_is hS s_75) (zT_t hS s_75) rfl f_10_15_10 (zT_f hS r_75_2) ?_
  refine zw_push hm_117 dX10_restart_4 (v := .inl (0 : Int32)) rfl ?_
  refine zw_cs hm_117 dX10_restart_5 pn_10_22 sl_10_22 hm_276 [.inl (0 : Int32), .inr (.inr (some 77))] [] rfl ⟨by omega, by omega⟩ rfl (zw_mono h (zv_go ?_ ?_))
  · intro S1 hv
    obtain ⟨hS1, h⟩ := hv
    refine zw_push hm_117 dX10_restart_8 (v := .inr (.inr (some 75))) rfl ?_
    refine zw_push hm_117 dX10_restart_9 (v := .inl (0 : Int32)) rfl ?_
    refine zw_pf hm_117 dX10_restart_10 (zT_is hS1 s_75) (zT_t hS1 s_75) p_10_28_10 zk_int ?_
    refine zw_push hm_117 dX10_restart_13 (v := .inr (.inr (some 75))) rfl ?_
    refine zw_push hm_117 dX10_restart_14 (v := .inl (0 : Int32)) rfl ?_
    refine zw_pf hm_117 dX10_restart_15 (zT_is (zT_pi hS1) s_75) (zT_t (zT_pi hS1) s_75) p_10_32_10 zk_int ?_
    refine zw_push hm_117 dX10_restart_18 (v := .inr (.inr (some 75))) rfl ?_
    refine zw_push hm_117 dX10_restart_19 (v := .inl p) rfl ?_
    refine zw_pf hm_117 dX10_restart_20 (zT_is (zT_pi (zT_pi hS1)) s_75) (zT_t (zT_pi (zT_pi hS1)) s_75) p_10_35_10 zk_int ?_
    exact zw_vret hm_117 dX10_restart_23 h
  · intro x S9 hx
    exact hx.elim
theorem sp_117_75_sk {X : Nat × (Nat → Int32)} {d w : Nat} {f : Nat → Nat → Int32} {r : Nat → Nat → Option Nat} {C Z N : Nat} {Q : Option ma_V ⊕ Nat → ma_S → Prop} {ab : Nat→Nat→Int32} {R : zRT} {a8 : Nat→Nat→Int32} {kk : Nat→Int32} {S : ma_S} (p : Int32) (hd : 1 ≤ d) (hw : 23 ≤ w) (hI : zI f r C Z N S) (hpre0 : xB S R) (hpre1 : aS 75 S = ab) (hpre2 : aS 88 S = a8) (hpre3 : kC S = kk) (K : ∀ S₉, zI f r C Z N S₉ → (xB S₉ R) → (aS 75 S₉ = aWh ab p) → (aS 88 S₉ = a8) → (kC S₉ = kk) → Q (.inl none) S₉) : ma_wp X d w 117 0 [(0, .inr (.inr (some 75))), (1, .inl p)] [] S Q := by
  refine g_117_75_sk_0 p (by omega) (by omega) (zG_T hI) ?_
  have li1 : (0 : Int32).toInt = 0 := rfl
  refine sp_276_77_sk (ab := (aS 75 S)) (R := R) (a8 := a8) (kk := kk) ((0 : Int32)) (by omega) (by omega) hI (show xB S R from by first | (exact (xC_o (W := 75) hpre0).2)) (show aS 75 S = (aS 75 S) from by first | (exact rfl)) (show aS 88 S = a8 from by first | (exact (xC_o (W := 88) hpre0).1.trans hpre2)) (show kC S = kk from by first | (exact (xK_o (W := 75) hpre0 hpre3).2)) (fun S1 hI_S1 rp0_S1 rp1_S1 rp2_S1 rp3_S1 => zv_n ⟨zG_T hI_S1, ?_⟩)
  have rp0_S1 : xB S1 R := rp0_S1
  have rp1_S1 : aS 75 S1 = zFl (aS 75 S) 77 (0 : Int32) 512 := rp1_S1
  have rp2_S1 : aS 88 S1 = a8 := rp2_S1
  have rp3_S1 : kC S1 = kk := rp3_S1
  have hI2 : zI f r C Z N (ma_put S1 75 3 (.inl (0 : Int32))) := zG_sp hI_S1 (0) (512) rfl (by decide) (by decide) (by decide) trivial (by omega) (by omega)
  have hI3 : zI f r C Z N (ma_put (ma_put S1 75 3 (.inl (0 : Int32))) 75 4 (.inl (0 : Int32))) := zG_sp hI2 (0) (512) rfl (by decide) (by decide) (by decide) trivial (by omega) (by omega)
  have hI4 : zI f r C Z N (ma_put (ma_put (ma_put S1 75 3 (.inl (0 : Int32))) 75 4 (.inl (0 : Int32))) 75 5 (.inl p)) := zG_fr hI3 rfl (by decide) (by decide) (by decide) trivial
  exact K _ hI4 (show xB (ma_put (ma_put (ma_put S1 75 3 (.inl (0 : Int32))) 75 4 (.inl (0 : Int32))) 75 5 (.inl p)) R from by first | (exact (xC_p (c := 75) (k := 5) (x := p) (xC_p (c := 75) (k := 4) (x := (0 : Int32)) (xC_p (c := 75) (k := 3) (x := (0 : Int32)) (xC_o (W := 75) rp0_S1) 75 xW75 rfl rfl) 75 xW75 rfl rfl) 75 xW75 rfl rfl).2)) (show aS 75 (ma_put (ma_put (ma_put S1 75 3 (.inl (0 : Int32))) 75 4 (.inl (0 : Int32))) 75 5 (.inl p)) = aWh ab p from by first | (refine (xC_p (c := 75) (k := 5) (x := p) (xC_p (c := 75) (k := 4) (x := (0 : Int32)) (xC_p (c := 75) (k := 3) (x := (0 : Int32)) (xC_o (W := 75) rp0_S1) 75 xW75 rfl rfl) 75 xW75 rfl rfl) 75 xW75 rfl rfl).1.trans ?_; skip; rw [rp1_S1, hpre1]; rfl)) (show aS 88 (ma_put (ma_put (ma_put S1 75 3 (.inl (0 : Int32))) 75 4 (.inl (0 : Int32))) 75 5 (.inl p)) = a8 from by first | (exact (xC_n (c := 75) (k := 5) (x := p) (xC_n (c := 75) (k := 4) (x := (0 : Int32)) (xC_n (c := 75) (k := 3) (x := (0 : Int32)) (xC_o (W := 88) rp0_S1) ⟨by decide, Or.inr ⟨rfl, Or.inl (by decide)⟩⟩) ⟨by decide, Or.inr ⟨rfl, Or.inl (by decide)⟩⟩) ⟨by decide, Or.inr ⟨rfl, Or.inl (by decide)⟩⟩).1.trans rp2_S1)) (show kC (ma_put (ma_put (ma_put S1 75 3 (.inl (0 : Int32))) 75 4 (.inl (0 : Int32))) 75 5 (.inl p)) = kk from by first | (exact (xK_p (c := 75) (k := 5) (x := p) (xK_p (c := 75) (k := 4) (x := (0 : Int32)) (xK_p (c := 75) (k := 3) (x := (0 : Int32)) (xK_o (W := 75) rp0_S1 rp3_S1) 75 xW75 rfl rfl) 75 xW75 rfl rfl) 75 xW75 rfl rfl).2))

/-! from 95.m16 -/
/-! COUNTS, the class (written by wip/tools/gen20k.py) -/
theorem g_118_75_sk_0 {X : Nat × (Nat → Int32)} {d w : Nat} {S : ma_S} {Q : Option ma_V ⊕ Nat → ma_S → Prop}  (hd : 1 ≤ d) (hw : 21 ≤ w) (hS : zT S) (h : ma_wp X d w 118 2 [(0, .inr (.inr (some 75))), (1, .inl (0 : Int32))] [] S Q) : ma_wp X d w 118 0 [(0, .inr (.inr (some 75)))] [] S Q := by
  refine zw_push hm_118 dX10_comeFromRoots_0 (v := .inl (0 : Int32)) rfl ?_
  refine zw_sto hm_118 dX10_comeFromRoots_1 [(1, .inl (0 : Int32)), (0, .inr (.inr (some 75)))] rfl rfl rfl ?_
  exact zw_sub (ma_nd_of (ks := [0, 1]) rfl (by decide)) (ma_nd_of (ks := [1, 0]) rfl (by decide)) (ma_le_cons rfl (ma_le_cons rfl (ma_le_nil _))) h
theorem g_118_75_sk_2 {X : Nat × (Nat → Int32)} {d w : Nat} {S : ma_S} {Q : Option ma_V ⊕ Nat → ma_S → Prop} (l1 : Int32) (hd : 1 ≤ d) (hw : 21 ≤ w) (hS : zT S) (h : if (16 : Int32) ≤ l1 then (ma_wp X d w 118 36 [(0, .inr (.inr (some 75))), (1, .inl (0 : Int32))] [] S Q) else ((0 ≤ l1 ∧ l1.toNatClampNeg < 16) ∧ (if (mI S 72 l1.toNatClampNeg) < 0 then (ma_wp X (d - 1) (w - 21) 119 0 [(0, .inr (.inr (some 75))), (1, .inr (.inr none))] [] S (zv (fun S1 => zT S1 ∧ (ma_wp X d w 118 2 [(0, .inr (.inr (some 75))), (1, .inl (l1 + (1 : Int32)))] [] S1 Q)) (fun x S9 => Q (.inr x) S9))) else (if (512 : Int32) ≤ (mI S 72 l1.toNatClampNeg) then (ma_wp X (d - 1) (w - 21) 119 0 [(0, .inr (.inr (some 75))), (1, .inr (.inr none))] [] S (zv (fun S3 => zT S3 ∧ (ma_wp X d w 118 2 [(0, .inr (.inr (some 75))), (1, .inl (l1 + (1 : Int32)))] [] S3 Q)) (fun x S9 => Q (.inr x) S9))) else ((0 ≤ (mI S 72 l1.toNatClampNeg) ∧ (mI S 72 l1.toNatClampNeg).toNatClampNeg < 512) ∧ (ma_wp X (d - 1) (w - 21) 119 0 [(0, .inr (.inr (some 75))), (1, .inr (.inr (mR S 70 (mI S 72 l1.toNatClampNeg).toNatClampNeg)))] [] S (zv (fun S5 => zT S5 ∧ (ma_wp X d w 118 2 [(0, .inr (.inr (some 75))), (1, .inl (l1 + (1 : Int32)))] [] S5 Q)) (fun x S9 => Q (.inr x) S9)))))))) : ma_wp X d w 118 2 [(0, .inr (.inr (some 75))), (1, .inl l1)] [] S Q := by
  refine zw_push hm_118 dX10_comeFromRoots_2 (v := .inl l1) rfl ?_
  refine zw_push hm_118 dX10_comeFromRoots_3 (v := .inl (16 : Int32)) rfl ?_
  refine zw_if2 hm_118 dX10_comeFromRoots_5 (t := 34) rfl zc2_ge ?_ ?_
  · intro hc
    rw [if_pos hc] at h
    refine zw_push hm_118 dX10_comeFromRoots_34 (v := .inl (0 : Int32)) rfl ?_
    refine zw_sto hm_118 dX10_comeFromRoots_35 [(1, .inl (0 : Int32)), (0, .inr (.inr (some 75)))] rfl rfl rfl ?_
    exact zw_sub (ma_nd_of (ks := [0, 1]) rfl (by decide)) (ma_nd_of (ks := [1, 0]) rfl (by decide)) (ma_le_cons rfl (ma_le_cons rfl (ma_le_nil _))) h
  · intro hc
    rw [if_neg hc] at h
    refine zw_push hm_118 dX10_comeFromRoots_8 (v := .inr (.inr (some 75))) rfl ?_
    refine zw_push hm_118 dX10_comeFromRoots_9 (v := .inr (.inr (some 75))) rfl ?_
    refine zw_gf hm_118 dX10_comeFromRoots_10 (v := .inr (.inr (some 69))) (zT_is hS s_75) (zT_t hS s_75) rfl f_10_18_10 (zT_f hS r_75_0) ?_
    refine zw_push hm_118 dX10_comeFromRoots_13 (v := .inr (.inr (some 75))) rfl ?_
    refine zw_gf hm_118 dX10_comeFromRoots_14 (v := .inr (.inr (some 69))) (zT_is hS s_75) (zT_t hS s_75) rfl f_10_18_10 (zT_f hS r_75_0) ?_
    refine zw_gf hm_118 dX10_comeFromRoots_17 (v := .inr (.inr (some 72))) (zT_is hS s_69) (zT_t hS s_69) rfl f_10_61_7 (zT_f hS r_69_2) ?_
    refine zw_push hm_118 dX10_comeFromRoots_20 (v := .inl l1) rfl ?_
    obtain ⟨hg, h⟩ := h
    refine zw_ia hm_118 dX10_comeFromRoots_21 (zT_is hS s_72) (zT_h hS s_72) rfl hg ?_
    show ma_wp X d w 118 22 [(0, .inr (.inr (some 75))), (1, .inl l1)] [.inl (mI S 72 l1.toNatClampNeg), .inr (.inr (some 69)), .inr (.inr (some 75))] S _
    refine zw_cv hm_118 dX10_comeFromRoots_22 v_10_66_7 hm_81 [.inl (mI S 72 l1.toNatClampNeg)] [.inr (.inr (some 75))] rfl (zT_rt hS s_69 rfl) ⟨by omega, by omega⟩ rfl ?_
    show ma_wp X (d - 1) (w - 21) 81 0 [(0, .inr (.inr (some 69))), (1, .inl (mI S 72 l1.toNatClampNeg))] [] S _
    refine zw_push hm_81 dX7_thingAt_0 (v := .inl (mI S 72 l1.toNatClampNeg)) rfl ?_
    refine zw_if0 hm_81 dX7_thingAt_1 (t := 20) rfl zc0_lt ?_ ?_
    · intro hc
      rw [if_pos hc] at h
      refine zw_push hm_81 dX7_thingAt_20 (v := .inr (.inr none)) rfl ?_
      refine zw_aret hm_81 dX7_thingAt_21 ?_
      show ma_wp X d w 118 25 [(0, .inr (.inr (some 75))), (1, .inl l1)] [.inr (.inr none), .inr (.inr (some 75))] S _
      refine zw_cv hm_118 dX10_comeFromRoots_25 v_10_70_10 hm_119 [.inr (.inr none)] [] rfl (zT_rt hS s_75 rfl) ⟨by omega, by omega⟩ rfl (zw_mono h (zv_go ?_ ?_))
      · intro S1 hv
        obtain ⟨hS1, h⟩ := hv
        refine zw_sto hm_118 dX10_comeFromRoots_28 [(1, .inl (l1 + (1 : Int32))), (0, .inr (.inr (some 75)))] rfl rfl rfl ?_
        refine zw_goto hm_118 dX10_comeFromRoots_31 (t := 2) rfl ?_
        exact zw_sub (ma_nd_of (ks := [0, 1]) rfl (by decide)) (ma_nd_of (ks := [1, 0]) rfl (by decide)) (ma_le_cons rfl (ma_le_cons rfl (ma_le_nil _))) h
      · intro x S9 hx
        exact ⟨by decide, hx⟩
    · intro hc
      rw [if_neg hc] at h
      refine zw_push hm_81 dX7_thingAt_4 (v := .inl (mI S 72 l1.toNatClampNeg)) rfl ?_
      refine zw_push hm_81 dX7_thingAt_5 (v := .inl (512 : Int32)) rfl ?_
      refine zw_if2 hm_81 dX7_thingAt_8 (t := 20) rfl zc2_ge ?_ ?_
      · intro hc
        rw [if_pos hc] at h
        refine zw_push hm_81 dX7_thingAt_20 (v := .inr (.inr none)) rfl ?_
        refine zw_aret hm_81 dX7_thingAt_21 ?_
        show ma_wp X d w 118 25 [(0, .inr (.inr (some 75))), (1, .inl l1)] [.inr (.inr none), .inr (.inr (some 75))] S _
        refine zw_cv hm_118 dX10_comeFromRoots_25 v_10_70_10 hm_119 [.inr (.inr none)] [] rfl (zT_rt hS s_75 rfl) ⟨by omega, by omega⟩ rfl (zw_mono h (zv_go ?_ ?_))
        · intro S3 hv
          obtain ⟨hS3, h⟩ := hv
          refine zw_sto hm_118 dX10_comeFromRoots_28 [(1, .inl (l1 + (1 : Int32))), (0, .inr (.inr (some 75)))] rfl rfl rfl ?_
          refine zw_goto hm_118 dX10_comeFromRoots_31 (t := 2) rfl ?_
          exact zw_sub (ma_nd_of (ks := [0, 1]) rfl (by decide)) (ma_nd_of (ks := [1, 0]) rfl (by decide)) (ma_le_cons rfl (ma_le_cons rfl (ma_le_nil _))) h
        · intro x S9 hx
          exact ⟨by decide, hx⟩
      · intro hc
        rw [if_neg hc] at h
        refine zw_push hm_81 dX7_thingAt_11 (v := .inr (.inr (some 69))) rfl ?_
        refine zw_gf hm_81 dX7_thingAt_12 (v := .inr (.inr (some 70))) (zT_is hS s_69) (zT_t hS s_69) rfl f_7_11_7 (zT_f hS r_69_0) ?_
        refine zw_push hm_81 dX7_thingAt_15 (v := .inl (mI S 72 l1.toNatClampNeg)) rfl ?_
        obtain ⟨hg, h⟩ := h
        refine zw_aa hm_81 dX7_thingAt_16 (zT_is hS s_70) (zT_h hS s_70) rfl rfl hg rfl ?_
        show ma_wp X (d - 1) (w - 21) 81 17 [(0, .inr (.inr (some 69))), (1, .inl (mI S 72 l1.toNatClampNeg))] [.inr (.inr (mR S 70 (mI S 72 l1.toNatClampNeg).toNatClampNeg))] S _
        refine zw_goto hm_81 dX7_thingAt_17 (t := 21) rfl ?_
        refine zw_aret hm_81 dX7_thingAt_21 ?_
        show ma_wp X d w 118 25 [(0, .inr (.inr (some 75))), (1, .inl l1)] [.inr (.inr (mR S 70 (mI S 72 l1.toNatClampNeg).toNatClampNeg)), .inr (.inr (some 75))] S _
        refine zw_cv hm_118 dX10_comeFromRoots_25 v_10_70_10 hm_119 [.inr (.inr (mR S 70 (mI S 72 l1.toNatClampNeg).toNatClampNeg))] [] rfl (zT_rt hS s_75 rfl) ⟨by omega, by omega⟩ rfl (zw_mono h (zv_go ?_ ?_))
        · intro S5 hv
          obtain ⟨hS5, h⟩ := hv
          refine zw_sto hm_118 dX10_comeFromRoots_28 [(1, .inl (l1 + (1 : Int32))), (0, .inr (.inr (some 75)))] rfl rfl rfl ?_
          refine zw_goto hm_118 dX10_comeFromRoots_31 (t := 2) rfl ?_
          exact zw_sub (ma_nd_of (ks := [0, 1]) rfl (by decide)) (ma_nd_of (ks := [1, 0]) rfl (by decide)) (ma_le_cons rfl (ma_le_cons rfl (ma_le_nil _))) h
        · intro x S9 hx
          exact ⟨by decide, hx⟩
theorem g_118_75_sk_36 {X : Nat × (Nat → Int32)} {d w : Nat} {S : ma_S} {Q : Option ma_V ⊕ Nat → ma_S → Prop} (l1 : Int32) (hd : 1 ≤ d) (hw : 21 ≤ w) (hS : zT S) (h : if (mI S 69 5) ≤ l1 then (ma_wp X d w 118 75 [(0, .inr (.inr (some 75))), (1, .inl (0 : Int32))] [] S Q) else ((0 ≤ l1 ∧ l1.toNatClampNeg < 512) ∧ (if (mI S 74 l1.toNatClampNeg) < 0 then (ma_wp X (d - 1) (w - 21) 119 0 [(0, .inr (.inr (some 75))), (1, .inr (.inr none))] [] S (zv (fun S1 => zT S1 ∧ (ma_wp X d w 118 36 [(0, .inr (.inr (some 75))), (1, .inl (l1 + (1 : Int32)))] [] S1 Q)) (fun x S9 => Q (.inr x) S9))) else (if (512 : Int32) ≤ (mI S 74 l1.toNatClampNeg) then (ma_wp X (d - 1) (w - 21) 119 0 [(0, .inr (.inr (some 75))), (1, .inr (.inr none))] [] S (zv (fun S3 => zT S3 ∧ (ma_wp X d w 118 36 [(0, .inr (.inr (some 75))), (1, .inl (l1 + (1 : Int32)))] [] S3 Q)) (fun x S9 => Q (.inr x) S9))) else ((0 ≤ (mI S 74 l1.toNatClampNeg) ∧ (mI S 74 l1.toNatClampNeg).toNatClampNeg < 512) ∧ (ma_wp X (d - 1) (w - 21) 119 0 [(0, .inr (.inr (some 75))), (1, .inr (.inr (mR S 70 (mI S 74 l1.toNatClampNeg).toNatClampNeg)))] [] S (zv (fun S5 => zT S5 ∧ (ma_wp X d w 118 36 [(0, .inr (.inr (some 75))), (1, .inl (l1 + (1 : Int32)))] [] S5 Q)) (fun x S9 => Q (.inr x) S9)))))))) : ma_wp X d w 118 36 [(0, .inr (.inr (some 75))), (1, .inl l1)] [] S Q := by
  refine zw_push hm_118 dX10_comeFromRoots_36 (v := .inl l1) rfl ?_
  refine zw_push hm_118 dX10_comeFromRoots_37 (v := .inr (.inr (some 75))) rfl ?_
  refine zw_gf hm_118 dX10_comeFromRoots_38 (v := .inr (.inr (some 69))) (zT_is hS s_75) (zT_t hS s_75) rfl f_10_18_10 (zT_f hS r_75_0) ?_
  refine zw_gf hm_118 dX10_comeFromRoots_41 (v := .inl (mI S 69 5)) (zT_is hS s_69) (zT_t hS s_69) rfl f_10_74_7 rfl ?_
  refine zw_if2 hm_118 dX10_comeFromRoots_44 (t := 73) rfl zc2_ge ?_ ?_
  · intro hc
    rw [if_pos hc] at h
    refine zw_push hm_118 dX10_comeFromRoots_73 (v := .inl (0 : Int32)) rfl ?_
    refine zw_sto hm_118 dX10_comeFromRoots_74 [(1, .inl (0 : Int32)), (0, .inr (.inr (some 75)))] rfl rfl rfl ?_
    exact zw_sub (ma_nd_of (ks := [0, 1]) rfl (by decide)) (ma_nd_of (ks := [1, 0]) rfl (by decide)) (ma_le_cons rfl (ma_le_cons rfl (ma_le_nil _))) h
  · intro hc
    rw [if_neg hc] at h
    refine zw_push hm_118 dX10_comeFromRoots_47 (v := .inr (.inr (some 75))) rfl ?_
    refine zw_push hm_118 dX10_comeFromRoots_48 (v := .inr (.inr (some 75))) rfl ?_
    refine zw_gf hm_118 dX10_comeFromRoots_49 (v := .inr (.inr (some 69))) (zT_is hS s_75) (zT_t hS s_75) rfl f_10_18_10 (zT_f hS r_75_0) ?_
    refine zw_push hm_118 dX10_comeFromRoots_52 (v := .inr (.inr (some 75))) rfl ?_
    refine zw_gf hm_118 dX10_comeFromRoots_53 (v := .inr (.inr (some 69))) (zT_is hS s_75) (zT_t hS s_75) rfl f_10_18_10 (zT_f hS r_75_0) ?_
    refine zw_gf hm_118 dX10_comeFromRoots_56 (v := .inr (.inr (some 74))) (zT_is hS s_69) (zT_t hS s_69) rfl f_10_77_7 (zT_f hS r_69_4) ?_
    refine zw_push hm_118 dX10_comeFromRoots_59 (v := .inl l1) rfl ?_
    obtain ⟨hg, h⟩ := h
    refine zw_ia hm_118 dX10_comeFromRoots_60 (zT_is hS s_74) (zT_h hS s_74) rfl hg ?_
    show ma_wp X d w 118 61 [(0, .inr (.inr (some 75))), (1, .inl l1)] [.inl (mI S 74 l1.toNatClampNeg), .inr (.inr (some 69)), .inr (.inr (some 75))] S _
    refine zw_cv hm_118 dX10_comeFromRoots_61 v_10_66_7 hm_81 [.inl (mI S 74 l1.toNatClampNeg)] [.inr (.inr (some 75))] rfl (zT_rt hS s_69 rfl) ⟨by omega, by omega⟩ rfl ?_
    show ma_wp X (d - 1) (w - 21) 81 0 [(0, .inr (.inr (some 69))), (1, .inl (mI S 74 l1.toNatClampNeg))] [] S _
    refine zw_push hm_81 dX7_thingAt_0 (v := .inl (mI S 74 l1.toNatClampNeg)) rfl ?_
    refine zw_if0 hm_81 dX7_thingAt_1 (t := 20) rfl zc0_lt ?_ ?_
    · intro hc
      rw [if_pos hc] at h
      refine zw_push hm_81 dX7_thingAt_20 (v := .inr (.inr none)) rfl ?_
      refine zw_aret hm_81 dX7_thingAt_21 ?_
      show ma_wp X d w 118 64 [(0, .inr (.inr (some 75))), (1, .inl l1)] [.inr (.inr none), .inr (.inr (some 75))] S _
      refine zw_cv hm_118 dX10_comeFromRoots_64 v_10_70_10 hm_119 [.inr (.inr none)] [] rfl (zT_rt hS s_75 rfl) ⟨by omega, by omega⟩ rfl (zw_mono h (zv_go ?_ ?_))
      · intro S1 hv
        obtain ⟨hS1, h⟩ := hv
        refine zw_sto hm_118 dX10_comeFromRoots_67 [(1, .inl (l1 + (1 : Int32))), (0, .inr (.inr (some 75)))] rfl rfl rfl ?_
        refine zw_goto hm_118 dX10_comeFromRoots_70 (t := 36) rfl ?_
        exact zw_sub (ma_nd_of (ks := [0, 1]) rfl (by decide)) (ma_nd_of (ks := [1, 0]) rfl (by decide)) (ma_le_cons rfl (ma_le_cons rfl (ma_le_nil _))) h
      · intro x S9 hx
        exact ⟨by decide, hx⟩
    · intro hc
      rw [if_neg hc] at h
      refine zw_push hm_81 dX7_thingAt_4 (v := .inl (mI S 74 l1.toNatClampNeg)) rfl ?_
      refine zw_push hm_81 dX7_thingAt_5 (v := .inl (512 : Int32)) rfl ?_
      refine zw_if2 hm_81 dX7_thingAt_8 (t := 20) rfl zc2_ge ?_ ?_
      · intro hc
        rw [if_pos hc] at h
        refine zw_push hm_81 dX7_thingAt_20 (v := .inr (.inr none)) rfl ?_
        refine zw_aret hm_81 dX7_thingAt_21 ?_
        show ma_wp X d w 118 64 [(0, .inr (.inr (some 75))), (1, .inl l1)] [.inr (.inr none), .inr (.inr (some 75))] S _
        refine zw_cv hm_118 dX10_comeFromRoots_64 v_10_70_10 hm_119 [.inr (.inr none)] [] rfl (zT_rt hS s_75 rfl) ⟨by omega, by omega⟩ rfl (zw_mono h (zv_go ?_ ?_))
        · intro S3 hv
          obtain ⟨hS3, h⟩ := hv
          refine zw_sto hm_118 dX10_comeFromRoots_67 [(1, .inl (l1 + (1 : Int32))), (0, .inr (.inr (some 75)))] rfl rfl rfl ?_
          refine zw_goto hm_118 dX10_comeFromRoots_70 (t := 36) rfl ?_
          exact zw_sub (ma_nd_of (ks := [0, 1]) rfl (by decide)) (ma_nd_of (ks := [1, 0]) rfl (by decide)) (ma_le_cons rfl (ma_le_cons rfl (ma_le_nil _))) h
        · intro x S9 hx
          exact ⟨by decide, hx⟩
      · intro hc
        rw [if_neg hc] at h
        refine zw_push hm_81 dX7_thingAt_11 (v := .inr (.inr (some 69))) rfl ?_
        refine zw_gf hm_81 dX7_thingAt_12 (v := .inr (.inr (some 70))) (zT_is hS s_69) (zT_t hS s_69) rfl f_7_11_7 (zT_f hS r_69_0) ?_
        refine zw_push hm_81 dX7_thingAt_15 (v := .inl (mI S 74 l1.toNatClampNeg)) rfl ?_
        obtain ⟨hg, h⟩ := h
        refine zw_aa hm_81 dX7_thingAt_16 (zT_is hS s_70) (zT_h hS s_70) rfl rfl hg rfl ?_
        show ma_wp X (d - 1) (w - 21) 81 17 [(0, .inr (.inr (some 69))), (1, .inl (mI S 74 l1.toNatClampNeg))] [.inr (.inr (mR S 70 (mI S 74 l1.toNatClampNeg).toNatClampNeg))] S _
        refine zw_goto hm_81 dX7_thingAt_17 (t := 21) rfl ?_
        refine zw_aret hm_81 dX7_thingAt_21 ?_
        show ma_wp X d w 118 64 [(0, .inr (.inr (some 75))), (1, .inl l1)] [.inr (.inr (mR S 70 (mI S 74 l1.toNatClampNeg).toNatClampNeg)), .inr (.inr (some 75))] S _
        refine zw_cv hm_118 dX10_comeFromRoots_64 v_10_70_10 hm_119 [.inr (.inr (mR S 70 (mI S 74 l1.toNatClampNeg).toNatClampNeg))] [] rfl (zT_rt hS s_75 rfl) ⟨by omega, by omega⟩ rfl (zw_mono h (zv_go ?_ ?_))
        · intro S5 hv
          obtain ⟨hS5, h⟩ := hv
          refine zw_sto hm_118 dX10_comeFromRoots_67 [(1, .inl (l1 + (1 : Int32))), (0, .inr (.inr (some 75)))] rfl rfl rfl ?_
          refine zw_goto hm_118 dX10_comeFromRoots_70 (t := 36) rfl ?_
          exact zw_sub (ma_nd_of (ks := [0, 1]) rfl (by decide)) (ma_nd_of (ks := [1, 0]) rfl (by decide)) (ma_le_cons rfl (ma_le_cons rfl (ma_le_nil _))) h
        · intro x S9 hx
          exact ⟨by decide, hx⟩
theorem g_118_75_sk_75 {X : Nat × (Nat → Int32)} {d w : Nat} {S : ma_S} {Q : Option ma_V ⊕ Nat → ma_S → Prop} (l1 : Int32) (hd : 1 ≤ d) (hw : 21 ≤ w) (hS : zT S) (h : if (mI S 69 6) ≤ l1 then (Q (.inl none) S) else (if l1 < 0 then (ma_wp X d w 118 75 [(0, .inr (.inr (some 75))), (1, .inl (l1 + (1 : Int32)))] [] S Q) else (if (512 : Int32) ≤ l1 then (ma_wp X d w 118 75 [(0, .inr (.inr (some 75))), (1, .inl (l1 + (1 : Int32)))] [] S Q) else ((0 ≤ l1 ∧ l1.toNatClampNeg < 512) ∧ (((mR S 70 l1.toNatClampNeg) = none → ma_wp X d w 118 75 [(0, .inr (.inr (some 75))), (1, .inl (l1 + (1 : Int32)))] [] S Q) ∧ (∀ c1, (mR S 70 l1.toNatClampNeg) = some c1 → (126 ≤ c1 ∧ c1 < mN S) ∧ (if (mI S c1 7) ≤ 0 then (ma_wp X d w 118 75 [(0, .inr (.inr (some 75))), (1, .inl (l1 + (1 : Int32)))] [] S Q) else (ma_wp X (d - 1) (w - 21) 119 0 [(0, .inr (.inr (some 75))), (1, .inr (.inr (some c1)))] [] S (zv (fun S2 => zT S2 ∧ (ma_wp X d w 118 75 [(0, .inr (.inr (some 75))), (1, .inl (l1 + (1 : Int32)))] [] S2 Q)) (fun x S9 => Q (.inr x) S9)))))))))) : ma_wp X d w 118 75 [(0, .inr (.inr (some 75))), (1, .inl l1)] [] S Q := by
  refine zw_push hm_118 dX10_comeFromRoots_75 (v := .inl l1) rfl ?_
  refine zw_push hm_118 dX10_comeFromRoots_76 (v := .inr (.inr (some 75))) rfl ?_
  refine zw_gf hm_118 dX10_comeFromRoots_77 (v := .inr (.inr (some 69))) (zT_is hS s_75) (zT_t hS s_75) rfl f_10_18_10 (zT_f hS r_75_0) ?_
  refine zw_gf hm_118 dX10_comeFromRoots_80 (v := .inl (mI S 69 6)) (zT_is hS s_69) (zT_t hS s_69) rfl f_10_80_7 rfl ?_
  refine zw_if2 hm_118 dX10_comeFromRoots_83 (t := 117) rfl zc2_ge ?_ ?_
  · intro hc
    rw [if_pos hc] at h
    exact zw_vret hm_118 dX10_comeFromRoots_117 h
  · intro hc
    rw [if_neg hc] at h
    refine zw_push hm_118 dX10_comeFromRoots_86 (v := .inr (.inr (some 75))) rfl ?_
    refine zw_gf hm_118 dX10_comeFromRoots_87 (v := .inr (.inr (some 69))) (zT_is hS s_75) (zT_t hS s_75) rfl f_10_18_10 (zT_f hS r_75_0) ?_
    refine zw_push hm_118 dX10_comeFromRoots_90 (v := .inl l1) rfl ?_
    refine zw_cv hm_118 dX10_comeFromRoots_91 v_10_66_7 hm_81 [.inl l1] [] rfl (zT_rt hS s_69 rfl) ⟨by omega, by omega⟩ rfl ?_
    show ma_wp X (d - 1) (w - 21) 81 0 [(0, .inr (.inr (some 69))), (1, .inl l1)] [] S _
    refine zw_push hm_81 dX7_thingAt_0 (v := .inl l1) rfl ?_
    refine zw_if0 hm_81 dX7_thingAt_1 (t := 20) rfl zc0_lt ?_ ?_
    · intro hc
      rw [if_pos hc] at h
      refine zw_push hm_81 dX7_thingAt_20 (v := .inr (.inr none)) rfl ?_
      refine zw_aret hm_81 dX7_thingAt_21 ?_
      show ma_wp X d w 118 94 [(0, .inr (.inr (some 75))), (1, .inl l1)] [.inr (.inr none)] S _
      refine zw_sto hm_118 dX10_comeFromRoots_94 [(2, .inr (.inr none)), (0, .inr (.inr (some 75))), (1, .inl l1)] rfl rfl rfl ?_
      refine zw_push hm_118 dX10_comeFromRoots_95 (v := .inr (.inr none)) rfl ?_
      refine zw_ifnull hm_118 dX10_comeFromRoots_96 (t := 111) rfl (fun _ => ?_) (fun _ z => by cases z)
      refine zw_sto hm_118 dX10_comeFromRoots_111 [(1, .inl (l1 + (1 : Int32))), (2, .inr (.inr none)), (0, .inr (.inr (some 75)))] rfl rfl rfl ?_
      refine zw_goto hm_118 dX10_comeFromRoots_114 (t := 75) rfl ?_
      exact zw_sub (ma_nd_of (ks := [0, 1]) rfl (by decide)) (ma_nd_of (ks := [1, 2, 0]) rfl (by decide)) (ma_le_cons rfl (ma_le_cons rfl (ma_le_nil _))) h
    · intro hc
      rw [if_neg hc] at h
      refine zw_push hm_81 dX7_thingAt_4 (v := .inl l1) rfl ?_
      refine zw_push hm_81 dX7_thingAt_5 (v := .inl (512 : Int32)) rfl ?_
      refine zw_if2 hm_81 dX7_thingAt_8 (t := 20) rfl zc2_ge ?_ ?_
      · intro hc
        rw [if_pos hc] at h
        refine zw_push hm_81 dX7_thingAt_20 (v := .inr (.inr none)) rfl ?_
        refine zw_aret hm_81 dX7_thingAt_21 ?_
        show ma_wp X d w 118 94 [(0, .inr (.inr (some 75))), (1, .inl l1)] [.inr (.inr none)] S _
        refine zw_sto hm_118 dX10_comeFromRoots_94 [(2, .inr (.inr none)), (0, .inr (.inr (some 75))), (1, .inl l1)] rfl rfl rfl ?_
        refine zw_push hm_118 dX10_comeFromRoots_95 (v := .inr (.inr none)) rfl ?_
        refine zw_ifnull hm_118 dX10_comeFromRoots_96 (t := 111) rfl (fun _ => ?_) (fun _ z => by cases z)
        refine zw_sto hm_118 dX10_comeFromRoots_111 [(1, .inl (l1 + (1 : Int32))), (2, .inr (.inr none)), (0, .inr (.inr (some 75)))] rfl rfl rfl ?_
        refine zw_goto hm_118 dX10_comeFromRoots_114 (t := 75) rfl ?_
        exact zw_sub (ma_nd_of (ks := [0, 1]) rfl (by decide)) (ma_nd_of (ks := [1, 2, 0]) rfl (by decide)) (ma_le_cons rfl (ma_le_cons rfl (ma_le_nil _))) h
      · intro hc
        rw [if_neg hc] at h
        refine zw_push hm_81 dX7_thingAt_11 (v := .inr (.inr (some 69))) rfl ?_
        refine zw_gf hm_81 dX7_thingAt_12 (v := .inr (.inr (some 70))) (zT_is hS s_69) (zT_t hS s_69) rfl f_7_11_7 (zT_f hS r_69_0) ?_
        refine zw_push hm_81 dX7_thingAt_15 (v := .inl l1) rfl ?_
        obtain ⟨hg, h⟩ := h
        refine zw_aa hm_81 dX7_thingAt_16 (zT_is hS s_70) (zT_h hS s_70) rfl rfl hg rfl ?_
        show ma_wp X (d - 1) (w - 21) 81 17 [(0, .inr (.inr (some 69))), (1, .inl l1)] [.inr (.inr (mR S 70 l1.toNatClampNeg))] S _
        refine zw_goto hm_81 dX7_thingAt_17 (t := 21) rfl ?_
        refine zw_aret hm_81 dX7_thingAt_21 ?_
        show ma_wp X d w 118 94 [(0, .inr (.inr (some 75))), (1, .inl l1)] [.inr (.inr (mR S 70 l1.toNatClampNeg))] S _
        refine zw_sto hm_118 dX10_comeFromRoots_94 [(2, .inr (.inr (mR S 70 l1.toNatClampNeg))), (0, .inr (.inr (some 75))), (1, .inl l1)] rfl rfl rfl ?_
        refine zw_push hm_118 dX10_comeFromRoots_95 (v := .inr (.inr (mR S 70 l1.toNatClampNeg))) rfl ?_
        refine zw_ifnull hm_118 dX10_comeFromRoots_96 (t := 111) rfl ?_ ?_
        · intro hc
          have h := h.1 hc
          (try rw [hc])
          show ma_wp X d w 118 111 [(2, .inr (.inr none)), (0, .inr (.inr (some 75))), (1, .inl l1)] [] S _
          refine zw_sto hm_118 dX10_comeFromRoots_111 [(1, .inl (l1 + (1 : Int32))), (2, .inr (.inr none)), (0, .inr (.inr (some 75)))] rfl rfl rfl ?_
          refine zw_goto hm_118 dX10_comeFromRoots_114 (t := 75) rfl ?_
          exact zw_sub (ma_nd_of (ks := [0, 1]) rfl (by decide)) (ma_nd_of (ks := [1, 2, 0]) rfl (by decide)) (ma_le_cons rfl (ma_le_cons rfl (ma_le_nil _))) h
        · intro c1 hc
          have h := h.2 c1 hc
          (try rw [hc])
          show ma_wp X d w 118 99 [(2, .inr (.inr (some c1))), (0, .inr (.inr (some 75))), (1, .inl l1)] [] S _
          refine zw_push hm_118 dX10_comeFromRoots_99 (v := .inr (.inr (some c1))) rfl ?_
          obtain ⟨hg, h⟩ := h
          refine zw_gf hm_118 dX10_comeFromRoots_100 (v := .inl (mI S c1 7)) (zT_tis hS hg) (zT_tt hS hg) rfl f_10_83_9 rfl ?_
          refine zw_if0 hm_118 dX10_comeFromRoots_103 (t := 111) rfl zc0_le ?_ ?_
          · intro hc
            rw [if_pos hc] at h
            refine zw_sto hm_118 dX10_comeFromRoots_111 [(1, .inl (l1 + (1 : Int32))), (2, .inr (.inr (some c1))), (0, .inr (.inr (some 75)))] rfl rfl rfl ?_
            refine zw_goto hm_118 dX10_comeFromRoots_114 (t := 75) rfl ?_
            exact zw_sub (ma_nd_of (ks := [0, 1]) rfl (by decide)) (ma_nd_of (ks := [1, 2, 0]) rfl (by decide)) (ma_le_cons rfl (ma_le_cons rfl (ma_le_nil _))) h
          · intro hc
            rw [if_neg hc] at h
            refine zw_push hm_118 dX10_comeFromRoots_106 (v := .inr (.inr (some 75))) rfl ?_
            refine zw_push hm_118 dX10_comeFromRoots_107 (v := .inr (.inr (some c1))) rfl ?_
            refine zw_cv hm_118 dX10_comeFromRoots_108 v_10_70_10 hm_119 [.inr (.inr (some c1))] [] rfl (zT_rt hS s_75 rfl) ⟨by omega, by omega⟩ rfl (zw_mono h (zv_go ?_ ?_))
            · intro S2 hv
              obtain ⟨hS2, h⟩ := hv
              refine zw_sto hm_118 dX10_comeFromRoots_111 [(1, .inl (l1 + (1 : Int32))), (2, .inr (.inr (some c1))), (0, .inr (.inr (some 75)))] rfl rfl rfl ?_
              refine zw_goto hm_118 dX10_comeFromRoots_114 (t := 75) rfl ?_
              exact zw_sub (ma_nd_of (ks := [0, 1]) rfl (by decide)) (ma_nd_of (ks := [1, 2, 0]) rfl (by decide)) (ma_le_cons rfl (ma_le_cons rfl (ma_le_nil _))) h
            · intro x S9 hx
              exact ⟨by decide, hx⟩
theorem lp_118_75_sk_75 {X : Nat × (Nat → Int32)} {d w : Nat} {f : Nat → Nat → Int32} {r : Nat → Nat → Option Nat} {C Z N : Nat} {Q : Option ma_V ⊕ Nat → ma_S → Prop} {ab : Nat→Nat→Int32} {R : zRT} {a8 : Nat→Nat→Int32} {kk : Nat→Int32} (hd : 1 ≤ d) (hw : 21 ≤ w) (K : ∀ S₉, zI f r C Z N S₉ → (xB S₉ R) → (aS 75 S₉ = aRo ab 0) → (aS 88 S₉ = a8) → (kC S₉ = kk) → Q (.inl none) S₉) : ∀ (n : Nat) (S : ma_S) (l1 : Int32), (512 - l1.toInt).toNat = n → zI f r C Z N S → (0 ≤ l1.toInt) → (xB S R) → (aHo (aS 75 S) l1 = aRo ab 0) → (aS 88 S = a8) → (kC S = kk) → ma_wp X d w 118 75 [(0, .inr (.inr (some 75))), (1, .inl l1)] [] S Q := by
  intro n
  induction n using Nat.strongRecOn with
  | _ n IH =>
    intro S l1 hmu hI  hi0 hi1 hi2 hi3 hi4
    refine g_118_75_sk_75 l1 (by omega) (by omega) (zG_T hI) ?_
    have r6 := congrArg Int32.toInt (aS_I (W := 75) (S := S) (c := 69) (c₉ := 69) (k := 6) rfl rfl)
    have f1 := zG_s hI (0) (512) (c := 69) (k := 6) (by decide)
    have b2 := i_bd l1
    refine zd (fun h3 => ?_) (fun h3 => ?_)
    · skip
      have g4 := i_le h3
      exact K _ hI (show xB S R from by first | (exact (xC_o (W := 75) hi1).2)) (show aS 75 S = aRo ab 0 from by first | (exact (aHo_st (by omega)).symm.trans hi2)) (show aS 88 S = a8 from by first | (exact (xC_o (W := 88) hi1).1.trans hi3)) (show kC S = kk from by first | (exact (xK_o (W := 75) hi1 hi4).2))
    · skip
      have g5 := i_nle h3
      have li6 : (0 : Int32).toInt = 0 := rfl
      refine zd (fun h7 => ?_) (fun h7 => ?_)
      · skip
        have g8 := i_lt h7
        first | have e9 : (l1 + (1 : Int32)).toInt = l1.toInt + (1) := i_addk rfl (by omega) (by omega) | have b10 := i_bd (l1 + (1 : Int32))
        exact IH _ (by omega) _ ((l1 + (1 : Int32))) rfl hI (by omega) (show xB S R from by first | (exact (xC_o (W := 75) hi1).2)) (show aHo (aS 75 S) ((l1 + (1 : Int32))) = aRo ab 0 from by first | (exact (aHo_n (by omega) (fun z => by omega)).symm.trans hi2)) (show aS 88 S = a8 from by first | (exact (xC_o (W := 88) hi1).1.trans hi3)) (show kC S = kk from by first | (exact (xK_o (W := 75) hi1 hi4).2))
      · skip
        have g11 := i_nlt h7
        have li12 : (512 : Int32).toInt = 512 := rfl
        refine zd (fun h13 => ?_) (fun h13 => ?_)
        · skip
          have g14 := i_le h13
          first | have e15 : (l1 + (1 : Int32)).toInt = l1.toInt + (1) := i_addk rfl (by omega) (by omega) | have b16 := i_bd (l1 + (1 : Int32))
          exact IH _ (by omega) _ ((l1 + (1 : Int32))) rfl hI (by omega) (show xB S R from by first | (exact (xC_o (W := 75) hi1).2)) (show aHo (aS 75 S) ((l1 + (1 : Int32))) = aRo ab 0 from by first | (exact (aHo_n (by omega) (fun z => by omega)).symm.trans hi2)) (show aS 88 S = a8 from by first | (exact (xC_o (W := 88) hi1).1.trans hi3)) (show kC S = kk from by first | (exact (xK_o (W := 75) hi1 hi4).2))
        · skip
          have g17 := i_nle h13
          refine ⟨i_ix (by omega) (by omega), ?_⟩
          refine ⟨fun hc => ?_, fun c1 hc => ?_⟩
          · skip
            have rn_c1 : zTa R l1 = none := (ta_rd (y := l1) hi1 (by omega) (by omega)).symm.trans hc
            first | have e18 : (l1 + (1 : Int32)).toInt = l1.toInt + (1) := i_addk rfl (by omega) (by omega) | have b19 := i_bd (l1 + (1 : Int32))
            exact IH _ (by omega) _ ((l1 + (1 : Int32))) rfl hI (by omega) (show xB S R from by first | (exact (xC_o (W := 75) hi1).2)) (show aHo (aS 75 S) ((l1 + (1 : Int32))) = aRo ab 0 from by first | (exact (aHo_n (by omega) (fun z => xB_nt (W := 75) hi1 rn_c1 ⟨z.1, z.2.1, z.2.2.1⟩)).symm.trans hi2)) (show aS 88 S = a8 from by first | (exact (xC_o (W := 88) hi1).1.trans hi3)) (show kC S = kk from by first | (exact (xK_o (W := 75) hi1 hi4).2))
          · skip
            have th_c1 := (fun _ z => zG_70 hI (c := 70) (by decide) z) c1 hc
            have rg_c1 : zTa R l1 = some c1 := (ta_rd (y := l1) hi1 (by omega) (by omega)).symm.trans hc
            refine ⟨zG_n hI th_c1, ?_⟩
            have b20 := i_bd (mI S c1 7)
            refine zd (fun h21 => ?_) (fun h21 => ?_)
            · skip
              have g22 := i_le h21
              first | have e23 : (l1 + (1 : Int32)).toInt = l1.toInt + (1) := i_addk rfl (by omega) (by omega) | have b24 := i_bd (l1 + (1 : Int32))
              exact IH _ (by omega) _ ((l1 + (1 : Int32))) rfl hI (by omega) (show xB S R from by first | (exact (xC_o (W := 75) hi1).2)) (show aHo (aS 75 S) ((l1 + (1 : Int32))) = aRo ab 0 from by first | (have ty := xB_th (W := 75) hi1 rg_c1; have e7 := congrArg Int32.toInt ty.2.2.2.2.2.2.1; exact (aHo_n (by omega) (fun z => by have q := z.2.2.2; omega)).symm.trans hi2)) (show aS 88 S = a8 from by first | (exact (xC_o (W := 88) hi1).1.trans hi3)) (show kC S = kk from by first | (exact (xK_o (W := 75) hi1 hi4).2))
            · skip
              have g25 := i_nle h21
              refine sp_119_75_sk (ab := (aS 75 S)) (R := R) (y := (l1)) (a8 := a8) (kk := kk) ((some c1)) (by omega) (by omega) hI (fun _ z => by cases z; exact th_c1) (show xB S R from by first | (exact (xC_o (W := 75) hi1).2)) (show aS 75 S = (aS 75 S) from by first | (exact rfl)) (show (some c1) = zTa R (l1) from by first | (exact rg_c1.symm)) (show aS 88 S = a8 from by first | (exact (xC_o (W := 88) hi1).1.trans hi3)) (show kC S = kk from by first | (exact (xK_o (W := 75) hi1 hi4).2)) (fun S2 hI_S2 rp0_S2 rp1_S2 rp2_S2 rp3_S2 => zv_n ⟨zG_T hI_S2, ?_⟩)
              have rp0_S2 : xB S2 R := rp0_S2
              have rp1_S2 : aS 75 S2 = aCm (aS 75 S) (l1) := rp1_S2
              have rp2_S2 : aS 88 S2 = a8 := rp2_S2
              have rp3_S2 : kC S2 = kk := rp3_S2
              first | have e26 : (l1 + (1 : Int32)).toInt = l1.toInt + (1) := i_addk rfl (by omega) (by omega) | have b27 := i_bd (l1 + (1 : Int32))
              exact IH _ (by omega) _ ((l1 + (1 : Int32))) rfl hI_S2 (by omega) (show xB S2 R from by first | (exact (xC_o (W := 75) rp0_S2).2)) (show aHo (aS 75 S2) ((l1 + (1 : Int32))) = aRo ab 0 from by first | (have ty := xB_th (W := 75) hi1 rg_c1; have e7 := congrArg Int32.toInt ty.2.2.2.2.2.2.1; rw [rp1_S2]; exact (aHo_y (by omega) ⟨ty.1, ty.2.1, (by rw [ty.2.2.2.2.2.2.2.2]; decide), (by omega)⟩).symm.trans hi2)) (show aS 88 S2 = a8 from by first | (exact (xC_o (W := 88) rp0_S2).1.trans rp2_S2)) (show kC S2 = kk from by first | (exact (xK_o (W := 75) rp0_S2 rp3_S2).2))
theorem lp_118_75_sk_36 {X : Nat × (Nat → Int32)} {d w : Nat} {f : Nat → Nat → Int32} {r : Nat → Nat → Option Nat} {C Z N : Nat} {Q : Option ma_V ⊕ Nat → ma_S → Prop} {ab : Nat→Nat→Int32} {R : zRT} {a8 : Nat→Nat→Int32} {kk : Nat→Int32} (hd : 1 ≤ d) (hw : 21 ≤ w) (K : ∀ S₉, zI f r C Z N S₉ → (xB S₉ R) → (aS 75 S₉ = aRo ab 0) → (aS 88 S₉ = a8) → (kC S₉ = kk) → Q (.inl none) S₉) : ∀ (n : Nat) (S : ma_S) (l1 : Int32), (512 - l1.toInt).toNat = n → zI f r C Z N S → (0 ≤ l1.toInt) → (xB S R) → (aWi (aS 75 S) l1 = aRo ab 0) → (aS 88 S = a8) → (kC S = kk) → ma_wp X d w 118 36 [(0, .inr (.inr (some 75))), (1, .inl l1)] [] S Q := by
  intro n
  induction n using Nat.strongRecOn with
  | _ n IH =>
    intro S l1 hmu hI  hi0 hi1 hi2 hi3 hi4
    refine g_118_75_sk_36 l1 (by omega) (by omega) (zG_T hI) ?_
    have r5 := congrArg Int32.toInt (aS_I (W := 75) (S := S) (c := 69) (c₉ := 69) (k := 5) rfl rfl)
    have f1 := zG_s hI (0) (512) (c := 69) (k := 5) (by decide)
    have b2 := i_bd l1
    refine zd (fun h3 => ?_) (fun h3 => ?_)
    · skip
      have g4 := i_le h3
      have li5 : (0 : Int32).toInt = 0 := rfl
      exact lp_118_75_sk_75 (by omega) (by omega) K _ _ ((0 : Int32)) rfl hI (by omega) (show xB S R from by first | (exact (xC_o (W := 75) hi1).2)) (show aHo (aS 75 S) ((0 : Int32)) = aRo ab 0 from by first | (exact (aWi_st (by omega)).symm.trans hi2)) (show aS 88 S = a8 from by first | (exact (xC_o (W := 88) hi1).1.trans hi3)) (show kC S = kk from by first | (exact (xK_o (W := 75) hi1 hi4).2))
    · skip
      have g6 := i_nle h3
      refine ⟨i_ix (by omega) (by omega), ?_⟩
      have b7 := i_bd (mI S 74 l1.toNatClampNeg)
      have li8 : (0 : Int32).toInt = 0 := rfl
      refine zd (fun h9 => ?_) (fun h9 => ?_)
      · skip
        have g10 := i_lt h9
        refine sp_119_75_sk (ab := (aS 75 S)) (R := R) (y := ((mI S 74 l1.toNatClampNeg))) (a8 := a8) (kk := kk) (none) (by omega) (by omega) hI (fun _ z => by cases z) (show xB S R from by first | (exact (xC_o (W := 75) hi1).2)) (show aS 75 S = (aS 75 S) from by first | (exact rfl)) (show none = zTa R ((mI S 74 l1.toNatClampNeg)) from by first | (exact ta_no (by omega))) (show aS 88 S = a8 from by first | (exact (xC_o (W := 88) hi1).1.trans hi3)) (show kC S = kk from by first | (exact (xK_o (W := 75) hi1 hi4).2)) (fun S1 hI_S1 rp0_S1 rp1_S1 rp2_S1 rp3_S1 => zv_n ⟨zG_T hI_S1, ?_⟩)
        have rp0_S1 : xB S1 R := rp0_S1
        have rp1_S1 : aS 75 S1 = aCm (aS 75 S) ((mI S 74 l1.toNatClampNeg)) := rp1_S1
        have rp2_S1 : aS 88 S1 = a8 := rp2_S1
        have rp3_S1 : kC S1 = kk := rp3_S1
        first | have e11 : (l1 + (1 : Int32)).toInt = l1.toInt + (1) := i_addk rfl (by omega) (by omega) | have b12 := i_bd (l1 + (1 : Int32))
        exact IH _ (by omega) _ ((l1 + (1 : Int32))) rfl hI_S1 (by omega) (show xB S1 R from by first | (exact (xC_o (W := 75) rp0_S1).2)) (show aWi (aS 75 S1) ((l1 + (1 : Int32))) = aRo ab 0 from by first | (rw [rp1_S1, ← (aS_I (W := 75) (S := S) (c := 74) (c₉ := 74) (k := l1.toNatClampNeg) rfl rfl)]; exact (aWi_go (by omega)).symm.trans hi2)) (show aS 88 S1 = a8 from by first | (exact (xC_o (W := 88) rp0_S1).1.trans rp2_S1)) (show kC S1 = kk from by first | (exact (xK_o (W := 75) rp0_S1 rp3_S1).2))
      · skip
        have g13 := i_nlt h9
        have li14 : (512 : Int32).toInt = 512 := rfl
        refine zd (fun h15 => ?_) (fun h15 => ?_)
        · skip
          have g16 := i_le h15
          refine sp_119_75_sk (ab := (aS 75 S)) (R := R) (y := ((mI S 74 l1.toNatClampNeg))) (a8 := a8) (kk := kk) (none) (by omega) (by omega) hI (fun _ z => by cases z) (show xB S R from by first | (exact (xC_o (W := 75) hi1).2)) (show aS 75 S = (aS 75 S) from by first | (exact rfl)) (show none = zTa R ((mI S 74 l1.toNatClampNeg)) from by first | (exact ta_no (by omega))) (show aS 88 S = a8 from by first | (exact (xC_o (W := 88) hi1).1.trans hi3)) (show kC S = kk from by first | (exact (xK_o (W := 75) hi1 hi4).2)) (fun S3 hI_S3 rp0_S3 rp1_S3 rp2_S3 rp3_S3 => zv_n ⟨zG_T hI_S3, ?_⟩)
          have rp0_S3 : xB S3 R := rp0_S3
          have rp1_S3 : aS 75 S3 = aCm (aS 75 S) ((mI S 74 l1.toNatClampNeg)) := rp1_S3
          have rp2_S3 : aS 88 S3 = a8 := rp2_S3
          have rp3_S3 : kC S3 = kk := rp3_S3
          first | have e17 : (l1 + (1 : Int32)).toInt = l1.toInt + (1) := i_addk rfl (by omega) (by omega) | have b18 := i_bd (l1 + (1 : Int32))
          exact IH _ (by omega) _ ((l1 + (1 : Int32))) rfl hI_S3 (by omega) (show xB S3 R from by first | (exact (xC_o (W := 75) rp0_S3).2)) (show aWi (aS 75 S3) ((l1 + (1 : Int32))) = aRo ab 0 from by first | (rw [rp1_S3, ← (aS_I (W := 75) (S := S) (c := 74) (c₉ := 74) (k := l1.toNatClampNeg) rfl rfl)]; exact (aWi_go (by omega)).symm.trans hi2)) (show aS 88 S3 = a8 from by first | (exact (xC_o (W := 88) rp0_S3).1.trans rp2_S3)) (show kC S3 = kk from by first | (exact (xK_o (W := 75) rp0_S3 rp3_S3).2))
        · skip
          have g19 := i_nle h15
          refine ⟨i_ix (by omega) (by omega), ?_⟩
          refine sp_119_75_sk (ab := (aS 75 S)) (R := R) (y := ((mI S 74 l1.toNatClampNeg))) (a8 := a8) (kk := kk) ((mR S 70 (mI S 74 l1.toNatClampNeg).toNatClampNeg)) (by omega) (by omega) hI (fun _ z => zG_70 hI (c := 70) (by decide) z) (show xB S R from by first | (exact (xC_o (W := 75) hi1).2)) (show aS 75 S = (aS 75 S) from by first | (exact rfl)) (show (mR S 70 (mI S 74 l1.toNatClampNeg).toNatClampNeg) = zTa R ((mI S 74 l1.toNatClampNeg)) from by first | (exact ta_rd hi1 (by omega) (by omega))) (show aS 88 S = a8 from by first | (exact (xC_o (W := 88) hi1).1.trans hi3)) (show kC S = kk from by first | (exact (xK_o (W := 75) hi1 hi4).2)) (fun S5 hI_S5 rp0_S5 rp1_S5 rp2_S5 rp3_S5 => zv_n ⟨zG_T hI_S5, ?_⟩)
          have rp0_S5 : xB S5 R := rp0_S5
          have rp1_S5 : aS 75 S5 = aCm (aS 75 S) ((mI S 74 l1.toNatClampNeg)) := rp1_S5
          have rp2_S5 : aS 88 S5 = a8 := rp2_S5
          have rp3_S5 : kC S5 = kk := rp3_S5
          first | have e20 : (l1 + (1 : Int32)).toInt = l1.toInt + (1) := i_addk rfl (by omega) (by omega) | have b21 := i_bd (l1 + (1 : Int32))
          exact IH _ (by omega) _ ((l1 + (1 : Int32))) rfl hI_S5 (by omega) (show xB S5 R from by first | (exact (xC_o (W := 75) rp0_S5).2)) (show aWi (aS 75 S5) ((l1 + (1 : Int32))) = aRo ab 0 from by first | (rw [rp1_S5, ← (aS_I (W := 75) (S := S) (c := 74) (c₉ := 74) (k := l1.toNatClampNeg) rfl rfl)]; exact (aWi_go (by omega)).symm.trans hi2)) (show aS 88 S5 = a8 from by first | (exact (xC_o (W := 88) rp0_S5).1.trans rp2_S5)) (show kC S5 = kk from by first | (exact (xK_o (W := 75) rp0_S5 rp3_S5).2))
theorem lp_118_75_sk_2 {X : Nat × (Nat → Int32)} {d w : Nat} {f : Nat → Nat → Int32} {r : Nat → Nat → Option Nat} {C Z N : Nat} {Q : Option ma_V ⊕ Nat → ma_S → Prop} {ab : Nat→Nat→Int32} {R : zRT} {a8 : Nat→Nat→Int32} {kk : Nat→Int32} (hd : 1 ≤ d) (hw : 21 ≤ w) (K : ∀ S₉, zI f r C Z N S₉ → (xB S₉ R) → (aS 75 S₉ = aRo ab 0) → (aS 88 S₉ = a8) → (kC S₉ = kk) → Q (.inl none) S₉) : ∀ (n : Nat) (S : ma_S) (l1 : Int32), (16 - l1.toInt).toNat = n → zI f r C Z N S → (0 ≤ l1.toInt) → (xB S R) → (aRo (aS 75 S) l1 = aRo ab 0) → (aS 88 S = a8) → (kC S = kk) → ma_wp X d w 118 2 [(0, .inr (.inr (some 75))), (1, .inl l1)] [] S Q := by
  intro n
  induction n using Nat.strongRecOn with
  | _ n IH =>
    intro S l1 hmu hI  hi0 hi1 hi2 hi3 hi4
    refine g_118_75_sk_2 l1 (by omega) (by omega) (zG_T hI) ?_
    have li1 : (16 : Int32).toInt = 16 := rfl
    have b2 := i_bd l1
    refine zd (fun h3 => ?_) (fun h3 => ?_)
    · skip
      have g4 := i_le h3
      have li5 : (0 : Int32).toInt = 0 := rfl
      exact lp_118_75_sk_36 (by omega) (by omega) K _ _ ((0 : Int32)) rfl hI (by omega) (show xB S R from by first | (exact (xC_o (W := 75) hi1).2)) (show aWi (aS 75 S) ((0 : Int32)) = aRo ab 0 from by first | (exact (aRo_st (by omega)).symm.trans hi2)) (show aS 88 S = a8 from by first | (exact (xC_o (W := 88) hi1).1.trans hi3)) (show kC S = kk from by first | (exact (xK_o (W := 75) hi1 hi4).2))
    · skip
      have g6 := i_nle h3
      refine ⟨i_ix (by omega) (by omega), ?_⟩
      have b7 := i_bd (mI S 72 l1.toNatClampNeg)
      have li8 : (0 : Int32).toInt = 0 := rfl
      refine zd (fun h9 => ?_) (fun h9 => ?_)
      · skip
        have g10 := i_lt h9
        refine sp_119_75_sk (ab := (aS 75 S)) (R := R) (y := ((mI S 72 l1.toNatClampNeg))) (a8 := a8) (kk := kk) (none) (by omega) (by omega) hI (fun _ z => by cases z) (show xB S R from by first | (exact (xC_o (W := 75) hi1).2)) (show aS 75 S = (aS 75 S) from by first | (exact rfl)) (show none = zTa R ((mI S 72 l1.toNatClampNeg)) from by first | (exact ta_no (by omega))) (show aS 88 S = a8 from by first | (exact (xC_o (W := 88) hi1).1.trans hi3)) (show kC S = kk from by first | (exact (xK_o (W := 75) hi1 hi4).2)) (fun S1 hI_S1 rp0_S1 rp1_S1 rp2_S1 rp3_S1 => zv_n ⟨zG_T hI_S1, ?_⟩)
        have rp0_S1 : xB S1 R := rp0_S1
        have rp1_S1 : aS 75 S1 = aCm (aS 75 S) ((mI S 72 l1.toNatClampNeg)) := rp1_S1
        have rp2_S1 : aS 88 S1 = a8 := rp2_S1
        have rp3_S1 : kC S1 = kk := rp3_S1
        first | have e11 : (l1 + (1 : Int32)).toInt = l1.toInt + (1) := i_addk rfl (by omega) (by omega) | have b12 := i_bd (l1 + (1 : Int32))
        exact IH _ (by omega) _ ((l1 + (1 : Int32))) rfl hI_S1 (by omega) (show xB S1 R from by first | (exact (xC_o (W := 75) rp0_S1).2)) (show aRo (aS 75 S1) ((l1 + (1 : Int32))) = aRo ab 0 from by first | (rw [rp1_S1, ← (aS_I (W := 75) (S := S) (c := 72) (c₉ := 72) (k := l1.toNatClampNeg) rfl rfl)]; exact (aRo_go (by omega)).symm.trans hi2)) (show aS 88 S1 = a8 from by first | (exact (xC_o (W := 88) rp0_S1).1.trans rp2_S1)) (show kC S1 = kk from by first | (exact (xK_o (W := 75) rp0_S1 rp3_S1).2))
      · skip
        have g13 := i_nlt h9
        have li14 : (512 : Int32).toInt = 512 := rfl
        refine zd (fun h15 => ?_) (fun h15 => ?_)
        · skip
          have g16 := i_le h15
          refine sp_119_75_sk (ab := (aS 75 S)) (R := R) (y := ((mI S 72 l1.toNatClampNeg))) (a8 := a8) (kk := kk) (none) (by omega) (by omega) hI (fun _ z => by cases z) (show xB S R from by first | (exact (xC_o (W := 75) hi1).2)) (show aS 75 S = (aS 75 S) from by first | (exact rfl)) (show none = zTa R ((mI S 72 l1.toNatClampNeg)) from by first | (exact ta_no (by omega))) (show aS 88 S = a8 from by first | (exact (xC_o (W := 88) hi1).1.trans hi3)) (show kC S = kk from by first | (exact (xK_o (W := 75) hi1 hi4).2)) (fun S3 hI_S3 rp0_S3 rp1_S3 rp2_S3 rp3_S3 => zv_n ⟨zG_T hI_S3, ?_⟩)
          have rp0_S3 : xB S3 R := rp0_S3
          have rp1_S3 : aS 75 S3 = aCm (aS 75 S) ((mI S 72 l1.toNatClampNeg)) := rp1_S3
          have rp2_S3 : aS 88 S3 = a8 := rp2_S3
          have rp3_S3 : kC S3 = kk := rp3_S3
          first | have e17 : (l1 + (1 : Int32)).toInt = l1.toInt + (1) := i_addk rfl (by omega) (by omega) | have b18 := i_bd (l1 + (1 : Int32))
          exact IH _ (by omega) _ ((l1 + (1 : Int32))) rfl hI_S3 (by omega) (show xB S3 R from by first | (exact (xC_o (W := 75) rp0_S3).2)) (show aRo (aS 75 S3) ((l1 + (1 : Int32))) = aRo ab 0 from by first | (rw [rp1_S3, ← (aS_I (W := 75) (S := S) (c := 72) (c₉ := 72) (k := l1.toNatClampNeg) rfl rfl)]; exact (aRo_go (by omega)).symm.trans hi2)) (show aS 88 S3 = a8 from by first | (exact (xC_o (W := 88) rp0_S3).1.trans rp2_S3)) (show kC S3 = kk from by first | (exact (xK_o (W := 75) rp0_S3 rp3_S3).2))
        · skip
          have g19 := i_nle h15
          refine ⟨i_ix (by omega) (by omega), ?_⟩
          refine sp_119_75_sk (ab := (aS 75 S)) (R := R) (y := ((mI S 72 l1.toNatClampNeg))) (a8 := a8) (kk := kk) ((mR S 70 (mI S 72 l1.toNatClampNeg).toNatClampNeg)) (by omega) (by omega) hI (fun _ z => zG_70 hI (c := 70) (by decide) z) (show xB S R from by first | (exact (xC_o (W := 75) hi1).2)) (show aS 75 S = (aS 75 S) from by first | (exact rfl)) (show (mR S 70 (mI S 72 l1.toNatClampNeg).toNatClampNeg) = zTa R ((mI S 72 l1.toNatClampNeg)) from by first | (exact ta_rd hi1 (by omega) (by omega))) (show aS 88 S = a8 from by first | (exact (xC_o (W := 88) hi1).1.trans hi3)) (show kC S = kk from by first | (exact (xK_o (W := 75) hi1 hi4).2)) (fun S5 hI_S5 rp0_S5 rp1_S5 rp2_S5 rp3_S5 => zv_n ⟨zG_T hI_S5, ?_⟩)
          have rp0_S5 : xB S5 R := rp0_S5
          have rp1_S5 : aS 75 S5 = aCm (aS 75 S) ((mI S 72 l1.toNatClampNeg)) := rp1_S5
          have rp2_S5 : aS 88 S5 = a8 := rp2_S5
          have rp3_S5 : kC S5 = kk := rp3_S5
          first | have e20 : (l1 + (1 : Int32)).toInt = l1.toInt + (1) := i_addk rfl (by omega) (by omega) | have b21 := i_bd (l1 + (1 : Int32))
          exact IH _ (by omega) _ ((l1 + (1 : Int32))) rfl hI_S5 (by omega) (show xB S5 R from by first | (exact (xC_o (W := 75) rp0_S5).2)) (show aRo (aS 75 S5) ((l1 + (1 : Int32))) = aRo ab 0 from by first | (rw [rp1_S5, ← (aS_I (W := 75) (S := S) (c := 72) (c₉ := 72) (k := l1.toNatClampNeg) rfl rfl)]; exact (aRo_go (by omega)).symm.trans hi2)) (show aS 88 S5 = a8 from by first | (exact (xC_o (W := 88) rp0_S5).1.trans rp2_S5)) (show kC S5 = kk from by first | (exact (xK_o (W := 75) rp0_S5 rp3_S5).2))
theorem sp_118_75_sk {X : Nat × (Nat → Int32)} {d w : Nat} {f : Nat → Nat → Int32} {r : Nat → Nat → Option Nat} {C Z N : Nat} {Q : Option ma_V ⊕ Nat → ma_S → Prop} {ab : Nat→Nat→Int32} {R : zRT} {a8 : Nat→Nat→Int32} {kk : Nat→Int32} {S : ma_S}  (hd : 1 ≤ d) (hw : 21 ≤ w) (hI : zI f r C Z N S) (hpre0 : xB S R) (hpre1 : aS 75 S = ab) (hpre2 : aS 88 S = a8) (hpre3 : kC S = kk) (K : ∀ S₉, zI f r C Z N S₉ → (xB S₉ R) → (aS 75 S₉ = aRo ab 0) → (aS 88 S₉ = a8) → (kC S₉ = kk) → Q (.inl none) S₉) : ma_wp X d w 118 0 [(0, .inr (.inr (some 75)))] [] S Q := by
  refine g_118_75_sk_0  (by omega) (by omega) (zG_T hI) ?_
  have li1 : (0 : Int32).toInt = 0 := rfl
  exact lp_118_75_sk_2 (by omega) (by omega) K _ _ ((0 : Int32)) rfl hI (by omega) (show xB S R from by first | (exact (xC_o (W := 75) hpre0).2)) (show aRo (aS 75 S) ((0 : Int32)) = aRo ab 0 from by first | (rw [hpre1])) (show aS 88 S = a8 from by first | (exact (xC_o (W := 88) hpre0).1.trans hpre2)) (show kC S = kk from by first | (exact (xK_o (W := 75) hpre0 hpre3).2))

