/-! from 94.414 -/
/-! the reference (written by wip/tools/gen94m.py) -/
set_option maxRecDepth 100000 in
theorem hm_198 : ma_md 198 = some (12, yX12_unweak, cX12_unweak, 3, none) := rfl
theorem s_113 : zs 113 = some (20, 16) := rfl
theorem r_94_52 : zfi 94 52 = some 113 := rfl
theorem f_12_71_12 : ma_fld 12 71 12 = some 52 := by decide +kernel
theorem dX12_unweak_0 : decode cX12_unweak 0 = .ok (.iconst 0, 1) := by decide +kernel
theorem dX12_unweak_1 : decode cX12_unweak 1 = .ok (.istore_n 2, 1) := by decide +kernel
theorem dX12_unweak_2 : decode cX12_unweak 2 = .ok (.iload_n 2, 1) := by decide +kernel
theorem dX12_unweak_3 : decode cX12_unweak 3 = .ok (.bipush 16, 2) := by decide +kernel
theorem dX12_unweak_31 : decode cX12_unweak 31 = .ok (.return_, 1) := by decide +kernel
theorem dX12_unweak_8 : decode cX12_unweak 8 = .ok (.aload_n 0, 1) := by decide +kernel
theorem dX12_unweak_12 : decode cX12_unweak 12 = .ok (.iload_n 2, 1) := by decide +kernel
theorem dX12_unweak_14 : decode cX12_unweak 14 = .ok (.iload_n 1, 1) := by decide +kernel
theorem dX12_unweak_25 : decode cX12_unweak 25 = .ok (.iinc 2 1, 3) := by decide +kernel
theorem dX12_unweak_28 : decode cX12_unweak 28 = .ok (.goto (-26), 3) := by decide +kernel
theorem dX12_unweak_18 : decode cX12_unweak 18 = .ok (.aload_n 0, 1) := by decide +kernel
theorem dX12_unweak_22 : decode cX12_unweak 22 = .ok (.iload_n 2, 1) := by decide +kernel
theorem dX12_unweak_23 : decode cX12_unweak 23 = .ok (.iconst (-1), 1) := by decide +kernel
theorem dX12_unweak_24 : decode cX12_unweak 24 = .ok (.iastore, 1) := by decide +kernel
theorem dX12_unweak_19 : decode cX12_unweak 19 = .ok (.getfield 71, 3) := by decide +kernel
theorem dX12_unweak_15 : decode cX12_unweak 15 = .ok (.if_icmp .ne 10, 3) := by decide +kernel
theorem dX12_unweak_13 : decode cX12_unweak 13 = .ok (.iaload, 1) := by decide +kernel
theorem dX12_unweak_9 : decode cX12_unweak 9 = .ok (.getfield 71, 3) := by decide +kernel
theorem dX12_unweak_5 : decode cX12_unweak 5 = .ok (.if_icmp .ge 26, 3) := by decide +kernel
def wr_198 (c _ : Nat) : Bool := Nat.beq c 113
theorem g_198_0 {X : Nat × (Nat → Int32)} {m : Nat → Nat → Int32} {P : Option ma_V → (Nat → Nat → Int32) → Prop} (s : Int32) (h : zm X 0 0 198 2 [(0, .inr (.inr (some 94))), (1, .inl s), (2, .inl (0 : Int32))] m P) : zm X 0 0 198 0 [(0, .inr (.inr (some 94))), (1, .inl s)] m P := by
  intro d w S Q hd hw hS hm HQ
  subst hm
  refine zw_push hm_198 dX12_unweak_0 (v := .inl (0 : Int32)) rfl ?_
  refine zw_sto hm_198 dX12_unweak_1 [(2, .inl (0 : Int32)), (0, .inr (.inr (some 94))), (1, .inl s)] rfl rfl rfl ?_
  exact zw_sub (ma_nd_of (ks := [0, 1, 2]) rfl (by decide)) (ma_nd_of (ks := [2, 0, 1]) rfl (by decide)) (ma_le_cons rfl (ma_le_cons rfl (ma_le_cons rfl (ma_le_nil _)))) (h d w _ Q (by omega) (by omega) hS rfl HQ)
theorem g_198_2 {X : Nat × (Nat → Int32)} {m : Nat → Nat → Int32} {P : Option ma_V → (Nat → Nat → Int32) → Prop} (l1 : Int32) (l2 : Int32) (h : if (16 : Int32) ≤ l2 then (P none m) else ((0 ≤ l2 ∧ l2.toNatClampNeg < 16) ∧ (if (m 113 l2.toNatClampNeg) = l1 then ((0 ≤ l2 ∧ l2.toNatClampNeg < 16) ∧ (zm X 0 0 198 2 [(0, .inr (.inr (some 94))), (1, .inl l1), (2, .inl (l2 + (1 : Int32)))] (ma_u m 113 l2.toNatClampNeg (-1 : Int32)) P)) else (zm X 0 0 198 2 [(0, .inr (.inr (some 94))), (1, .inl l1), (2, .inl (l2 + (1 : Int32)))] m P)))) : zm X 0 0 198 2 [(0, .inr (.inr (some 94))), (1, .inl l1), (2, .inl l2)] m P := by
  intro d w S Q hd hw hS hm HQ
  subst hm
  refine zw_push hm_198 dX12_unweak_2 (v := .inl l2) rfl ?_
  refine zw_push hm_198 dX12_unweak_3 (v := .inl (16 : Int32)) rfl ?_
  refine zw_if2 hm_198 dX12_unweak_5 (t := 31) rfl zc2_ge ?_ ?_
  · intro hc
    rw [if_pos hc] at h
    exact zw_vret hm_198 dX12_unweak_31 (HQ _ _ h)
  · intro hc
    rw [if_neg hc] at h
    refine zw_push hm_198 dX12_unweak_8 (v := .inr (.inr (some 94))) rfl ?_
    refine zw_gf hm_198 dX12_unweak_9 (v := .inr (.inr (some 113))) (zT_is hS s_94) (zT_t hS s_94) rfl f_12_71_12 (zT_f hS r_94_52) ?_
    refine zw_push hm_198 dX12_unweak_12 (v := .inl l2) rfl ?_
    obtain ⟨hg, h⟩ := h
    refine zw_ia hm_198 dX12_unweak_13 (zT_is hS s_113) (zT_h hS s_113) rfl hg ?_
    show ma_wp X d w 198 14 [(0, .inr (.inr (some 94))), (1, .inl l1), (2, .inl l2)] [.inl ((mI S) 113 l2.toNatClampNeg)] S _
    refine zw_push hm_198 dX12_unweak_14 (v := .inl l1) rfl ?_
    refine zw_if2 hm_198 dX12_unweak_15 (t := 25) rfl zc2_ne ?_ ?_
    · intro hc
      rw [if_neg hc] at h
      refine zw_sto hm_198 dX12_unweak_25 [(2, .inl (l2 + (1 : Int32))), (0, .inr (.inr (some 94))), (1, .inl l1)] rfl rfl rfl ?_
      refine zw_goto hm_198 dX12_unweak_28 (t := 2) rfl ?_
      exact zw_sub (ma_nd_of (ks := [0, 1, 2]) rfl (by decide)) (ma_nd_of (ks := [2, 0, 1]) rfl (by decide)) (ma_le_cons rfl (ma_le_cons rfl (ma_le_cons rfl (ma_le_nil _)))) (h d w _ Q (by omega) (by omega) hS rfl HQ)
    · intro hc
      rw [if_pos (Classical.not_not.mp hc)] at h
      refine zw_push hm_198 dX12_unweak_18 (v := .inr (.inr (some 94))) rfl ?_
      refine zw_gf hm_198 dX12_unweak_19 (v := .inr (.inr (some 113))) (zT_is hS s_94) (zT_t hS s_94) rfl f_12_71_12 (zT_f hS r_94_52) ?_
      refine zw_push hm_198 dX12_unweak_22 (v := .inl l2) rfl ?_
      refine zw_push hm_198 dX12_unweak_23 (v := .inl (-1 : Int32)) rfl ?_
      obtain ⟨hg, h⟩ := h
      refine zw_ias hm_198 dX12_unweak_24 (zT_is hS s_113) (zT_h hS s_113) rfl hg ?_
      refine zw_sto hm_198 dX12_unweak_25 [(2, .inl (l2 + (1 : Int32))), (0, .inr (.inr (some 94))), (1, .inl l1)] rfl rfl rfl ?_
      refine zw_goto hm_198 dX12_unweak_28 (t := 2) rfl ?_
      exact zw_sub (ma_nd_of (ks := [0, 1, 2]) rfl (by decide)) (ma_nd_of (ks := [2, 0, 1]) rfl (by decide)) (ma_le_cons rfl (ma_le_cons rfl (ma_le_cons rfl (ma_le_nil _)))) (h d w _ Q (by omega) (by omega) (zT_pi hS) rfl HQ)
theorem lp_198_2 {X : Nat × (Nat → Int32)} {P : Option ma_V → (Nat → Nat → Int32) → Prop} {s : Int32} {m0 : Nat → Nat → Int32} (h0 : zV m0) (K : ∀ m₉, zF wr_198 m0 m₉ → zV m₉ → (zuw (m0 113) (m₉ 113)) → P none m₉) : ∀ (n : Nat) (m : Nat → Nat → Int32) (l1 : Int32) (l2 : Int32), (16 - l2.toInt).toNat = n → zF wr_198 m0 m → zV m → (0 ≤ l2.toInt) → (zuw (m0 113) (m 113)) → zm X 0 0 198 2 [(0, .inr (.inr (some 94))), (1, .inl l1), (2, .inl l2)] m P := by
  intro n
  induction n using Nat.strongRecOn with
  | _ n IH =>
    intro m l1 l2 hmu hF hV hi0 r_UW
    refine g_198_2 l1 l2 ?_
    have li1 : (16 : Int32).toInt = 16 := rfl
    have b2 := i_bd l2
    refine zd (fun (h3 : (16 : Int32) ≤ l2) => ?_) (fun (h3 : ¬ (16 : Int32) ≤ l2) => ?_)
    · skip
      have g4 := i_le h3
      exact K _ hF hV r_UW
    · skip
      have g5 := i_nle h3
      have hg6 : (0 ≤ l2 ∧ l2.toNatClampNeg < 16) := i_ix (by omega) (by omega)
      refine ⟨hg6, ?_⟩
      first | have f7 : -1 ≤ (m 113 l2.toNatClampNeg).toInt ∧ (m 113 l2.toNatClampNeg).toInt ≤ 3099 := ra_113 (m := m) hV (k := l2.toNatClampNeg) (i_ix (n := 16) (by omega) (by omega)).2 | have b8 := i_bd (m 113 l2.toNatClampNeg)
      have b9 := i_bd l1
      refine zd (fun (h10 : (m 113 l2.toNatClampNeg) = l1) => ?_) (fun (h10 : ¬ (m 113 l2.toNatClampNeg) = l1) => ?_)
      · skip
        have g11 := i_eq h10
        have hg12 : (0 ≤ l2 ∧ l2.toNatClampNeg < 16) := i_ix (by omega) (by omega)
        refine ⟨hg12, ?_⟩
        have li14 : (-1 : Int32).toInt = -1 := rfl
        have hV13 : zV (ma_u m 113 l2.toNatClampNeg (-1 : Int32)) := ua_113 hV (by omega) (by omega)
        first | have e15 : (l2 + (1 : Int32)).toInt = l2.toInt + (1) := i_addk rfl (by omega) (by omega) | have b16 := i_bd (l2 + (1 : Int32))
        exact IH (16 - (l2 + (1 : Int32)).toInt).toNat (by omega) _ (l1) ((l2 + (1 : Int32))) rfl (zF_u hF rfl) hV13 (by omega) (show zuw (m0 113) ((ma_u m 113 l2.toNatClampNeg (-1 : Int32)) 113) from by first | (exact zuw_put r_UW (by decide)) | (exfalso; omega; done) | (exfalso; contradiction; done))
      · skip
        have g17 := i_ne h10
        first | have e18 : (l2 + (1 : Int32)).toInt = l2.toInt + (1) := i_addk rfl (by omega) (by omega) | have b19 := i_bd (l2 + (1 : Int32))
        exact IH (16 - (l2 + (1 : Int32)).toInt).toNat (by omega) _ (l1) ((l2 + (1 : Int32))) rfl hF hV (by omega) r_UW
theorem sp_198 {X : Nat × (Nat → Int32)} {P : Option ma_V → (Nat → Nat → Int32) → Prop} {m : Nat → Nat → Int32} (s : Int32) (hV : zV m)  (KZ : ∀ m₉, zV (zov wr_198 m m₉) → (zuw (m 113) (m₉ 113)) → P none (zov wr_198 m m₉)) : zm X 0 0 198 0 [(0, .inr (.inr (some 94))), (1, .inl s)] m P := by
  have K : ∀ m₉, zF wr_198 m m₉ → zV m₉ → (zuw (m 113) (m₉ 113)) → P none m₉ := by
    intro m₉ hf z q0
    have e := zov_eq hf
    rw [e] at z ⊢
    try rw [e] at q0
    exact KZ m₉ z q0
  refine g_198_0 s ?_
  have b1 := i_bd s
  have li2 : (0 : Int32).toInt = 0 := rfl
  exact lp_198_2 (s := s) hV K _ _ (s) ((0 : Int32)) rfl zF_rfl hV (by omega) (show zuw (m 113) (m 113) from by first | (exact zuw_rfl) | (exfalso; omega; done) | (exfalso; contradiction; done))
set_option maxRecDepth 100000 in
theorem hm_199 : ma_md 199 = some (12, yX12_unweakRest, cX12_unweakRest, 2, none) := rfl
theorem dX12_unweakRest_0 : decode cX12_unweakRest 0 = .ok (.iconst 0, 1) := by decide +kernel
theorem dX12_unweakRest_1 : decode cX12_unweakRest 1 = .ok (.istore_n 1, 1) := by decide +kernel
theorem dX12_unweakRest_2 : decode cX12_unweakRest 2 = .ok (.iload_n 1, 1) := by decide +kernel
theorem dX12_unweakRest_3 : decode cX12_unweakRest 3 = .ok (.bipush 16, 2) := by decide +kernel
theorem dX12_unweakRest_44 : decode cX12_unweakRest 44 = .ok (.return_, 1) := by decide +kernel
theorem dX12_unweakRest_8 : decode cX12_unweakRest 8 = .ok (.aload_n 0, 1) := by decide +kernel
theorem dX12_unweakRest_12 : decode cX12_unweakRest 12 = .ok (.iload_n 1, 1) := by decide +kernel
theorem dX12_unweakRest_38 : decode cX12_unweakRest 38 = .ok (.iinc 1 1, 3) := by decide +kernel
theorem dX12_unweakRest_41 : decode cX12_unweakRest 41 = .ok (.goto (-39), 3) := by decide +kernel
theorem dX12_unweakRest_17 : decode cX12_unweakRest 17 = .ok (.aload_n 0, 1) := by decide +kernel
theorem dX12_unweakRest_21 : decode cX12_unweakRest 21 = .ok (.aload_n 0, 1) := by decide +kernel
theorem dX12_unweakRest_25 : decode cX12_unweakRest 25 = .ok (.iload_n 1, 1) := by decide +kernel
theorem dX12_unweakRest_31 : decode cX12_unweakRest 31 = .ok (.aload_n 0, 1) := by decide +kernel
theorem dX12_unweakRest_35 : decode cX12_unweakRest 35 = .ok (.iload_n 1, 1) := by decide +kernel
theorem dX12_unweakRest_36 : decode cX12_unweakRest 36 = .ok (.iconst (-1), 1) := by decide +kernel
theorem dX12_unweakRest_37 : decode cX12_unweakRest 37 = .ok (.iastore, 1) := by decide +kernel
theorem dX12_unweakRest_32 : decode cX12_unweakRest 32 = .ok (.getfield 71, 3) := by decide +kernel
theorem dX12_unweakRest_28 : decode cX12_unweakRest 28 = .ok (.ifCond .ne 10, 3) := by decide +kernel
theorem dX12_unweakRest_27 : decode cX12_unweakRest 27 = .ok (.baload, 1) := by decide +kernel
theorem dX12_unweakRest_26 : decode cX12_unweakRest 26 = .ok (.iaload, 1) := by decide +kernel
theorem dX12_unweakRest_22 : decode cX12_unweakRest 22 = .ok (.getfield 71, 3) := by decide +kernel
theorem dX12_unweakRest_18 : decode cX12_unweakRest 18 = .ok (.getfield 62, 3) := by decide +kernel
theorem dX12_unweakRest_14 : decode cX12_unweakRest 14 = .ok (.ifCond .lt 24, 3) := by decide +kernel
theorem dX12_unweakRest_13 : decode cX12_unweakRest 13 = .ok (.iaload, 1) := by decide +kernel
theorem dX12_unweakRest_9 : decode cX12_unweakRest 9 = .ok (.getfield 71, 3) := by decide +kernel
theorem dX12_unweakRest_5 : decode cX12_unweakRest 5 = .ok (.if_icmp .ge 39, 3) := by decide +kernel
def wr_199 (c _ : Nat) : Bool := Nat.beq c 113
theorem g_199_0 {X : Nat × (Nat → Int32)} {m : Nat → Nat → Int32} {P : Option ma_V → (Nat → Nat → Int32) → Prop}  (h : zm X 0 0 199 2 [(0, .inr (.inr (some 94))), (1, .inl (0 : Int32))] m P) : zm X 0 0 199 0 [(0, .inr (.inr (some 94)))] m P := by
  intro d w S Q hd hw hS hm HQ
  subst hm
  refine zw_push hm_199 dX12_unweakRest_0 (v := .inl (0 : Int32)) rfl ?_
  refine zw_sto hm_199 dX12_unweakRest_1 [(1, .inl (0 : Int32)), (0, .inr (.inr (some 94)))] rfl rfl rfl ?_
  exact zw_sub (ma_nd_of (ks := [0, 1]) rfl (by decide)) (ma_nd_of (ks := [1, 0]) rfl (by decide)) (ma_le_cons rfl (ma_le_cons rfl (ma_le_nil _))) (h d w _ Q (by omega) (by omega) hS rfl HQ)
theorem g_199_2 {X : Nat × (Nat → Int32)} {m : Nat → Nat → Int32} {P : Option ma_V → (Nat → Nat → Int32) → Prop} (l1 : Int32) (h : if (16 : Int32) ≤ l1 then (P none m) else ((0 ≤ l1 ∧ l1.toNatClampNeg < 16) ∧ (if (m 113 l1.toNatClampNeg) < 0 then (zm X 0 0 199 2 [(0, .inr (.inr (some 94))), (1, .inl (l1 + (1 : Int32)))] m P) else ((0 ≤ l1 ∧ l1.toNatClampNeg < 16) ∧ ((0 ≤ (m 113 l1.toNatClampNeg) ∧ (m 113 l1.toNatClampNeg).toNatClampNeg < 3100) ∧ (if (m 110 (m 113 l1.toNatClampNeg).toNatClampNeg) = 0 then ((0 ≤ l1 ∧ l1.toNatClampNeg < 16) ∧ (zm X 0 0 199 2 [(0, .inr (.inr (some 94))), (1, .inl (l1 + (1 : Int32)))] (ma_u m 113 l1.toNatClampNeg (-1 : Int32)) P)) else (zm X 0 0 199 2 [(0, .inr (.inr (some 94))), (1, .inl (l1 + (1 : Int32)))] m P))))))) : zm X 0 0 199 2 [(0, .inr (.inr (some 94))), (1, .inl l1)] m P := by
  intro d w S Q hd hw hS hm HQ
  subst hm
  refine zw_push hm_199 dX12_unweakRest_2 (v := .inl l1) rfl ?_
  refine zw_push hm_199 dX12_unweakRest_3 (v := .inl (16 : Int32)) rfl ?_
  refine zw_if2 hm_199 dX12_unweakRest_5 (t := 44) rfl zc2_ge ?_ ?_
  · intro hc
    rw [if_pos hc] at h
    exact zw_vret hm_199 dX12_unweakRest_44 (HQ _ _ h)
  · intro hc
    rw [if_neg hc] at h
    refine zw_push hm_199 dX12_unweakRest_8 (v := .inr (.inr (some 94))) rfl ?_
    refine zw_gf hm_199 dX12_unweakRest_9 (v := .inr (.inr (some 113))) (zT_is hS s_94) (zT_t hS s_94) rfl f_12_71_12 (zT_f hS r_94_52) ?_
    refine zw_push hm_199 dX12_unweakRest_12 (v := .inl l1) rfl ?_
    obtain ⟨hg, h⟩ := h
    refine zw_ia hm_199 dX12_unweakRest_13 (zT_is hS s_113) (zT_h hS s_113) rfl hg ?_
    show ma_wp X d w 199 14 [(0, .inr (.inr (some 94))), (1, .inl l1)] [.inl ((mI S) 113 l1.toNatClampNeg)] S _
    refine zw_if0 hm_199 dX12_unweakRest_14 (t := 38) rfl zc0_lt ?_ ?_
    · intro hc
      rw [if_pos hc] at h
      refine zw_sto hm_199 dX12_unweakRest_38 [(1, .inl (l1 + (1 : Int32))), (0, .inr (.inr (some 94)))] rfl rfl rfl ?_
      refine zw_goto hm_199 dX12_unweakRest_41 (t := 2) rfl ?_
      exact zw_sub (ma_nd_of (ks := [0, 1]) rfl (by decide)) (ma_nd_of (ks := [1, 0]) rfl (by decide)) (ma_le_cons rfl (ma_le_cons rfl (ma_le_nil _))) (h d w _ Q (by omega) (by omega) hS rfl HQ)
    · intro hc
      rw [if_neg hc] at h
      refine zw_push hm_199 dX12_unweakRest_17 (v := .inr (.inr (some 94))) rfl ?_
      refine zw_gf hm_199 dX12_unweakRest_18 (v := .inr (.inr (some 110))) (zT_is hS s_94) (zT_t hS s_94) rfl f_12_62_12 (zT_f hS r_94_42) ?_
      refine zw_push hm_199 dX12_unweakRest_21 (v := .inr (.inr (some 94))) rfl ?_
      refine zw_gf hm_199 dX12_unweakRest_22 (v := .inr (.inr (some 113))) (zT_is hS s_94) (zT_t hS s_94) rfl f_12_71_12 (zT_f hS r_94_52) ?_
      refine zw_push hm_199 dX12_unweakRest_25 (v := .inl l1) rfl ?_
      obtain ⟨hg, h⟩ := h
      refine zw_ia hm_199 dX12_unweakRest_26 (zT_is hS s_113) (zT_h hS s_113) rfl hg ?_
      show ma_wp X d w 199 27 [(0, .inr (.inr (some 94))), (1, .inl l1)] [.inl ((mI S) 113 l1.toNatClampNeg), .inr (.inr (some 110))] S _
      obtain ⟨hg, h⟩ := h
      refine zw_ba hm_199 dX12_unweakRest_27 (zT_is hS s_110) (zT_h hS s_110) rfl rfl hg ?_
      show ma_wp X d w 199 28 [(0, .inr (.inr (some 94))), (1, .inl l1)] [.inl ((mI S) 110 ((mI S) 113 l1.toNatClampNeg).toNatClampNeg)] S _
      refine zw_if0 hm_199 dX12_unweakRest_28 (t := 38) rfl zc0_ne ?_ ?_
      · intro hc
        rw [if_neg hc] at h
        refine zw_sto hm_199 dX12_unweakRest_38 [(1, .inl (l1 + (1 : Int32))), (0, .inr (.inr (some 94)))] rfl rfl rfl ?_
        refine zw_goto hm_199 dX12_unweakRest_41 (t := 2) rfl ?_
        exact zw_sub (ma_nd_of (ks := [0, 1]) rfl (by decide)) (ma_nd_of (ks := [1, 0]) rfl (by decide)) (ma_le_cons rfl (ma_le_cons rfl (ma_le_nil _))) (h d w _ Q (by omega) (by omega) hS rfl HQ)
      · intro hc
        rw [if_pos (Classical.not_not.mp hc)] at h
        refine zw_push hm_199 dX12_unweakRest_31 (v := .inr (.inr (some 94))) rfl ?_
        refine zw_gf hm_199 dX12_unweakRest_32 (v := .inr (.inr (some 113))) (zT_is hS s_94) (zT_t hS s_94) rfl f_12_71_12 (zT_f hS r_94_52) ?_
        refine zw_push hm_199 dX12_unweakRest_35 (v := .inl l1) rfl ?_
        refine zw_push hm_199 dX12_unweakRest_36 (v := .inl (-1 : Int32)) rfl ?_
        obtain ⟨hg, h⟩ := h
        refine zw_ias hm_199 dX12_unweakRest_37 (zT_is hS s_113) (zT_h hS s_113) rfl hg ?_
        refine zw_sto hm_199 dX12_unweakRest_38 [(1, .inl (l1 + (1 : Int32))), (0, .inr (.inr (some 94)))] rfl rfl rfl ?_
        refine zw_goto hm_199 dX12_unweakRest_41 (t := 2) rfl ?_
        exact zw_sub (ma_nd_of (ks := [0, 1]) rfl (by decide)) (ma_nd_of (ks := [1, 0]) rfl (by decide)) (ma_le_cons rfl (ma_le_cons rfl (ma_le_nil _))) (h d w _ Q (by omega) (by omega) (zT_pi hS) rfl HQ)
theorem lp_199_2 {X : Nat × (Nat → Int32)} {P : Option ma_V → (Nat → Nat → Int32) → Prop} {m0 : Nat → Nat → Int32} (h0 : zV m0) (K : ∀ m₉, zF wr_199 m0 m₉ → zV m₉ → (zuw (m0 113) (m₉ 113)) → (zcov (m₉ 110) (m₉ 113) 16) → P none m₉) : ∀ (n : Nat) (m : Nat → Nat → Int32) (l1 : Int32), (16 - l1.toInt).toNat = n → zF wr_199 m0 m → zV m → (0 ≤ l1.toInt) → (zuw (m0 113) (m 113)) → (zcov (m 110) (m 113) l1.toInt) → zm X 0 0 199 2 [(0, .inr (.inr (some 94))), (1, .inl l1)] m P := by
  intro n
  induction n using Nat.strongRecOn with
  | _ n IH =>
    intro m l1 hmu hF hV hi0 r_UW r_COVK
    refine g_199_2 l1 ?_
    have li1 : (16 : Int32).toInt = 16 := rfl
    have b2 := i_bd l1
    refine zd (fun (h3 : (16 : Int32) ≤ l1) => ?_) (fun (h3 : ¬ (16 : Int32) ≤ l1) => ?_)
    · skip
      have g4 := i_le h3
      exact K _ hF hV r_UW (show zcov (m 110) (m 113) 16 from by first | (exact cov_cut r_COVK (by omega)) | (exact fun hp => cov_0 (by decide)) | (exact fun hp => cov_one (r_COVK hp) rfl (by omega) (by omega) (Or.inl (by omega))) | (exact fun hp => cov_one (r_COVK hp) rfl (by omega) (by omega) (Or.inr (by assumption))) | (exact fun hp => cov_cut (r_COVK hp) (by omega)) | (exfalso; omega; done) | (exfalso; contradiction; done))
    · skip
      have g5 := i_nle h3
      have hg6 : (0 ≤ l1 ∧ l1.toNatClampNeg < 16) := i_ix (by omega) (by omega)
      refine ⟨hg6, ?_⟩
      first | have f7 : -1 ≤ (m 113 l1.toNatClampNeg).toInt ∧ (m 113 l1.toNatClampNeg).toInt ≤ 3099 := ra_113 (m := m) hV (k := l1.toNatClampNeg) (i_ix (n := 16) (by omega) (by omega)).2 | have b8 := i_bd (m 113 l1.toNatClampNeg)
      have li9 : (0 : Int32).toInt = 0 := rfl
      refine zd (fun (h10 : (m 113 l1.toNatClampNeg) < (0 : Int32)) => ?_) (fun (h10 : ¬ (m 113 l1.toNatClampNeg) < (0 : Int32)) => ?_)
      · skip
        have g11 := i_lt h10
        first | have e12 : (l1 + (1 : Int32)).toInt = l1.toInt + (1) := i_addk rfl (by omega) (by omega) | have b13 := i_bd (l1 + (1 : Int32))
        exact IH (16 - (l1 + (1 : Int32)).toInt).toNat (by omega) _ ((l1 + (1 : Int32))) rfl hF hV (by omega) r_UW (show zcov (m 110) (m 113) (l1 + (1 : Int32)).toInt from by first | (exact cov_one r_COVK rfl (by omega) (by omega) (Or.inl (by omega))) | (exact cov_one r_COVK rfl (by omega) (by omega) (Or.inr (by assumption))) | (exact fun hp => cov_0 (by decide)) | (exact fun hp => cov_one (r_COVK hp) rfl (by omega) (by omega) (Or.inl (by omega))) | (exact fun hp => cov_one (r_COVK hp) rfl (by omega) (by omega) (Or.inr (by assumption))) | (exact fun hp => cov_cut (r_COVK hp) (by omega)) | (exfalso; omega; done) | (exfalso; contradiction; done))
      · skip
        have g14 := i_nlt h10
        have hg15 : (0 ≤ l1 ∧ l1.toNatClampNeg < 16) := i_ix (by omega) (by omega)
        refine ⟨hg15, ?_⟩
        have hg16 : (0 ≤ (m 113 l1.toNatClampNeg) ∧ (m 113 l1.toNatClampNeg).toNatClampNeg < 3100) := i_ix (by omega) (by omega)
        refine ⟨hg16, ?_⟩
        first | have f17 : 0 ≤ (m 110 (m 113 l1.toNatClampNeg).toNatClampNeg).toInt ∧ (m 110 (m 113 l1.toNatClampNeg).toNatClampNeg).toInt ≤ 1 := ra_110 (m := m) hV (k := (m 113 l1.toNatClampNeg).toNatClampNeg) (i_ix (n := 3100) (by omega) (by omega)).2 | have b18 := i_bd (m 110 (m 113 l1.toNatClampNeg).toNatClampNeg)
        refine zd (fun (h19 : (m 110 (m 113 l1.toNatClampNeg).toNatClampNeg) = (0 : Int32)) => ?_) (fun (h19 : ¬ (m 110 (m 113 l1.toNatClampNeg).toNatClampNeg) = (0 : Int32)) => ?_)
        · skip
          have g20 := i_eq h19
          have hg21 : (0 ≤ l1 ∧ l1.toNatClampNeg < 16) := i_ix (by omega) (by omega)
          refine ⟨hg21, ?_⟩
          have li23 : (-1 : Int32).toInt = -1 := rfl
          have hV22 : zV (ma_u m 113 l1.toNatClampNeg (-1 : Int32)) := ua_113 hV (by omega) (by omega)
          first | have e24 : (l1 + (1 : Int32)).toInt = l1.toInt + (1) := i_addk rfl (by omega) (by omega) | have b25 := i_bd (l1 + (1 : Int32))
          exact IH (16 - (l1 + (1 : Int32)).toInt).toNat (by omega) _ ((l1 + (1 : Int32))) rfl (zF_u hF rfl) hV22 (by omega) (show zuw (m0 113) ((ma_u m 113 l1.toNatClampNeg (-1 : Int32)) 113) from by first | (exact zuw_put r_UW (by decide)) | (exfalso; omega; done) | (exfalso; contradiction; done)) (show zcov (m 110) ((ma_u m 113 l1.toNatClampNeg (-1 : Int32)) 113) (l1 + (1 : Int32)).toInt from by first | (exact cov_one (cov_uw r_COVK (zuw_put zuw_rfl (by decide))) rfl (by omega) (by omega) (Or.inl (by rw [mu_self]; decide))) | (exact fun hp => cov_one (cov_push (r_COVK hp) (by decide)) rfl (by omega) (by omega) (Or.inr (by rw [mu_self]; decide))) | (exact fun hp => cov_push (r_COVK hp) (by decide)) | (exfalso; omega; done) | (exfalso; contradiction; done))
        · skip
          have g26 := i_ne h19
          first | have e27 : (l1 + (1 : Int32)).toInt = l1.toInt + (1) := i_addk rfl (by omega) (by omega) | have b28 := i_bd (l1 + (1 : Int32))
          exact IH (16 - (l1 + (1 : Int32)).toInt).toNat (by omega) _ ((l1 + (1 : Int32))) rfl hF hV (by omega) r_UW (show zcov (m 110) (m 113) (l1 + (1 : Int32)).toInt from by first | (exact cov_one r_COVK rfl (by omega) (by omega) (Or.inl (by omega))) | (exact cov_one r_COVK rfl (by omega) (by omega) (Or.inr (by assumption))) | (exact fun hp => cov_0 (by decide)) | (exact fun hp => cov_one (r_COVK hp) rfl (by omega) (by omega) (Or.inl (by omega))) | (exact fun hp => cov_one (r_COVK hp) rfl (by omega) (by omega) (Or.inr (by assumption))) | (exact fun hp => cov_cut (r_COVK hp) (by omega)) | (exfalso; omega; done) | (exfalso; contradiction; done))
theorem sp_199 {X : Nat × (Nat → Int32)} {P : Option ma_V → (Nat → Nat → Int32) → Prop} {m : Nat → Nat → Int32}  (hV : zV m)  (KZ : ∀ m₉, zV (zov wr_199 m m₉) → (zuw (m 113) (m₉ 113)) → (zcov (m 110) (m₉ 113) 16) → P none (zov wr_199 m m₉)) : zm X 0 0 199 0 [(0, .inr (.inr (some 94)))] m P := by
  have K : ∀ m₉, zF wr_199 m m₉ → zV m₉ → (zuw (m 113) (m₉ 113)) → (zcov (m₉ 110) (m₉ 113) 16) → P none m₉ := by
    intro m₉ hf z q0 q1
    have e := zov_eq hf
    rw [e] at z ⊢
    try rw [e] at q0
    try rw [e] at q1
    exact KZ m₉ z q0 q1
  refine g_199_0  ?_
  have li1 : (0 : Int32).toInt = 0 := rfl
  exact lp_199_2 hV K _ _ ((0 : Int32)) rfl zF_rfl hV (by omega) (show zuw (m 113) (m 113) from by first | (exact zuw_rfl) | (exfalso; omega; done) | (exfalso; contradiction; done)) (show zcov (m 110) (m 113) (0 : Int32).toInt from by first | (exact cov_0 (by decide)) | (exact fun hp => cov_0 (by decide)) | (exfalso; omega; done) | (exfalso; contradiction; done))

/-! from 94.415 -/
/-! the reference (written by wip/tools/gen94m.py) -/
set_option maxRecDepth 100000 in
theorem hm_197 : ma_md 197 = some (12, yX12_toWishes, cX12_toWishes, 2, none) := rfl
theorem s_105 : zs 105 = some (20, 3100) := rfl
theorem r_94_37 : zfi 94 37 = some 105 := rfl
theorem f_12_46_12 : ma_fld 12 46 12 = some 37 := by decide +kernel
theorem f_12_199_12 : ma_fld 12 199 12 = some 10 := by decide +kernel
theorem p_12_261_12 : ma_pk 12 261 12 55 = true := by decide +kernel
theorem v_12_317_12 : ma_vl 12 317 12 = some (1, 198, 1) := by decide +kernel
theorem dX12_toWishes_0 : decode cX12_toWishes 0 = .ok (.aload_n 0, 1) := by decide +kernel
theorem dX12_toWishes_1 : decode cX12_toWishes 1 = .ok (.iload_n 1, 1) := by decide +kernel
theorem dX12_toWishes_2 : decode cX12_toWishes 2 = .ok (.invokevirtual 317, 3) := by decide +kernel
theorem dX12_toWishes_5 : decode cX12_toWishes 5 = .ok (.aload_n 0, 1) := by decide +kernel
theorem dX12_toWishes_9 : decode cX12_toWishes 9 = .ok (.iload_n 1, 1) := by decide +kernel
theorem dX12_toWishes_10 : decode cX12_toWishes 10 = .ok (.iconst 0, 1) := by decide +kernel
theorem dX12_toWishes_12 : decode cX12_toWishes 12 = .ok (.aload_n 0, 1) := by decide +kernel
theorem dX12_toWishes_16 : decode cX12_toWishes 16 = .ok (.aload_n 0, 1) := by decide +kernel
theorem dX12_toWishes_20 : decode cX12_toWishes 20 = .ok (.iload_n 1, 1) := by decide +kernel
theorem dX12_toWishes_22 : decode cX12_toWishes 22 = .ok (.aload_n 0, 1) := by decide +kernel
theorem dX12_toWishes_23 : decode cX12_toWishes 23 = .ok (.dup, 1) := by decide +kernel
theorem dX12_toWishes_27 : decode cX12_toWishes 27 = .ok (.iconst 1, 1) := by decide +kernel
theorem dX12_toWishes_28 : decode cX12_toWishes 28 = .ok (.iadd, 1) := by decide +kernel
theorem dX12_toWishes_32 : decode cX12_toWishes 32 = .ok (.aload_n 0, 1) := by decide +kernel
theorem dX12_toWishes_36 : decode cX12_toWishes 36 = .ok (.iconst 4, 1) := by decide +kernel
theorem dX12_toWishes_50 : decode cX12_toWishes 50 = .ok (.return_, 1) := by decide +kernel
theorem dX12_toWishes_40 : decode cX12_toWishes 40 = .ok (.aload_n 0, 1) := by decide +kernel
theorem dX12_toWishes_44 : decode cX12_toWishes 44 = .ok (.iload_n 1, 1) := by decide +kernel
theorem dX12_toWishes_45 : decode cX12_toWishes 45 = .ok (.dup2, 1) := by decide +kernel
theorem dX12_toWishes_47 : decode cX12_toWishes 47 = .ok (.iconst 1, 1) := by decide +kernel
theorem dX12_toWishes_48 : decode cX12_toWishes 48 = .ok (.iadd, 1) := by decide +kernel
theorem dX12_toWishes_49 : decode cX12_toWishes 49 = .ok (.iastore, 1) := by decide +kernel
theorem dX12_toWishes_46 : decode cX12_toWishes 46 = .ok (.iaload, 1) := by decide +kernel
theorem dX12_toWishes_41 : decode cX12_toWishes 41 = .ok (.getfield 46, 3) := by decide +kernel
theorem dX12_toWishes_37 : decode cX12_toWishes 37 = .ok (.if_icmp .ne 13, 3) := by decide +kernel
theorem dX12_toWishes_33 : decode cX12_toWishes 33 = .ok (.getfield 199, 3) := by decide +kernel
theorem dX12_toWishes_29 : decode cX12_toWishes 29 = .ok (.putfield 261, 3) := by decide +kernel
theorem dX12_toWishes_24 : decode cX12_toWishes 24 = .ok (.getfield 261, 3) := by decide +kernel
theorem dX12_toWishes_21 : decode cX12_toWishes 21 = .ok (.iastore, 1) := by decide +kernel
theorem dX12_toWishes_17 : decode cX12_toWishes 17 = .ok (.getfield 261, 3) := by decide +kernel
theorem dX12_toWishes_13 : decode cX12_toWishes 13 = .ok (.getfield 74, 3) := by decide +kernel
theorem dX12_toWishes_11 : decode cX12_toWishes 11 = .ok (.bastore, 1) := by decide +kernel
theorem dX12_toWishes_6 : decode cX12_toWishes 6 = .ok (.getfield 59, 3) := by decide +kernel
def wr_197 (c k : Nat) : Bool := Nat.beq c 105 || Nat.beq c 109 || Nat.beq c 113 || Nat.beq c 114 || (Nat.beq c 94 && (Nat.beq k 55))
theorem ws_198_197 : ∀ c k, wr_198 c k = true → wr_197 c k = true := by
  intro c k h
  simp only [wr_198, wr_197, Bool.or_eq_true, Bool.and_eq_true, Nat.beq_eq] at h ⊢
  omega
theorem g_197_0 {X : Nat × (Nat → Int32)} {m : Nat → Nat → Int32} {P : Option ma_V → (Nat → Nat → Int32) → Prop} (s : Int32) (h : zm X 0 0 198 0 [(0, .inr (.inr (some 94))), (1, .inl s)] m (zmv (fun m1 => (0 ≤ s ∧ s.toNatClampNeg < 3100) ∧ ((0 ≤ (m1 94 55) ∧ (m1 94 55).toNatClampNeg < 3100) ∧ (if (m1 94 10) = (4 : Int32) then ((0 ≤ s ∧ s.toNatClampNeg < 3100) ∧ ((0 ≤ s ∧ s.toNatClampNeg < 3100) ∧ (P none (ma_u (ma_u (ma_u (ma_u m1 109 s.toNatClampNeg (0 : Int32)) 114 (m1 94 55).toNatClampNeg s) 94 55 ((m1 94 55) + (1 : Int32))) 105 s.toNatClampNeg ((m1 105 s.toNatClampNeg) + (1 : Int32)))))) else (P none (ma_u (ma_u (ma_u m1 109 s.toNatClampNeg (0 : Int32)) 114 (m1 94 55).toNatClampNeg s) 94 55 ((m1 94 55) + (1 : Int32))))))))) : zm X 1 22 197 0 [(0, .inr (.inr (some 94))), (1, .inl s)] m P := by
  intro d w S Q hd hw hS hm HQ
  subst hm
  refine zw_push hm_197 dX12_toWishes_0 (v := .inr (.inr (some 94))) rfl ?_
  refine zw_push hm_197 dX12_toWishes_1 (v := .inl s) rfl ?_
  refine zw_cv hm_197 dX12_toWishes_2 v_12_317_12 hm_198 [.inl s] [] rfl (zT_rt hS s_94 rfl) ⟨by omega, by omega⟩ rfl (h _ _ S _ (by omega) (by omega) hS rfl (fun o9 m1 hv => ?_))
  obtain ⟨rfl, h⟩ := zmv_of hv
  show ma_wp X d w 197 5 [(0, .inr (.inr (some 94))), (1, .inl s)] [] (zst S m1) _
  refine zw_push hm_197 dX12_toWishes_5 (v := .inr (.inr (some 94))) rfl ?_
  refine zw_gf hm_197 dX12_toWishes_6 (v := .inr (.inr (some 109))) (zT_is (zT_zst hS m1) s_94) (zT_t (zT_zst hS m1) s_94) rfl f_12_59_12 (zT_f (zT_zst hS m1) r_94_41) ?_
  refine zw_push hm_197 dX12_toWishes_9 (v := .inl s) rfl ?_
  refine zw_push hm_197 dX12_toWishes_10 (v := .inl (0 : Int32)) rfl ?_
  obtain ⟨hg, h⟩ := h
  refine zw_bas22l hm_197 dX12_toWishes_11 (hx := by decide) (yv := (0 : Int32)) (zT_is (zT_zst hS m1) s_109) (zT_h (zT_zst hS m1) s_109) rfl hg ?_
  refine zw_push hm_197 dX12_toWishes_12 (v := .inr (.inr (some 94))) rfl ?_
  refine zw_gf hm_197 dX12_toWishes_13 (v := .inr (.inr (some 114))) (zT_is (zT_pi (zT_zst hS m1)) s_94) (zT_t (zT_pi (zT_zst hS m1)) s_94) rfl f_12_74_12 (zT_f (zT_pi (zT_zst hS m1)) r_94_53) ?_
  refine zw_push hm_197 dX12_toWishes_16 (v := .inr (.inr (some 94))) rfl ?_
  refine zw_gf hm_197 dX12_toWishes_17 (v := .inl (m1 94 55)) (zT_is (zT_pi (zT_zst hS m1)) s_94) (zT_t (zT_pi (zT_zst hS m1)) s_94) rfl f_12_261_12 rfl ?_
  refine zw_push hm_197 dX12_toWishes_20 (v := .inl s) rfl ?_
  obtain ⟨hg, h⟩ := h
  refine zw_ias hm_197 dX12_toWishes_21 (zT_is (zT_pi (zT_zst hS m1)) s_114) (zT_h (zT_pi (zT_zst hS m1)) s_114) rfl hg ?_
  refine zw_push hm_197 dX12_toWishes_22 (v := .inr (.inr (some 94))) rfl ?_
  refine zw_stk hm_197 dX12_toWishes_23 (st₉ := [.inr (.inr (some 94)), .inr (.inr (some 94))]) rfl rfl ?_
  refine zw_gf hm_197 dX12_toWishes_24 (v := .inl (m1 94 55)) (zT_is (zT_pi (zT_pi (zT_zst hS m1))) s_94) (zT_t (zT_pi (zT_pi (zT_zst hS m1))) s_94) rfl f_12_261_12 rfl ?_
  refine zw_push hm_197 dX12_toWishes_27 (v := .inl (1 : Int32)) rfl ?_
  refine zw_stk hm_197 dX12_toWishes_28 (st₉ := [.inl ((m1 94 55) + (1 : Int32)), .inr (.inr (some 94))]) rfl rfl ?_
  refine zw_pf hm_197 dX12_toWishes_29 (zT_is (zT_pi (zT_pi (zT_zst hS m1))) s_94) (zT_t (zT_pi (zT_pi (zT_zst hS m1))) s_94) p_12_261_12 zk_int ?_
  refine zw_push hm_197 dX12_toWishes_32 (v := .inr (.inr (some 94))) rfl ?_
  refine zw_gf hm_197 dX12_toWishes_33 (v := .inl (m1 94 10)) (zT_is (zT_pi (zT_pi (zT_pi (zT_zst hS m1)))) s_94) (zT_t (zT_pi (zT_pi (zT_pi (zT_zst hS m1)))) s_94) rfl f_12_199_12 rfl ?_
  refine zw_push hm_197 dX12_toWishes_36 (v := .inl (4 : Int32)) rfl ?_
  refine zw_if2 hm_197 dX12_toWishes_37 (t := 50) rfl zc2_ne ?_ ?_
  · intro hc
    rw [if_neg hc] at h
    exact zw_vret hm_197 dX12_toWishes_50 (HQ _ _ h)
  · intro hc
    rw [if_pos (Classical.not_not.mp hc)] at h
    refine zw_push hm_197 dX12_toWishes_40 (v := .inr (.inr (some 94))) rfl ?_
    refine zw_gf hm_197 dX12_toWishes_41 (v := .inr (.inr (some 105))) (zT_is (zT_pi (zT_pi (zT_pi (zT_zst hS m1)))) s_94) (zT_t (zT_pi (zT_pi (zT_pi (zT_zst hS m1)))) s_94) rfl f_12_46_12 (zT_f (zT_pi (zT_pi (zT_pi (zT_zst hS m1)))) r_94_37) ?_
    refine zw_push hm_197 dX12_toWishes_44 (v := .inl s) rfl ?_
    refine zw_stk hm_197 dX12_toWishes_45 (st₉ := [.inl s, .inr (.inr (some 105)), .inl s, .inr (.inr (some 105))]) rfl rfl ?_
    obtain ⟨hg, h⟩ := h
    refine zw_ia hm_197 dX12_toWishes_46 (zT_is (zT_pi (zT_pi (zT_pi (zT_zst hS m1)))) s_105) (zT_h (zT_pi (zT_pi (zT_pi (zT_zst hS m1)))) s_105) rfl hg ?_
    show ma_wp X d w 197 47 [(0, .inr (.inr (some 94))), (1, .inl s)] [.inl (m1 105 s.toNatClampNeg), .inl s, .inr (.inr (some 105))] (ma_put (ma_put (ma_put (zst S m1) 109 s.toNatClampNeg (.inl (0 : Int32))) 114 (m1 94 55).toNatClampNeg (.inl s)) 94 55 (.inl ((m1 94 55) + (1 : Int32)))) _
    refine zw_push hm_197 dX12_toWishes_47 (v := .inl (1 : Int32)) rfl ?_
    refine zw_stk hm_197 dX12_toWishes_48 (st₉ := [.inl ((m1 105 s.toNatClampNeg) + (1 : Int32)), .inl s, .inr (.inr (some 105))]) rfl rfl ?_
    obtain ⟨hg, h⟩ := h
    refine zw_ias hm_197 dX12_toWishes_49 (zT_is (zT_pi (zT_pi (zT_pi (zT_zst hS m1)))) s_105) (zT_h (zT_pi (zT_pi (zT_pi (zT_zst hS m1)))) s_105) rfl hg ?_
    exact zw_vret hm_197 dX12_toWishes_50 (HQ _ _ h)
theorem sp_197 {X : Nat × (Nat → Int32)} {P : Option ma_V → (Nat → Nat → Int32) → Prop} {T : Nat} {m : Nat → Nat → Int32} (s : Int32) (hV : zV m) (hpre0 : 0 ≤ s.toInt) (hpre1 : s.toInt ≤ 3099) (r_WI : (m 109) s.toNatClampNeg ≠ 0) (r_GW : zGW T (m 94 55) (m 109)) (KZ : ∀ m₉, zV (zov wr_197 m m₉) → (zGW T (m₉ 94 55) (m₉ 109)) → (zuw (m 113) (m₉ 113)) → (zwx (m 114) (m₉ 114) (m 94 55) s) → ((m₉ 94 55).toInt = (m 94 55).toInt + 1) → P none (zov wr_197 m m₉)) : zm X 1 22 197 0 [(0, .inr (.inr (some 94))), (1, .inl s)] m P := by
  have K : ∀ m₉, zF wr_197 m m₉ → zV m₉ → (zGW T (m₉ 94 55) (m₉ 109)) → (zuw (m 113) (m₉ 113)) → (zwx (m 114) (m₉ 114) (m 94 55) s) → ((m₉ 94 55).toInt = (m 94 55).toInt + 1) → P none m₉ := by
    intro m₉ hf z q0 q1 q2 q3
    have e := zov_eq hf
    rw [e] at z ⊢
    try rw [e] at q0
    try rw [e] at q1
    try rw [e] at q2
    try rw [e] at q3
    exact KZ m₉ z q0 q1 q2 q3
  refine g_197_0 s ?_
  have b1 := i_bd s
  refine sp_198 (s) hV  (fun m1 hV_m1 p0_m1 => zmv_n ?_)
  have p0_m1 : zuw (m 113) (m1 113) := p0_m1
  try have gw := GW_room r_GW
  have hg2 : (0 ≤ s ∧ s.toNatClampNeg < 3100) := i_ix (by omega) (by omega)
  refine ⟨hg2, ?_⟩
  have f3 : 0 ≤ (m 94 55).toInt ∧ (m 94 55).toInt ≤ 3100 := rs_94_55 (m := m) hV
  try have gw := GW_room r_GW
  have hg4 : (0 ≤ (m 94 55) ∧ (m 94 55).toNatClampNeg < 3100) := i_ix (by omega) (by omega)
  refine ⟨hg4, ?_⟩
  have f5 : 0 ≤ (m 94 10).toInt ∧ (m 94 10).toInt ≤ 6 := rs_94_10 (m := m) hV
  have li6 : (4 : Int32).toInt = 4 := rfl
  refine zd (fun (h7 : (m 94 10) = (4 : Int32)) => ?_) (fun (h7 : ¬ (m 94 10) = (4 : Int32)) => ?_)
  · skip
    have g8 := i_eq h7
    have hg9 : (0 ≤ s ∧ s.toNatClampNeg < 3100) := i_ix (by omega) (by omega)
    refine ⟨hg9, ?_⟩
    have hg10 : (0 ≤ s ∧ s.toNatClampNeg < 3100) := i_ix (by omega) (by omega)
    refine ⟨hg10, ?_⟩
    have li12 : (0 : Int32).toInt = 0 := rfl
    have hV11 : zV (ma_u (zov wr_198 m m1) 109 s.toNatClampNeg (0 : Int32)) := ua_109 hV_m1 (by omega) (by omega)
    have hV13 : zV (ma_u (ma_u (zov wr_198 m m1) 109 s.toNatClampNeg (0 : Int32)) 114 (m 94 55).toNatClampNeg s) := ua_114 hV11 (by omega) (by omega)
    first | have e15 : ((m 94 55) + (1 : Int32)).toInt = (m 94 55).toInt + (1) := i_addk rfl (by omega) (by omega) | have b16 := i_bd ((m 94 55) + (1 : Int32))
    have hV14 : zV (ma_u (ma_u (ma_u (zov wr_198 m m1) 109 s.toNatClampNeg (0 : Int32)) 114 (m 94 55).toNatClampNeg s) 94 55 ((m 94 55) + (1 : Int32))) := us_94_55 hV13 (by omega) (by omega)
    have hV17 : zV (ma_u (ma_u (ma_u (ma_u (zov wr_198 m m1) 109 s.toNatClampNeg (0 : Int32)) 114 (m 94 55).toNatClampNeg s) 94 55 ((m 94 55) + (1 : Int32))) 105 s.toNatClampNeg ((m 105 s.toNatClampNeg) + (1 : Int32))) := ua_105 hV14
    exact K _ (zF_u (zF_u (zF_u (zF_u (zF_zov zF_rfl ws_198_197) rfl) rfl) rfl) rfl) hV17 (show zGW T ((m 94 55) + (1 : Int32)) ((ma_u m 109 s.toNatClampNeg (0 : Int32)) 109) from by first | (exact GW_take r_GW r_WI (by omega) (by omega)) | (exfalso; omega; done) | (exfalso; contradiction; done)) p0_m1 (show zwx (m 114) ((ma_u m 114 (m 94 55).toNatClampNeg s) 114) (m 94 55) s from by first | (exact ⟨fun k hk => mu_ne (by rw [tn_eq]; omega), mu_self⟩) | (exfalso; omega; done) | (exfalso; contradiction; done)) (show ((m 94 55) + (1 : Int32)).toInt = (m 94 55).toInt + 1 from by omega)
  · skip
    have g18 := i_ne h7
    have li20 : (0 : Int32).toInt = 0 := rfl
    have hV19 : zV (ma_u (zov wr_198 m m1) 109 s.toNatClampNeg (0 : Int32)) := ua_109 hV_m1 (by omega) (by omega)
    have hV21 : zV (ma_u (ma_u (zov wr_198 m m1) 109 s.toNatClampNeg (0 : Int32)) 114 (m 94 55).toNatClampNeg s) := ua_114 hV19 (by omega) (by omega)
    first | have e23 : ((m 94 55) + (1 : Int32)).toInt = (m 94 55).toInt + (1) := i_addk rfl (by omega) (by omega) | have b24 := i_bd ((m 94 55) + (1 : Int32))
    have hV22 : zV (ma_u (ma_u (ma_u (zov wr_198 m m1) 109 s.toNatClampNeg (0 : Int32)) 114 (m 94 55).toNatClampNeg s) 94 55 ((m 94 55) + (1 : Int32))) := us_94_55 hV21 (by omega) (by omega)
    exact K _ (zF_u (zF_u (zF_u (zF_zov zF_rfl ws_198_197) rfl) rfl) rfl) hV22 (show zGW T ((m 94 55) + (1 : Int32)) ((ma_u m 109 s.toNatClampNeg (0 : Int32)) 109) from by first | (exact GW_take r_GW r_WI (by omega) (by omega)) | (exfalso; omega; done) | (exfalso; contradiction; done)) p0_m1 (show zwx (m 114) ((ma_u m 114 (m 94 55).toNatClampNeg s) 114) (m 94 55) s from by first | (exact ⟨fun k hk => mu_ne (by rw [tn_eq]; omega), mu_self⟩) | (exfalso; omega; done) | (exfalso; contradiction; done)) (show ((m 94 55) + (1 : Int32)).toInt = (m 94 55).toInt + 1 from by omega)

