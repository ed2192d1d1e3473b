/-! the reference (written by wip/tools/gen94m.py) -/
set_option maxRecDepth 100000 in
theorem hm_198 : ma_md 198 = some (12, yX12_unweak, cX12_unweak, 3, none) := rfl
theorem s_113 : zs 113 = some (20, 16) := rfl
theorem r_94_52 : zfi 94 52 = some 113 := rfl
theorem f_12_71_12 : ma_fld 12 71 12 = some 52 := by decide +kernel
theorem dX12_unweak_0 : decode cX12_unweak 0 = .ok (.iconst 0, 1) := by decide +kernel
theorem dX12_unweak_1 : decode cX12_unweak 1 = .ok (.istore_n 2, 1) := by decide +kernel
theorem dX12_unweak_2 : decode cX12_unweak 2 = .ok (.iload_n 2, 1) := by decide +kernel
theorem dX12_unweak_3 : decode cX12_unweak 3 = .ok (.bipush 16, 2) := by decide +kernel
theorem dX12_unweak_31 : decode cX12_unweak 31 = .ok (.return_, 1) := by decide +kernel
theorem dX12_unweak_8 : decode cX12_unweak 8 = .ok (.aload_n 0, 1) := by decide +kernel
theorem dX12_unweak_12 : decode cX12_unweak 12 = .ok (.iload_n 2, 1) := by decide +kernel
theorem dX12_unweak_14 : decode cX12_unweak 14 = .ok (.iload_n 1, 1) := by decide +kernel
theorem dX12_unweak_25 : decode cX12_unweak 25 = .ok (.iinc 2 1, 3) := by decide +kernel
theorem dX12_unweak_28 : decode cX12_unweak 28 = .ok (.goto (-26), 3) := by decide +kernel
theorem dX12_unweak_18 : decode cX12_unweak 18 = .ok (.aload_n 0, 1) := by decide +kernel
theorem dX12_unweak_22 : decode cX12_unweak 22 = .ok (.iload_n 2, 1) := by decide +kernel
theorem dX12_unweak_23 : decode cX12_unweak 23 = .ok (.iconst (-1), 1) := by decide +kernel
theorem dX12_unweak_24 : decode cX12_unweak 24 = .ok (.iastore, 1) := by decide +kernel
theorem dX12_unweak_19 : decode cX12_unweak 19 = .ok (.getfield 71, 3) := by decide +kernel
theorem dX12_unweak_15 : decode cX12_unweak 15 = .ok (.if_icmp .ne 10, 3) := by decide +kernel
theorem dX12_unweak_13 : decode cX12_unweak 13 = .ok (.iaload, 1) := by decide +kernel
theorem dX12_unweak_9 : decode cX12_unweak 9 = .ok (.getfield 71, 3) := by decide +kernel
theorem dX12_unweak_5 : decode cX12_unweak 5 = .ok (.if_icmp .ge 26, 3) := by decide +kernel
def wr_198 (c _ : Nat) : Bool := Nat.beq c 113
theorem g_198_0 {X : Nat × (Nat → Int32)} {m : Nat → Nat → Int32} {P : Option ma_V → (Nat → Nat → Int32) → Prop} (s : Int32) (h : zm X 0 0 198 2 [(0, .inr (.inr (some 94))), (1, .inl s), (2, .inl (0 : Int32))] m P) : zm X 0 0 198 0 [(0, .inr (.inr (some 94))), (1, .inl s)] m P := by
  intro d w S Q hd hw hS hm HQ
  subst hm
  refine zw_push hm_198 dX12_unweak_0 (v := .inl (0 : Int32)) rfl ?_
  refine zw_sto hm_198 dX12_unweak_1 [(2, .inl (0 : Int32)), (0, .inr (.inr (some 94))), (1, .inl s)] rfl rfl rfl ?_
  exact zw_sub (ma_nd_of (ks := [0, 1, 2]) rfl (by decide)) (ma_nd_of (ks := [2, 0, 1]) rfl (by decide)) (ma_le_cons rfl (ma_le_cons rfl (ma_le_cons rfl (ma_le_nil _)))) (h d w _ Q (by omega) (by omega) hS rfl HQ)
theorem g_198_2 {X : Nat × (Nat → Int32)} {m : Nat → Nat → Int32} {P : Option ma_V → (Nat → Nat → Int32) → Prop} (l1 : Int32) (l2 : Int32) (h : if (16 : Int32) ≤ l2 then (P none m) else ((0 ≤ l2 ∧ l2.toNatClampNeg < 16) ∧ (if (m 113 l2.toNatClampNeg) = l1 then ((0 ≤ l2 ∧ l2.toNatClampNeg < 16) ∧ (zm X 0 0 198 2 [(0, .inr (.inr (some 94))), (1, .inl l1), (2, .inl (l2 + (1 : Int32)))] (ma_u m 113 l2.toNatClampNeg (-1 : Int32)) P)) else (zm X 0 0 198 2 [(0, .inr (.inr (some 94))), (1, .inl l1), (2, .inl (l2 + (1 : Int32)))] m P)))) : zm X 0 0 198 2 [(0, .inr (.inr (some 94))), (1, .inl l1), (2, .inl l2)] m P := by
  intro d w S Q hd hw hS hm HQ
  subst hm
  refine zw_push hm_198 dX12_unweak_2 (v := .inl l2) rfl ?_
  refine zw_push hm_198 dX12_unweak_3 (v := .inl (16 : Int32)) rfl ?_
  refine zw_if2 hm_198 dX12_unweak_5 (t := 31) rfl zc2_ge ?_ ?_
  · intro hc
    rw [if_pos hc] at h
    exact zw_vret hm_198 dX12_unweak_31 (HQ _ _ h)
  · intro hc
    rw [if_neg hc] at h
    refine zw_push hm_198 dX12_unweak_8 (v := .inr (.inr (some 94))) rfl ?_
    refine zw_gf hm_198 dX12_unweak_9 (v := .inr (.inr (some 113))) (zT_is hS s_94) (zT_t hS s_94) rfl f_12_71_12 (zT_f hS r_94_52) ?_
    refine zw_push hm_198 dX12_unweak_12 (v := .inl l2) rfl ?_
    obtain ⟨hg, h⟩ := h
    refine zw_ia hm_198 dX12_unweak_13 (zT_is hS s_113) (zT_h hS s_113) rfl hg ?_
    show ma_wp X d w 198 14 [(0, .inr (.inr (some 94))), (1, .inl l1), (2, .inl l2)] [.inl ((mI S) 113 l2.toNatClampNeg)] S _
    refine zw_push hm_198 dX12_unweak_14 (v := .inl l1) rfl ?_
    refine zw_if2 hm_198 dX12_unweak_15 (t := 25) rfl zc2_ne ?_ ?_
    · intro hc
      rw [if_neg hc] at h
      refine zw_sto hm_198 dX12_unweak_25 [(2, .inl (l2 + (1 : Int32))), (0, .inr (.inr (some 94))), (1, .inl l1)] rfl rfl rfl ?_
      refine zw_goto hm_198 dX12_unweak_28 (t := 2) rfl ?_
      exact zw_sub (ma_nd_of (ks := [0, 1, 2]) rfl (by decide)) (ma_nd_of (ks := [2, 0, 1]) rfl (by decide)) (ma_le_cons rfl (ma_le_cons rfl (ma_le_cons rfl (ma_le_nil _)))) (h d w _ Q (by omega) (by omega) hS rfl HQ)
    · intro hc
      rw [if_pos (Classical.not_not.mp hc)] at h
      refine zw_push hm_198 dX12_unweak_18 (v := .inr (.inr (some 94))) rfl ?_
      refine zw_gf hm_198 dX12_unweak_19 (v := .inr (.inr (some 113))) (zT_is hS s_94) (zT_t hS s_94) rfl f_12_71_12 (zT_f hS r_94_52) ?_
      refine zw_push hm_198 dX12_unweak_22 (v := .inl l2) rfl ?_
      refine zw_push hm_198 dX12_unweak_23 (v := .inl (-1 : Int32)) rfl ?_
      obtain ⟨hg, h⟩ := h
      refine zw_ias hm_198 dX12_unweak_24 (zT_is hS s_113) (zT_h hS s_113) rfl hg ?_
      refine zw_sto hm_198 dX12_unweak_25 [(2, .inl (l2 + (1 : Int32))), (0, .inr (.inr (some 94))), (1, .inl l1)] rfl rfl rfl ?_
      refine zw_goto hm_198 dX12_unweak_28 (t := 2) rfl ?_
      exact zw_sub (ma_nd_of (ks := [0, 1, 2]) rfl (by decide)) (ma_nd_of (ks := [2, 0, 1]) rfl (by decide)) (ma_le_cons rfl (ma_le_cons rfl (ma_le_cons rfl (ma_le_nil _)))) (h d w _ Q (by omega) (by omega) (zT_pi hS) rfl HQ)
theorem lp_198_2 {X : Nat × (Nat → Int32)} {P : Option ma_V → (Nat → Nat → Int32) → Prop} {s : Int32} {m0 : Nat → Nat → Int32} (h0 : zV m0) (K : ∀ m', zF wr_198 m0 m' → zV m' → (zuw (m0 113) (m' 113)) → P none m') : ∀ (n : Nat) (m : Nat → Nat → Int32) (l1 : Int32) (l2 : Int32), (16 - l2.toInt).toNat = n → zF wr_198 m0 m → zV m → (0 ≤ l2.toInt) → (zuw (m0 113) (m 113)) → zm X 0 0 198 2 [(0, .inr (.inr (some 94))), (1, .inl l1), (2, .inl l2)] m P := by
  intro n
  induction n using Nat.strongRecOn with
  | _ n IH =>
    intro m l1 l2 hmu hF hV hi0 r_UW
    refine g_198_2 l1 l2 ?_
    have li1 : (16 : Int32).toInt = 16 := rfl
    have b2 := i_bd l2
    refine zd (fun (h3 : (16 : Int32) ≤ l2) => ?_) (fun (h3 : ¬ (16 : Int32) ≤ l2) => ?_)
    · skip
      have g4 := i_le h3
      exact K _ hF hV r_UW
    · skip
      have g5 := i_nle h3
      have hg6 : (0 ≤ l2 ∧ l2.toNatClampNeg < 16) := i_ix (by omega) (by omega)
      refine ⟨hg6, ?_⟩
      first | have f7 : -1 ≤ (m 113 l2.toNatClampNeg).toInt ∧ (m 113 l2.toNatClampNeg).toInt ≤ 3099 := ra_113 (m := m) hV (k := l2.toNatClampNeg) (i_ix (n := 16) (by omega) (by omega)).2 | have b8 := i_bd (m 113 l2.toNatClampNeg)
      have b9 := i_bd l1
      refine zd (fun (h10 : (m 113 l2.toNatClampNeg) = l1) => ?_) (fun (h10 : ¬ (m 113 l2.toNatClampNeg) = l1) => ?_)
      · skip
        have g11 := i_eq h10
        have hg12 : (0 ≤ l2 ∧ l2.toNatClampNeg < 16) := i_ix (by omega) (by omega)
        refine ⟨hg12, ?_⟩
        have li14 : (-1 : Int32).toInt = -1 := rfl
        have hV13 : zV (ma_u m 113 l2.toNatClampNeg (-1 : Int32)) := ua_113 hV (by omega) (by omega)
        first | have e15 : (l2 + (1 : Int32)).toInt = l2.toInt + (1) := i_addk rfl (by omega) (by omega) | have b16 := i_bd (l2 + (1 : Int32))
        exact IH (16 - (l2 + (1 : Int32)).toInt).toNat (by omega) _ (l1) ((l2 + (1 : Int32))) rfl (zF_u hF rfl) hV13 (by omega) (show zuw (m0 113) ((ma_u m 113 l2.toNatClampNeg (-1 : Int32)) 113) from by first | (exact zuw_put r_UW (by decide)) | (exfalso; omega; done) | (exfalso; contradiction; done))
      · skip
        have g17 := i_ne h10
        first | have e18 : (l2 + (1 : Int32)).toInt = l2.toInt + (1) := i_addk rfl (by omega) (by omega) | have b19 := i_bd (l2 + (1 : Int32))
        exact IH (16 - (l2 + (1 : Int32)).toInt).toNat (by omega) _ (l1) ((l2 + (1 : Int32))) rfl hF hV (by omega) r_UW
theorem sp_198 {X : Nat × (Nat → Int32)} {P : Option ma_V → (Nat → Nat → Int32) → Prop} {m : Nat → Nat → Int32} (s : Int32) (hV : zV m)  (KZ : ∀ m', zV (zov wr_198 m m') → (zuw (m 113) (m' 113)) → P none (zov wr_198 m m')) : zm X 0 0 198 0 [(0, .inr (.inr (some 94))), (1, .inl s)] m P := by
  have K : ∀ m', zF wr_198 m m' → zV m' → (zuw (m 113) (m' 113)) → P none m' := by
    intro m' hf z q0
    have e := zov_eq hf
    rw [e] at z ⊢
    try rw [e] at q0
    exact KZ m' z q0
  refine g_198_0 s ?_
  have b1 := i_bd s
  have li2 : (0 : Int32).toInt = 0 := rfl
  exact lp_198_2 (s := s) hV K _ _ (s) ((0 : Int32)) rfl zF_rfl hV (by omega) (show zuw (m 113) (m 113) from by first | (exact zuw_rfl) | (exfalso; omega; done) | (exfalso; contradiction; done))
set_option maxRecDepth 100000 in
theorem hm_199 : ma_md 199 = some (12, yX12_unweakRest, cX12_unweakRest, 2, none) := rfl
theorem dX12_unweakRest_0 : decode cX12_unweakRest 0 = .ok (.iconst 0, 1) := by decide +kernel
theorem dX12_unweakRest_1 : decode cX12_unweakRest 1 = .ok (.istore_n 1, 1) := by decide +kernel
theorem dX12_unweakRest_2 : decode cX12_unweakRest 2 = .ok (.iload_n 1, 1) := by decide +kernel
theorem dX12_unweakRest_3 : decode cX12_unweakRest 3 = .ok (.bipush 16, 2) := by decide +kernel
theorem dX12_unweakRest_44 : decode cX12_unweakRest 44 = .ok (.return_, 1) := by decide +kernel
theorem dX12_unweakRest_8 : decode cX12_unweakRest 8 = .ok (.aload_n 0, 1) := by decide +kernel
theorem dX12_unweakRest_12 : decode cX12_unweakRest 12 = .ok (.iload_n 1, 1) := by decide +kernel
theorem dX12_unweakRest_38 : decode cX12_unweakRest 38 = .ok (.iinc 1 1, 3) := by decide +kernel
theorem dX12_unweakRest_41 : decode cX12_unweakRest 41 = .ok (.goto (-39), 3) := by decide +kernel
theorem dX12_unweakRest_17 : decode cX12_unweakRest 17 = .ok (.aload_n 0, 1) := by decide +kernel
theorem dX12_unweakRest_21 : decode cX12_unweakRest 21 = .ok (.aload_n 0, 1) := by decide +kernel
theorem dX12_unweakRest_25 : decode cX12_unweakRest 25 = .ok (.iload_n 1, 1) := by decide +kernel
theorem dX12_unweakRest_31 : decode cX12_unweakRest 31 = .ok (.aload_n 0, 1) := by decide +kernel
theorem dX12_unweakRest_35 : decode cX12_unweakRest 35 = .ok (.iload_n 1, 1) := by decide +kernel
theorem dX12_unweakRest_36 : decode cX12_unweakRest 36 = .ok (.iconst (-1), 1) := by decide +kernel
theorem dX12_unweakRest_37 : decode cX12_unweakRest 37 = .ok (.iastore, 1) := by decide +kernel
theorem dX12_unweakRest_32 : decode cX12_unweakRest 32 = .ok (.getfield 71, 3) := by decide +kernel
theorem dX12_unweakRest_28 : decode cX12_unweakRest 28 = .ok (.ifCond .ne 10, 3) := by decide +kernel
theorem dX12_unweakRest_27 : decode cX12_unweakRest 27 = .ok (.baload, 1) := by decide +kernel
theorem dX12_unweakRest_26 : decode cX12_unweakRest 26 = .ok (.iaload, 1) := by decide +kernel
theorem dX12_unweakRest_22 : decode cX12_unweakRest 22 = .ok (.getfield 71, 3) := by decide +kernel
theorem dX12_unweakRest_18 : decode cX12_unweakRest 18 = .ok (.getfield 62, 3) := by decide +kernel
theorem dX12_unweakRest_14 : decode cX12_unweakRest 14 = .ok (.ifCond .lt 24, 3) := by decide +kernel
theorem dX12_unweakRest_13 : decode cX12_unweakRest 13 = .ok (.iaload, 1) := by decide +kernel
theorem dX12_unweakRest_9 : decode cX12_unweakRest 9 = .ok (.getfield 71, 3) := by decide +kernel
theorem dX12_unweakRest_5 : decode cX12_unweakRest 5 = .ok (.if_icmp .ge 39, 3) := by decide +kernel
def wr_199 (c _ : Nat) : Bool := Nat.beq c 113
theorem g_199_0 {X : Nat × (Nat → Int32)} {m : Nat → Nat → Int32} {P : Option ma_V → (Nat → Nat → Int32) → Prop}  (h : zm X 0 0 199 2 [(0, .inr (.inr (some 94))), (1, .inl (0 : Int32))] m P) : zm X 0 0 199 0 [(0, .inr (.inr (some 94)))] m P := by
  intro d w S Q hd hw hS hm HQ
  subst hm
  refine zw_push hm_199 dX12_unweakRest_0 (v := .inl (0 : Int32)) rfl ?_
  refine zw_sto hm_199 dX12_unweakRest_1 [(1, .inl (0 : Int32)), (0, .inr (.inr (some 94)))] rfl rfl rfl ?_
  exact zw_sub (ma_nd_of (ks := [0, 1]) rfl (by decide)) (ma_nd_of (ks := [1, 0]) rfl (by decide)) (ma_le_cons rfl (ma_le_cons rfl (ma_le_nil _))) (h d w _ Q (by omega) (by omega) hS rfl HQ)
theorem g_199_2 {X : Nat × (Nat → Int32)} {m : Nat → Nat → Int32} {P : Option ma_V → (Nat → Nat → Int32) → Prop} (l1 : Int32) (h : if (16 : Int32) ≤ l1 then (P none m) else ((0 ≤ l1 ∧ l1.toNatClampNeg < 16) ∧ (if (m 113 l1.toNatClampNeg) < 0 then (zm X 0 0 199 2 [(0, .inr (.inr (some 94))), (1, .inl (l1 + (1 : Int32)))] m P) else ((0 ≤ l1 ∧ l1.toNatClampNeg < 16) ∧ ((0 ≤ (m 113 l1.toNatClampNeg) ∧ (m 113 l1.toNatClampNeg).toNatClampNeg < 3100) ∧ (if (m 110 (m 113 l1.toNatClampNeg).toNatClampNeg) = 0 then ((0 ≤ l1 ∧ l1.toNatClampNeg < 16) ∧ (zm X 0 0 199 2 [(0, .inr (.inr (some 94))), (1, .inl (l1 + (1 : Int32)))] (ma_u m 113 l1.toNatClampNeg (-1 : Int32)) P)) else (zm X 0 0 199 2 [(0, .inr (.inr (some 94))), (1, .inl (l1 + (1 : Int32)))] m P))))))) : zm X 0 0 199 2 [(0, .inr (.inr (some 94))), (1, .inl l1)] m P := by
  intro d w S Q hd hw hS hm HQ
  subst hm
  refine zw_push hm_199 dX12_unweakRest_2 (v := .inl l1) rfl ?_
  refine zw_push hm_199 dX12_unweakRest_3 (v := .inl (16 : Int32)) rfl ?_
  refine zw_if2 hm_199 dX12_unweakRest_5 (t := 44) rfl zc2_ge ?_ ?_
  · intro hc
    rw [if_pos hc] at h
    exact zw_vret hm_199 dX12_unweakRest_44 (HQ _ _ h)
  · intro hc
    rw [if_neg hc] at h
    refine zw_push hm_199 dX12_unweakRest_8 (v := .inr (.inr (some 94))) rfl ?_
    refine zw_gf hm_199 dX12_unweakRest_9 (v := .inr (.inr (some 113))) (zT_is hS s_94) (zT_t hS s_94) rfl f_12_71_12 (zT_f hS r_94_52) ?_
    refine zw_push hm_199 dX12_unweakRest_12 (v := .inl l1) rfl ?_
    obtain ⟨hg, h⟩ := h
    refine zw_ia hm_199 dX12_unweakRest_13 (zT_is hS s_113) (zT_h hS s_113) rfl hg ?_
    show ma_wp X d w 199 14 [(0, .inr (.inr (some 94))), (1, .inl l1)] [.inl ((mI S) 113 l1.toNatClampNeg)] S _
    refine zw_if0 hm_199 dX12_unweakRest_14 (t := 38) rfl zc0_lt ?_ ?_
    · intro hc
      rw [if_pos hc] at h
      refine zw_sto hm_199 dX12_unweakRest_38 [(1, .inl (l1 + (1 : Int32))), (0, .inr (.inr (some 94)))] rfl rfl rfl ?_
      refine zw_goto hm_199 dX12_unweakRest_41 (t := 2) rfl ?_
      exact zw_sub (ma_nd_of (ks := [0, 1]) rfl (by decide)) (ma_nd_of (ks := [1, 0]) rfl (by decide)) (ma_le_cons rfl (ma_le_cons rfl (ma_le_nil _))) (h d w _ Q (by omega) (by omega) hS rfl HQ)
    · intro hc
      rw [if_neg hc] at h
      refine zw_push hm_199 dX12_unweakRest_17 (v := .inr (.inr (some 94))) rfl ?_
      refine zw_gf hm_199 dX12_unweakRest_18 (v := .inr (.inr (some 110))) (zT_is hS s_94) (zT_t hS s_94) rfl f_12_62_12 (zT_f hS r_94_42) ?_
      refine zw_push hm_199 dX12_unweakRest_21 (v := .inr (.inr (some 94))) rfl ?_
      refine zw_gf hm_199 dX12_unweakRest_22 (v := .inr (.inr (some 113))) (zT_is hS s_94) (zT_t hS s_94) rfl f_12_71_12 (zT_f hS r_94_52) ?_
      refine zw_push hm_199 dX12_unweakRest_25 (v := .inl l1) rfl ?_
      obtain ⟨hg, h⟩ := h
      refine zw_ia hm_199 dX12_unweakRest_26 (zT_is hS s_113) (zT_h hS s_113) rfl hg ?_
      show ma_wp X d w 199 27 [(0, .inr (.inr (some 94))), (1, .inl l1)] [.inl ((mI S) 113 l1.toNatClampNeg), .inr (.inr (some 110))] S _
      obtain ⟨hg, h⟩ := h
      refine zw_ba hm_199 dX12_unweakRest_27 (zT_is hS s_110) (zT_h hS s_110) rfl rfl hg ?_
      show ma_wp X d w 199 28 [(0, .inr (.inr (some 94))), (1, .inl l1)] [.inl ((mI S) 110 ((mI S) 113 l1.toNatClampNeg).toNatClampNeg)] S _
      refine zw_if0 hm_199 dX12_unweakRest_28 (t := 38) rfl zc0_ne ?_ ?_
      · intro hc
        rw [if_neg hc] at h
        refine zw_sto hm_199 dX12_unweakRest_38 [(1, .inl (l1 + (1 : Int32))), (0, .inr (.inr (some 94)))] rfl rfl rfl ?_
        refine zw_goto hm_199 dX12_unweakRest_41 (t := 2) rfl ?_
        exact zw_sub (ma_nd_of (ks := [0, 1]) rfl (by decide)) (ma_nd_of (ks := [1, 0]) rfl (by decide)) (ma_le_cons rfl (ma_le_cons rfl (ma_le_nil _))) (h d w _ Q (by omega) (by omega) hS rfl HQ)
      · intro hc
        rw [if_pos (Classical.not_not.mp hc)] at h
        refine zw_push hm_199 dX12_unweakRest_31 (v := .inr (.inr (some 94))) rfl ?_
        refine zw_gf hm_199 dX12_unweakRest_32 (v := .inr (.inr (some 113))) (zT_is hS s_94) (zT_t hS s_94) rfl f_12_71_12 (zT_f hS r_94_52) ?_
        refine zw_push hm_199 dX12_unweakRest_35 (v := .inl l1) rfl ?_
        refine zw_push hm_199 dX12_unweakRest_36 (v := .inl (-1 : Int32)) rfl ?_
        obtain ⟨hg, h⟩ := h
        refine zw_ias hm_199 dX12_unweakRest_37 (zT_is hS s_113) (zT_h hS s_113) rfl hg ?_
        refine zw_sto hm_199 dX12_unweakRest_38 [(1, .inl (l1 + (1 : Int32))), (0, .inr (.inr (some 94)))] rfl rfl rfl ?_
        refine zw_goto hm_199 dX12_unweakRest_41 (t := 2) rfl ?_
        exact zw_sub (ma_nd_of (ks := [0, 1]) rfl (by decide)) (ma_nd_of (ks := [1, 0]) rfl (by decide)) (ma_le_cons rfl (ma_le_cons rfl (ma_le_nil _))) (h d w _ Q (by omega) (by omega) (zT_pi hS) rfl HQ)
theorem lp_199_2 {X : Nat × (Nat → Int32)} {P : Option ma_V → (Nat → Nat → Int32) → Prop} {m0 : Nat → Nat → Int32} (h0 : zV m0) (K : ∀ m', zF wr_199 m0 m' → zV m' → (zuw (m0 113) (m' 113)) → (zcov (m' 110) (m' 113) 16) → P none m') : ∀ (n : Nat) (m : Nat → Nat → Int32) (l1 : Int32), (16 - l1.toInt).toNat = n → zF wr_199 m0 m → zV m → (0 ≤ l1.toInt) → (zuw (m0 113) (m 113)) → (zcov (m 110) (m 113) l1.toInt) → zm X 0 0 199 2 [(0, .inr (.inr (some 94))), (1, .inl l1)] m P := by
  intro n
  induction n using Nat.strongRecOn with
  | _ n IH =>
    intro m l1 hmu hF hV hi0 r_UW r_COVK
    refine g_199_2 l1 ?_
    have li1 : (16 : Int32).toInt = 16 := rfl
    have b2 := i_bd l1
    refine zd (fun (h3 : (16 : Int32) ≤ l1) => ?_) (fun (h3 : ¬ (16 : Int32) ≤ l1) => ?_)
    · skip
      have g4 := i_le h3
      exact K _ hF hV r_UW (show zcov (m 110) (m 113) 16 from by first | (exact cov_cut r_COVK (by omega)) | (exact fun hp => cov_0 (by decide)) | (exact fun hp => cov_one (r_COVK hp) rfl (by omega) (by omega) (Or.inl (by omega))) | (exact fun hp => cov_one (r_COVK hp) rfl (by omega) (by omega) (Or.inr (by assumption))) | (exact fun hp => cov_cut (r_COVK hp) (by omega)) | (exfalso; omega; done) | (exfalso; contradiction; done))
    · skip
      have g5 := i_nle h3
      have hg6 : (0 ≤ l1 ∧ l1.toNatClampNeg < 16) := i_ix (by omega) (by omega)
      refine ⟨hg6, ?_⟩
      first | have f7 : -1 ≤ (m 113 l1.toNatClampNeg).toInt ∧ (m 113 l1.toNatClampNeg).toInt ≤ 3099 := ra_113 (m := m) hV (k := l1.toNatClampNeg) (i_ix (n := 16) (by omega) (by omega)).2 | have b8 := i_bd (m 113 l1.toNatClampNeg)
      have li9 : (0 : Int32).toInt = 0 := rfl
      refine zd (fun (h10 : (m 113 l1.toNatClampNeg) < (0 : Int32)) => ?_) (fun (h10 : ¬ (m 113 l1.toNatClampNeg) < (0 : Int32)) => ?_)
      · skip
        have g11 := i_lt h10
        first | have e12 : (l1 + (1 : Int32)).toInt = l1.toInt + (1) := i_addk rfl (by omega) (by omega) | have b13 := i_bd (l1 + (1 : Int32))
        exact IH (16 - (l1 + (1 : Int32)).toInt).toNat (by omega) _ ((l1 + (1 : Int32))) rfl hF hV (by omega) r_UW (show zcov (m 110) (m 113) (l1 + (1 : Int32)).toInt from by first | (exact cov_one r_COVK rfl (by omega) (by omega) (Or.inl (by omega))) | (exact cov_one r_COVK rfl (by omega) (by omega) (Or.inr (by assumption))) | (exact fun hp => cov_0 (by decide)) | (exact fun hp => cov_one (r_COVK hp) rfl (by omega) (by omega) (Or.inl (by omega))) | (exact fun hp => cov_one (r_COVK hp) rfl (by omega) (by omega) (Or.inr (by assumption))) | (exact fun hp => cov_cut (r_COVK hp) (by omega)) | (exfalso; omega; done) | (exfalso; contradiction; done))
      · skip
        have g14 := i_nlt h10
        have hg15 : (0 ≤ l1 ∧ l1.toNatClampNeg < 16) := i_ix (by omega) (by omega)
        refine ⟨hg15, ?_⟩
        have hg16 : (0 ≤ (m 113 l1.toNatClampNeg) ∧ (m 113 l1.toNatClampNeg).toNatClampNeg < 3100) := i_ix (by omega) (by omega)
        refine ⟨hg16, ?_⟩
        first | have f17 : 0 ≤ (m 110 (m 113 l1.toNatClampNeg).toNatClampNeg).toInt ∧ (m 110 (m 113 l1.toNatClampNeg).toNatClampNeg).toInt ≤ 1 := ra_110 (m := m) hV (k := (m 113 l1.toNatClampNeg).toNatClampNeg) (i_ix (n := 3100) (by omega) (by omega)).2 | have b18 := i_bd (m 110 (m 113 l1.toNatClampNeg).toNatClampNeg)
        refine zd (fun (h19 : (m 110 (m 113 l1.toNatClampNeg).toNatClampNeg) = (0 : Int32)) => ?_) (fun (h19 : ¬ (m 110 (m 113 l1.toNatClampNeg).toNatClampNeg) = (0 : Int32)) => ?_)
        · skip
          have g20 := i_eq h19
          have hg21 : (0 ≤ l1 ∧ l1.toNatClampNeg < 16) := i_ix (by omega) (by omega)
          refine ⟨hg21, ?_⟩
          have li23 : (-1 : Int32).toInt = -1 := rfl
          have hV22 : zV (ma_u m 113 l1.toNatClampNeg (-1 : Int32)) := ua_113 hV (by omega) (by omega)
          first | have e24 : (l1 + (1 : Int32)).toInt = l1.toInt + (1) := i_addk rfl (by omega) (by omega) | have b25 := i_bd (l1 + (1 : Int32))
          exact IH (16 - (l1 + (1 : Int32)).toInt).toNat (by omega) _ ((l1 + (1 : Int32))) rfl (zF_u hF rfl) hV22 (by omega) (show zuw (m0 113) ((ma_u m 113 l1.toNatClampNeg (-1 : Int32)) 113) from by first | (exact zuw_put r_UW (by decide)) | (exfalso; omega; done) | (exfalso; contradiction; done)) (show zcov (m 110) ((ma_u m 113 l1.toNatClampNeg (-1 : Int32)) 113) (l1 + (1 : Int32)).toInt from by first | (exact cov_one (cov_uw r_COVK (zuw_put zuw_rfl (by decide))) rfl (by omega) (by omega) (Or.inl (by rw [mu_self]; decide))) | (exact fun hp => cov_one (cov_push (r_COVK hp) (by decide)) rfl (by omega) (by omega) (Or.inr (by rw [mu_self]; decide))) | (exact fun hp => cov_push (r_COVK hp) (by decide)) | (exfalso; omega; done) | (exfalso; contradiction; done))
        · skip
          have g26 := i_ne h19
          first | have e27 : (l1 + (1 : Int32)).toInt = l1.toInt + (1) := i_addk rfl (by omega) (by omega) | have b28 := i_bd (l1 + (1 : Int32))
          exact IH (16 - (l1 + (1 : Int32)).toInt).toNat (by omega) _ ((l1 + (1 : Int32))) rfl hF hV (by omega) r_UW (show zcov (m 110) (m 113) (l1 + (1 : Int32)).toInt from by first | (exact cov_one r_COVK rfl (by omega) (by omega) (Or.inl (by omega))) | (exact cov_one r_COVK rfl (by omega) (by omega) (Or.inr (by assumption))) | (exact fun hp => cov_0 (by decide)) | (exact fun hp => cov_one (r_COVK hp) rfl (by omega) (by omega) (Or.inl (by omega))) | (exact fun hp => cov_one (r_COVK hp) rfl (by omega) (by omega) (Or.inr (by assumption))) | (exact fun hp => cov_cut (r_COVK hp) (by omega)) | (exfalso; omega; done) | (exfalso; contradiction; done))
theorem sp_199 {X : Nat × (Nat → Int32)} {P : Option ma_V → (Nat → Nat → Int32) → Prop} {m : Nat → Nat → Int32}  (hV : zV m)  (KZ : ∀ m', zV (zov wr_199 m m') → (zuw (m 113) (m' 113)) → (zcov (m 110) (m' 113) 16) → P none (zov wr_199 m m')) : zm X 0 0 199 0 [(0, .inr (.inr (some 94)))] m P := by
  have K : ∀ m', zF wr_199 m m' → zV m' → (zuw (m 113) (m' 113)) → (zcov (m' 110) (m' 113) 16) → P none m' := by
    intro m' hf z q0 q1
    have e := zov_eq hf
    rw [e] at z ⊢
    try rw [e] at q0
    try rw [e] at q1
    exact KZ m' z q0 q1
  refine g_199_0  ?_
  have li1 : (0 : Int32).toInt = 0 := rfl
  exact lp_199_2 hV K _ _ ((0 : Int32)) rfl zF_rfl hV (by omega) (show zuw (m 113) (m 113) from by first | (exact zuw_rfl) | (exfalso; omega; done) | (exfalso; contradiction; done)) (show zcov (m 110) (m 113) (0 : Int32).toInt from by first | (exact cov_0 (by decide)) | (exact fun hp => cov_0 (by decide)) | (exfalso; omega; done) | (exfalso; contradiction; done))
