/-! the reference (written by wip/tools/gen94m.py) -/
set_option maxRecDepth 100000 in
theorem hm_234 : ma_md 234 = some (12, yX12_leastEmpty, cX12_leastEmpty, 2, (some (FieldType.int))) := rfl
theorem s_116 : zs 116 = some (20, 128) := rfl
theorem r_94_65 : zfi 94 65 = some 116 := rfl
theorem f_12_80_12 : ma_fld 12 80 12 = some 65 := by decide +kernel
theorem f_12_234_12 : ma_fld 12 234 12 = some 64 := by decide +kernel
theorem dX12_leastEmpty_0 : decode cX12_leastEmpty 0 = .ok (.iconst 0, 1) := by decide +kernel
theorem dX12_leastEmpty_1 : decode cX12_leastEmpty 1 = .ok (.istore_n 1, 1) := by decide +kernel
theorem dX12_leastEmpty_2 : decode cX12_leastEmpty 2 = .ok (.iload_n 1, 1) := by decide +kernel
theorem dX12_leastEmpty_3 : decode cX12_leastEmpty 3 = .ok (.aload_n 0, 1) := by decide +kernel
theorem dX12_leastEmpty_27 : decode cX12_leastEmpty 27 = .ok (.iconst (-1), 1) := by decide +kernel
theorem dX12_leastEmpty_28 : decode cX12_leastEmpty 28 = .ok (.ireturn, 1) := by decide +kernel
theorem dX12_leastEmpty_10 : decode cX12_leastEmpty 10 = .ok (.aload_n 0, 1) := by decide +kernel
theorem dX12_leastEmpty_14 : decode cX12_leastEmpty 14 = .ok (.iload_n 1, 1) := by decide +kernel
theorem dX12_leastEmpty_21 : decode cX12_leastEmpty 21 = .ok (.iinc 1 1, 3) := by decide +kernel
theorem dX12_leastEmpty_24 : decode cX12_leastEmpty 24 = .ok (.goto (-22), 3) := by decide +kernel
theorem dX12_leastEmpty_19 : decode cX12_leastEmpty 19 = .ok (.iload_n 1, 1) := by decide +kernel
theorem dX12_leastEmpty_20 : decode cX12_leastEmpty 20 = .ok (.ireturn, 1) := by decide +kernel
theorem dX12_leastEmpty_16 : decode cX12_leastEmpty 16 = .ok (.ifCond .ne 5, 3) := by decide +kernel
theorem dX12_leastEmpty_15 : decode cX12_leastEmpty 15 = .ok (.iaload, 1) := by decide +kernel
theorem dX12_leastEmpty_11 : decode cX12_leastEmpty 11 = .ok (.getfield 80, 3) := by decide +kernel
theorem dX12_leastEmpty_7 : decode cX12_leastEmpty 7 = .ok (.if_icmp .ge 20, 3) := by decide +kernel
theorem dX12_leastEmpty_4 : decode cX12_leastEmpty 4 = .ok (.getfield 234, 3) := by decide +kernel
def wr_234 (_ _ : Nat) : Bool := false
theorem g_234_0 {X : Nat × (Nat → Int32)} {m : Nat → Nat → Int32} {P : Option ma_V → (Nat → Nat → Int32) → Prop}  (h : zm X 0 0 234 2 [(0, .inr (.inr (some 94))), (1, .inl (0 : Int32))] m P) : zm X 0 0 234 0 [(0, .inr (.inr (some 94)))] m P := by
  intro d w S Q hd hw hS hm HQ
  subst hm
  refine zw_push hm_234 dX12_leastEmpty_0 (v := .inl (0 : Int32)) rfl ?_
  refine zw_sto hm_234 dX12_leastEmpty_1 [(1, .inl (0 : Int32)), (0, .inr (.inr (some 94)))] rfl rfl rfl ?_
  exact zw_sub (ma_nd_of (ks := [0, 1]) rfl (by decide)) (ma_nd_of (ks := [1, 0]) rfl (by decide)) (ma_le_cons rfl (ma_le_cons rfl (ma_le_nil _))) (h d w _ Q (by omega) (by omega) hS rfl HQ)
theorem g_234_2 {X : Nat × (Nat → Int32)} {m : Nat → Nat → Int32} {P : Option ma_V → (Nat → Nat → Int32) → Prop} (l1 : Int32) (h : if (m 94 64) ≤ l1 then (P (some (.inl (-1 : Int32))) m) else ((0 ≤ l1 ∧ l1.toNatClampNeg < 128) ∧ (if (m 116 l1.toNatClampNeg) = 0 then (P (some (.inl l1)) m) else (zm X 0 0 234 2 [(0, .inr (.inr (some 94))), (1, .inl (l1 + (1 : Int32)))] m P)))) : zm X 0 0 234 2 [(0, .inr (.inr (some 94))), (1, .inl l1)] m P := by
  intro d w S Q hd hw hS hm HQ
  subst hm
  refine zw_push hm_234 dX12_leastEmpty_2 (v := .inl l1) rfl ?_
  refine zw_push hm_234 dX12_leastEmpty_3 (v := .inr (.inr (some 94))) rfl ?_
  refine zw_gf hm_234 dX12_leastEmpty_4 (v := .inl ((mI S) 94 64)) (zT_is hS s_94) (zT_t hS s_94) rfl f_12_234_12 rfl ?_
  refine zw_if2 hm_234 dX12_leastEmpty_7 (t := 27) rfl zc2_ge ?_ ?_
  · intro hc
    rw [if_pos hc] at h
    refine zw_push hm_234 dX12_leastEmpty_27 (v := .inl (-1 : Int32)) rfl ?_
    exact zw_iret hm_234 dX12_leastEmpty_28 (HQ _ _ h)
  · intro hc
    rw [if_neg hc] at h
    refine zw_push hm_234 dX12_leastEmpty_10 (v := .inr (.inr (some 94))) rfl ?_
    refine zw_gf hm_234 dX12_leastEmpty_11 (v := .inr (.inr (some 116))) (zT_is hS s_94) (zT_t hS s_94) rfl f_12_80_12 (zT_f hS r_94_65) ?_
    refine zw_push hm_234 dX12_leastEmpty_14 (v := .inl l1) rfl ?_
    obtain ⟨hg, h⟩ := h
    refine zw_ia hm_234 dX12_leastEmpty_15 (zT_is hS s_116) (zT_h hS s_116) rfl hg ?_
    show ma_wp X d w 234 16 [(0, .inr (.inr (some 94))), (1, .inl l1)] [.inl ((mI S) 116 l1.toNatClampNeg)] S _
    refine zw_if0 hm_234 dX12_leastEmpty_16 (t := 21) rfl zc0_ne ?_ ?_
    · intro hc
      rw [if_neg hc] at h
      refine zw_sto hm_234 dX12_leastEmpty_21 [(1, .inl (l1 + (1 : Int32))), (0, .inr (.inr (some 94)))] rfl rfl rfl ?_
      refine zw_goto hm_234 dX12_leastEmpty_24 (t := 2) rfl ?_
      exact zw_sub (ma_nd_of (ks := [0, 1]) rfl (by decide)) (ma_nd_of (ks := [1, 0]) rfl (by decide)) (ma_le_cons rfl (ma_le_cons rfl (ma_le_nil _))) (h d w _ Q (by omega) (by omega) hS rfl HQ)
    · intro hc
      rw [if_pos (Classical.not_not.mp hc)] at h
      refine zw_push hm_234 dX12_leastEmpty_19 (v := .inl l1) rfl ?_
      exact zw_iret hm_234 dX12_leastEmpty_20 (HQ _ _ h)
theorem lp_234_2 {X : Nat × (Nat → Int32)} {P : Option ma_V → (Nat → Nat → Int32) → Prop} {m0 : Nat → Nat → Int32} (h0 : zV m0) (K : ∀ v m', zF wr_234 m0 m' → zV m' → (zLE (m' 116) (m' 94 64) v) → P (some (.inl v)) m') : ∀ (n : Nat) (m : Nat → Nat → Int32) (l1 : Int32), (128 - l1.toInt).toNat = n → zF wr_234 m0 m → zV m → (0 ≤ l1.toInt) → (∀ r : Nat, (r : Int) < l1.toInt → (m 116) r ≠ 0) → zm X 0 0 234 2 [(0, .inr (.inr (some 94))), (1, .inl l1)] m P := by
  intro n
  induction n using Nat.strongRecOn with
  | _ n IH =>
    intro m l1 hmu hF hV hi0 r_LZ
    refine g_234_2 l1 ?_
    have f1 : 0 ≤ (m 94 64).toInt ∧ (m 94 64).toInt ≤ 93 := rs_94_64 (m := m) hV
    have b2 := i_bd l1
    refine zd (fun (h3 : (m 94 64) ≤ l1) => ?_) (fun (h3 : ¬ (m 94 64) ≤ l1) => ?_)
    · skip
      have g4 := i_le h3
      have li5 : (-1 : Int32).toInt = -1 := rfl
      exact K ((-1 : Int32)) _ hF hV (show zLE (m 116) (m 94 64) (-1 : Int32) from by first | (exact Or.inr ⟨by omega, by omega, by assumption⟩) | (exact Or.inl ⟨by decide, fun r hr => r_LZ r (by omega)⟩) | (exfalso; omega; done) | (exfalso; contradiction; done))
    · skip
      have g6 := i_nle h3
      have hg7 : (0 ≤ l1 ∧ l1.toNatClampNeg < 128) := i_ix (by omega) (by omega)
      refine ⟨hg7, ?_⟩
      first | have f8 : 0 ≤ (m 116 l1.toNatClampNeg).toInt ∧ (m 116 l1.toNatClampNeg).toInt ≤ 4600 := ra_116 (m := m) hV (k := l1.toNatClampNeg) (i_ix (n := 128) (by omega) (by omega)).2 | have b9 := i_bd (m 116 l1.toNatClampNeg)
      have li10 : (0 : Int32).toInt = 0 := rfl
      refine zd (fun (h11 : (m 116 l1.toNatClampNeg) = (0 : Int32)) => ?_) (fun (h11 : ¬ (m 116 l1.toNatClampNeg) = (0 : Int32)) => ?_)
      · skip
        have g12 := i_eq h11
        exact K (l1) _ hF hV (show zLE (m 116) (m 94 64) l1 from by first | (exact Or.inr ⟨by omega, by omega, by assumption⟩) | (exact Or.inl ⟨by decide, fun r hr => r_LZ r (by omega)⟩) | (exfalso; omega; done) | (exfalso; contradiction; done))
      · skip
        have g13 := i_ne h11
        first | have e14 : (l1 + (1 : Int32)).toInt = l1.toInt + (1) := i_addk rfl (by omega) (by omega) | have b15 := i_bd (l1 + (1 : Int32))
        exact IH (128 - (l1 + (1 : Int32)).toInt).toNat (by omega) _ ((l1 + (1 : Int32))) rfl hF hV (by omega) (show ∀ r : Nat, (r : Int) < (l1 + (1 : Int32)).toInt → (m 116) r ≠ 0 from by first | (intro r hr; omega; done) | (exact ne_step r_LZ (by omega) (by assumption) (by omega)) | (exfalso; omega; done) | (exfalso; contradiction; done))
theorem sp_234 {X : Nat × (Nat → Int32)} {P : Option ma_V → (Nat → Nat → Int32) → Prop} {m : Nat → Nat → Int32}  (hV : zV m)  (KZ : ∀ v m', zV (zov wr_234 m m') → (zLE (m 116) (m 94 64) v) → P (some (.inl v)) (zov wr_234 m m')) : zm X 0 0 234 0 [(0, .inr (.inr (some 94)))] m P := by
  have K : ∀ v m', zF wr_234 m m' → zV m' → (zLE (m' 116) (m' 94 64) v) → P (some (.inl v)) m' := by
    intro v m' hf z q0
    have e := zov_eq hf
    rw [e] at z ⊢
    try rw [e] at q0
    exact KZ v m' z q0
  refine g_234_0  ?_
  have li1 : (0 : Int32).toInt = 0 := rfl
  exact lp_234_2 hV K _ _ ((0 : Int32)) rfl zF_rfl hV (by omega) (show ∀ r : Nat, (r : Int) < (0 : Int32).toInt → (m 116) r ≠ 0 from by first | (intro r hr; omega; done) | (exfalso; omega; done) | (exfalso; contradiction; done))
set_option maxRecDepth 100000 in
theorem hm_233 : ma_md 233 = some (12, yX12_emptyRegions, cX12_emptyRegions, 3, (some (FieldType.int))) := rfl
theorem dX12_emptyRegions_0 : decode cX12_emptyRegions 0 = .ok (.iconst 0, 1) := by decide +kernel
theorem dX12_emptyRegions_1 : decode cX12_emptyRegions 1 = .ok (.istore_n 1, 1) := by decide +kernel
theorem dX12_emptyRegions_2 : decode cX12_emptyRegions 2 = .ok (.iconst 0, 1) := by decide +kernel
theorem dX12_emptyRegions_3 : decode cX12_emptyRegions 3 = .ok (.istore_n 2, 1) := by decide +kernel
theorem dX12_emptyRegions_4 : decode cX12_emptyRegions 4 = .ok (.iload_n 2, 1) := by decide +kernel
theorem dX12_emptyRegions_5 : decode cX12_emptyRegions 5 = .ok (.aload_n 0, 1) := by decide +kernel
theorem dX12_emptyRegions_30 : decode cX12_emptyRegions 30 = .ok (.iload_n 1, 1) := by decide +kernel
theorem dX12_emptyRegions_31 : decode cX12_emptyRegions 31 = .ok (.ireturn, 1) := by decide +kernel
theorem dX12_emptyRegions_12 : decode cX12_emptyRegions 12 = .ok (.aload_n 0, 1) := by decide +kernel
theorem dX12_emptyRegions_16 : decode cX12_emptyRegions 16 = .ok (.iload_n 2, 1) := by decide +kernel
theorem dX12_emptyRegions_24 : decode cX12_emptyRegions 24 = .ok (.iinc 2 1, 3) := by decide +kernel
theorem dX12_emptyRegions_27 : decode cX12_emptyRegions 27 = .ok (.goto (-23), 3) := by decide +kernel
theorem dX12_emptyRegions_21 : decode cX12_emptyRegions 21 = .ok (.iinc 1 1, 3) := by decide +kernel
theorem dX12_emptyRegions_18 : decode cX12_emptyRegions 18 = .ok (.ifCond .ne 6, 3) := by decide +kernel
theorem dX12_emptyRegions_17 : decode cX12_emptyRegions 17 = .ok (.iaload, 1) := by decide +kernel
theorem dX12_emptyRegions_13 : decode cX12_emptyRegions 13 = .ok (.getfield 80, 3) := by decide +kernel
theorem dX12_emptyRegions_9 : decode cX12_emptyRegions 9 = .ok (.if_icmp .ge 21, 3) := by decide +kernel
theorem dX12_emptyRegions_6 : decode cX12_emptyRegions 6 = .ok (.getfield 234, 3) := by decide +kernel
def wr_233 (_ _ : Nat) : Bool := false
theorem g_233_0 {X : Nat × (Nat → Int32)} {m : Nat → Nat → Int32} {P : Option ma_V → (Nat → Nat → Int32) → Prop}  (h : zm X 0 0 233 4 [(0, .inr (.inr (some 94))), (1, .inl (0 : Int32)), (2, .inl (0 : Int32))] m P) : zm X 0 0 233 0 [(0, .inr (.inr (some 94)))] m P := by
  intro d w S Q hd hw hS hm HQ
  subst hm
  refine zw_push hm_233 dX12_emptyRegions_0 (v := .inl (0 : Int32)) rfl ?_
  refine zw_sto hm_233 dX12_emptyRegions_1 [(1, .inl (0 : Int32)), (0, .inr (.inr (some 94)))] rfl rfl rfl ?_
  refine zw_push hm_233 dX12_emptyRegions_2 (v := .inl (0 : Int32)) rfl ?_
  refine zw_sto hm_233 dX12_emptyRegions_3 [(2, .inl (0 : Int32)), (1, .inl (0 : Int32)), (0, .inr (.inr (some 94)))] rfl rfl rfl ?_
  exact zw_sub (ma_nd_of (ks := [0, 1, 2]) rfl (by decide)) (ma_nd_of (ks := [2, 1, 0]) rfl (by decide)) (ma_le_cons rfl (ma_le_cons rfl (ma_le_cons rfl (ma_le_nil _)))) (h d w _ Q (by omega) (by omega) hS rfl HQ)
theorem g_233_4 {X : Nat × (Nat → Int32)} {m : Nat → Nat → Int32} {P : Option ma_V → (Nat → Nat → Int32) → Prop} (l1 : Int32) (l2 : Int32) (h : if (m 94 64) ≤ l2 then (P (some (.inl l1)) m) else ((0 ≤ l2 ∧ l2.toNatClampNeg < 128) ∧ (if (m 116 l2.toNatClampNeg) = 0 then (zm X 0 0 233 4 [(0, .inr (.inr (some 94))), (1, .inl (l1 + (1 : Int32))), (2, .inl (l2 + (1 : Int32)))] m P) else (zm X 0 0 233 4 [(0, .inr (.inr (some 94))), (1, .inl l1), (2, .inl (l2 + (1 : Int32)))] m P)))) : zm X 0 0 233 4 [(0, .inr (.inr (some 94))), (1, .inl l1), (2, .inl l2)] m P := by
  intro d w S Q hd hw hS hm HQ
  subst hm
  refine zw_push hm_233 dX12_emptyRegions_4 (v := .inl l2) rfl ?_
  refine zw_push hm_233 dX12_emptyRegions_5 (v := .inr (.inr (some 94))) rfl ?_
  refine zw_gf hm_233 dX12_emptyRegions_6 (v := .inl ((mI S) 94 64)) (zT_is hS s_94) (zT_t hS s_94) rfl f_12_234_12 rfl ?_
  refine zw_if2 hm_233 dX12_emptyRegions_9 (t := 30) rfl zc2_ge ?_ ?_
  · intro hc
    rw [if_pos hc] at h
    refine zw_push hm_233 dX12_emptyRegions_30 (v := .inl l1) rfl ?_
    exact zw_iret hm_233 dX12_emptyRegions_31 (HQ _ _ h)
  · intro hc
    rw [if_neg hc] at h
    refine zw_push hm_233 dX12_emptyRegions_12 (v := .inr (.inr (some 94))) rfl ?_
    refine zw_gf hm_233 dX12_emptyRegions_13 (v := .inr (.inr (some 116))) (zT_is hS s_94) (zT_t hS s_94) rfl f_12_80_12 (zT_f hS r_94_65) ?_
    refine zw_push hm_233 dX12_emptyRegions_16 (v := .inl l2) rfl ?_
    obtain ⟨hg, h⟩ := h
    refine zw_ia hm_233 dX12_emptyRegions_17 (zT_is hS s_116) (zT_h hS s_116) rfl hg ?_
    show ma_wp X d w 233 18 [(0, .inr (.inr (some 94))), (1, .inl l1), (2, .inl l2)] [.inl ((mI S) 116 l2.toNatClampNeg)] S _
    refine zw_if0 hm_233 dX12_emptyRegions_18 (t := 24) rfl zc0_ne ?_ ?_
    · intro hc
      rw [if_neg hc] at h
      refine zw_sto hm_233 dX12_emptyRegions_24 [(2, .inl (l2 + (1 : Int32))), (0, .inr (.inr (some 94))), (1, .inl l1)] rfl rfl rfl ?_
      refine zw_goto hm_233 dX12_emptyRegions_27 (t := 4) rfl ?_
      exact zw_sub (ma_nd_of (ks := [0, 1, 2]) rfl (by decide)) (ma_nd_of (ks := [2, 0, 1]) rfl (by decide)) (ma_le_cons rfl (ma_le_cons rfl (ma_le_cons rfl (ma_le_nil _)))) (h d w _ Q (by omega) (by omega) hS rfl HQ)
    · intro hc
      rw [if_pos (Classical.not_not.mp hc)] at h
      refine zw_sto hm_233 dX12_emptyRegions_21 [(1, .inl (l1 + (1 : Int32))), (0, .inr (.inr (some 94))), (2, .inl l2)] rfl rfl rfl ?_
      refine zw_sto hm_233 dX12_emptyRegions_24 [(2, .inl (l2 + (1 : Int32))), (1, .inl (l1 + (1 : Int32))), (0, .inr (.inr (some 94)))] rfl rfl rfl ?_
      refine zw_goto hm_233 dX12_emptyRegions_27 (t := 4) rfl ?_
      exact zw_sub (ma_nd_of (ks := [0, 1, 2]) rfl (by decide)) (ma_nd_of (ks := [2, 1, 0]) rfl (by decide)) (ma_le_cons rfl (ma_le_cons rfl (ma_le_cons rfl (ma_le_nil _)))) (h d w _ Q (by omega) (by omega) hS rfl HQ)
theorem lp_233_4 {X : Nat × (Nat → Int32)} {P : Option ma_V → (Nat → Nat → Int32) → Prop} {m0 : Nat → Nat → Int32} (h0 : zV m0) (K : ∀ v m', zF wr_233 m0 m' → zV m' → (v.toInt ≤ 0 ∨ ∃ r : Nat, (r : Int) < (m' 94 64).toInt ∧ (m' 116) r = 0) → P (some (.inl v)) m') : ∀ (n : Nat) (m : Nat → Nat → Int32) (l1 : Int32) (l2 : Int32), (128 - l2.toInt).toNat = n → zF wr_233 m0 m → zV m → (0 ≤ l2.toInt) → (l1.toInt ≤ 0 ∨ ∃ r : Nat, (r : Int) < (m 94 64).toInt ∧ (m 116) r = 0) → zm X 0 0 233 4 [(0, .inr (.inr (some 94))), (1, .inl l1), (2, .inl l2)] m P := by
  intro n
  induction n using Nat.strongRecOn with
  | _ n IH =>
    intro m l1 l2 hmu hF hV hi0 r_EMl
    refine g_233_4 l1 l2 ?_
    have f1 : 0 ≤ (m 94 64).toInt ∧ (m 94 64).toInt ≤ 93 := rs_94_64 (m := m) hV
    have b2 := i_bd l2
    refine zd (fun (h3 : (m 94 64) ≤ l2) => ?_) (fun (h3 : ¬ (m 94 64) ≤ l2) => ?_)
    · skip
      have g4 := i_le h3
      have b5 := i_bd l1
      exact K (l1) _ hF hV (show l1.toInt ≤ 0 ∨ ∃ r : Nat, (r : Int) < (m 94 64).toInt ∧ (m 116) r = 0 from by first | (exact r_EMl) | (exfalso; omega; done) | (exfalso; contradiction; done))
    · skip
      have g6 := i_nle h3
      have hg7 : (0 ≤ l2 ∧ l2.toNatClampNeg < 128) := i_ix (by omega) (by omega)
      refine ⟨hg7, ?_⟩
      first | have f8 : 0 ≤ (m 116 l2.toNatClampNeg).toInt ∧ (m 116 l2.toNatClampNeg).toInt ≤ 4600 := ra_116 (m := m) hV (k := l2.toNatClampNeg) (i_ix (n := 128) (by omega) (by omega)).2 | have b9 := i_bd (m 116 l2.toNatClampNeg)
      have li10 : (0 : Int32).toInt = 0 := rfl
      refine zd (fun (h11 : (m 116 l2.toNatClampNeg) = (0 : Int32)) => ?_) (fun (h11 : ¬ (m 116 l2.toNatClampNeg) = (0 : Int32)) => ?_)
      · skip
        have g12 := i_eq h11
        have b13 := i_bd l1
        first | have e14 : (l1 + (1 : Int32)).toInt = l1.toInt + (1) := i_addk rfl (by omega) (by omega) | have b15 := i_bd (l1 + (1 : Int32))
        first | have e16 : (l2 + (1 : Int32)).toInt = l2.toInt + (1) := i_addk rfl (by omega) (by omega) | have b17 := i_bd (l2 + (1 : Int32))
        exact IH (128 - (l2 + (1 : Int32)).toInt).toNat (by omega) _ ((l1 + (1 : Int32))) ((l2 + (1 : Int32))) rfl hF hV (by omega) (show (l1 + (1 : Int32)).toInt ≤ 0 ∨ ∃ r : Nat, (r : Int) < (m 94 64).toInt ∧ (m 116) r = 0 from by first | (exact Or.inl (by decide)) | (exact Or.inr ⟨l2.toNatClampNeg, by rw [tn_cast (by omega)]; omega, by assumption⟩) | (exfalso; omega; done) | (exfalso; contradiction; done))
      · skip
        have g18 := i_ne h11
        have b19 := i_bd l1
        first | have e20 : (l2 + (1 : Int32)).toInt = l2.toInt + (1) := i_addk rfl (by omega) (by omega) | have b21 := i_bd (l2 + (1 : Int32))
        exact IH (128 - (l2 + (1 : Int32)).toInt).toNat (by omega) _ (l1) ((l2 + (1 : Int32))) rfl hF hV (by omega) r_EMl
theorem sp_233 {X : Nat × (Nat → Int32)} {P : Option ma_V → (Nat → Nat → Int32) → Prop} {m : Nat → Nat → Int32}  (hV : zV m)  (KZ : ∀ v m', zV (zov wr_233 m m') → (v.toInt ≤ 0 ∨ ∃ r : Nat, (r : Int) < (m 94 64).toInt ∧ (m 116) r = 0) → P (some (.inl v)) (zov wr_233 m m')) : zm X 0 0 233 0 [(0, .inr (.inr (some 94)))] m P := by
  have K : ∀ v m', zF wr_233 m m' → zV m' → (v.toInt ≤ 0 ∨ ∃ r : Nat, (r : Int) < (m' 94 64).toInt ∧ (m' 116) r = 0) → P (some (.inl v)) m' := by
    intro v m' hf z q0
    have e := zov_eq hf
    rw [e] at z ⊢
    try rw [e] at q0
    exact KZ v m' z q0
  refine g_233_0  ?_
  have li1 : (0 : Int32).toInt = 0 := rfl
  exact lp_233_4 hV K _ _ ((0 : Int32)) ((0 : Int32)) rfl zF_rfl hV (by omega) (show (0 : Int32).toInt ≤ 0 ∨ ∃ r : Nat, (r : Int) < (m 94 64).toInt ∧ (m 116) r = 0 from by first | (exact Or.inl (by decide)) | (exact Or.inr ⟨l2.toNatClampNeg, by rw [tn_cast (by omega)]; omega, by assumption⟩) | (exfalso; omega; done) | (exfalso; contradiction; done))
