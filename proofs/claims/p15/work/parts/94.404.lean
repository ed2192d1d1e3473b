/-! the reference (written by wip/tools/gen94m.py) -/
set_option maxRecDepth 100000 in
theorem hm_246 : ma_md 246 = some (12, yX12_placeOf, cX12_placeOf, 3, (some (FieldType.int))) := rfl
theorem s_99 : zs 99 = some (22, 3100) := rfl
theorem s_100 : zs 100 = some (20, 3100) := rfl
theorem r_94_31 : zfi 94 31 = some 99 := rfl
theorem r_94_32 : zfi 94 32 = some 100 := rfl
theorem f_12_27_12 : ma_fld 12 27 12 = some 31 := by decide +kernel
theorem f_12_31_12 : ma_fld 12 31 12 = some 32 := by decide +kernel
theorem dX12_placeOf_0 : decode cX12_placeOf 0 = .ok (.iconst 0, 1) := by decide +kernel
theorem dX12_placeOf_1 : decode cX12_placeOf 1 = .ok (.istore_n 2, 1) := by decide +kernel
theorem dX12_placeOf_2 : decode cX12_placeOf 2 = .ok (.iload_n 2, 1) := by decide +kernel
theorem dX12_placeOf_3 : decode cX12_placeOf 3 = .ok (.sipush 3100, 3) := by decide +kernel
theorem dX12_placeOf_36 : decode cX12_placeOf 36 = .ok (.iconst (-1), 1) := by decide +kernel
theorem dX12_placeOf_37 : decode cX12_placeOf 37 = .ok (.ireturn, 1) := by decide +kernel
theorem dX12_placeOf_9 : decode cX12_placeOf 9 = .ok (.aload_n 0, 1) := by decide +kernel
theorem dX12_placeOf_13 : decode cX12_placeOf 13 = .ok (.iload_n 2, 1) := by decide +kernel
theorem dX12_placeOf_30 : decode cX12_placeOf 30 = .ok (.iinc 2 1, 3) := by decide +kernel
theorem dX12_placeOf_33 : decode cX12_placeOf 33 = .ok (.goto (-31), 3) := by decide +kernel
theorem dX12_placeOf_18 : decode cX12_placeOf 18 = .ok (.aload_n 0, 1) := by decide +kernel
theorem dX12_placeOf_22 : decode cX12_placeOf 22 = .ok (.iload_n 2, 1) := by decide +kernel
theorem dX12_placeOf_24 : decode cX12_placeOf 24 = .ok (.iload_n 1, 1) := by decide +kernel
theorem dX12_placeOf_28 : decode cX12_placeOf 28 = .ok (.iload_n 2, 1) := by decide +kernel
theorem dX12_placeOf_29 : decode cX12_placeOf 29 = .ok (.ireturn, 1) := by decide +kernel
theorem dX12_placeOf_25 : decode cX12_placeOf 25 = .ok (.if_icmp .ne 5, 3) := by decide +kernel
theorem dX12_placeOf_23 : decode cX12_placeOf 23 = .ok (.iaload, 1) := by decide +kernel
theorem dX12_placeOf_19 : decode cX12_placeOf 19 = .ok (.getfield 31, 3) := by decide +kernel
theorem dX12_placeOf_15 : decode cX12_placeOf 15 = .ok (.ifCond .eq 15, 3) := by decide +kernel
theorem dX12_placeOf_14 : decode cX12_placeOf 14 = .ok (.baload, 1) := by decide +kernel
theorem dX12_placeOf_10 : decode cX12_placeOf 10 = .ok (.getfield 27, 3) := by decide +kernel
theorem dX12_placeOf_6 : decode cX12_placeOf 6 = .ok (.if_icmp .ge 30, 3) := by decide +kernel
def wr_246 (_ _ : Nat) : Bool := false
theorem g_246_0 {X : Nat × (Nat → Int32)} {m : Nat → Nat → Int32} {P : Option ma_V → (Nat → Nat → Int32) → Prop} (n : Int32) (h : zm X 0 0 246 2 [(0, .inr (.inr (some 94))), (1, .inl n), (2, .inl (0 : Int32))] m P) : zm X 0 0 246 0 [(0, .inr (.inr (some 94))), (1, .inl n)] m P := by
  intro d w S Q hd hw hS hm HQ
  subst hm
  refine zw_push hm_246 dX12_placeOf_0 (v := .inl (0 : Int32)) rfl ?_
  refine zw_sto hm_246 dX12_placeOf_1 [(2, .inl (0 : Int32)), (0, .inr (.inr (some 94))), (1, .inl n)] rfl rfl rfl ?_
  exact zw_sub (ma_nd_of (ks := [0, 1, 2]) rfl (by decide)) (ma_nd_of (ks := [2, 0, 1]) rfl (by decide)) (ma_le_cons rfl (ma_le_cons rfl (ma_le_cons rfl (ma_le_nil _)))) (h d w _ Q (by omega) (by omega) hS rfl HQ)
theorem g_246_2 {X : Nat × (Nat → Int32)} {m : Nat → Nat → Int32} {P : Option ma_V → (Nat → Nat → Int32) → Prop} (l1 : Int32) (l2 : Int32) (h : if (3100 : Int32) ≤ l2 then (P (some (.inl (-1 : Int32))) m) else ((0 ≤ l2 ∧ l2.toNatClampNeg < 3100) ∧ (if (m 99 l2.toNatClampNeg) = 0 then (zm X 0 0 246 2 [(0, .inr (.inr (some 94))), (1, .inl l1), (2, .inl (l2 + (1 : Int32)))] m P) else ((0 ≤ l2 ∧ l2.toNatClampNeg < 3100) ∧ (if (m 100 l2.toNatClampNeg) = l1 then (P (some (.inl l2)) m) else (zm X 0 0 246 2 [(0, .inr (.inr (some 94))), (1, .inl l1), (2, .inl (l2 + (1 : Int32)))] m P)))))) : zm X 0 0 246 2 [(0, .inr (.inr (some 94))), (1, .inl l1), (2, .inl l2)] m P := by
  intro d w S Q hd hw hS hm HQ
  subst hm
  refine zw_push hm_246 dX12_placeOf_2 (v := .inl l2) rfl ?_
  refine zw_push hm_246 dX12_placeOf_3 (v := .inl (3100 : Int32)) rfl ?_
  refine zw_if2 hm_246 dX12_placeOf_6 (t := 36) rfl zc2_ge ?_ ?_
  · intro hc
    rw [if_pos hc] at h
    refine zw_push hm_246 dX12_placeOf_36 (v := .inl (-1 : Int32)) rfl ?_
    exact zw_iret hm_246 dX12_placeOf_37 (HQ _ _ h)
  · intro hc
    rw [if_neg hc] at h
    refine zw_push hm_246 dX12_placeOf_9 (v := .inr (.inr (some 94))) rfl ?_
    refine zw_gf hm_246 dX12_placeOf_10 (v := .inr (.inr (some 99))) (zT_is hS s_94) (zT_t hS s_94) rfl f_12_27_12 (zT_f hS r_94_31) ?_
    refine zw_push hm_246 dX12_placeOf_13 (v := .inl l2) rfl ?_
    obtain ⟨hg, h⟩ := h
    refine zw_ba hm_246 dX12_placeOf_14 (zT_is hS s_99) (zT_h hS s_99) rfl rfl hg ?_
    show ma_wp X d w 246 15 [(0, .inr (.inr (some 94))), (1, .inl l1), (2, .inl l2)] [.inl ((mI S) 99 l2.toNatClampNeg)] S _
    refine zw_if0 hm_246 dX12_placeOf_15 (t := 30) rfl zc0_eq ?_ ?_
    · intro hc
      rw [if_pos hc] at h
      refine zw_sto hm_246 dX12_placeOf_30 [(2, .inl (l2 + (1 : Int32))), (0, .inr (.inr (some 94))), (1, .inl l1)] rfl rfl rfl ?_
      refine zw_goto hm_246 dX12_placeOf_33 (t := 2) rfl ?_
      exact zw_sub (ma_nd_of (ks := [0, 1, 2]) rfl (by decide)) (ma_nd_of (ks := [2, 0, 1]) rfl (by decide)) (ma_le_cons rfl (ma_le_cons rfl (ma_le_cons rfl (ma_le_nil _)))) (h d w _ Q (by omega) (by omega) hS rfl HQ)
    · intro hc
      rw [if_neg hc] at h
      refine zw_push hm_246 dX12_placeOf_18 (v := .inr (.inr (some 94))) rfl ?_
      refine zw_gf hm_246 dX12_placeOf_19 (v := .inr (.inr (some 100))) (zT_is hS s_94) (zT_t hS s_94) rfl f_12_31_12 (zT_f hS r_94_32) ?_
      refine zw_push hm_246 dX12_placeOf_22 (v := .inl l2) rfl ?_
      obtain ⟨hg, h⟩ := h
      refine zw_ia hm_246 dX12_placeOf_23 (zT_is hS s_100) (zT_h hS s_100) rfl hg ?_
      show ma_wp X d w 246 24 [(0, .inr (.inr (some 94))), (1, .inl l1), (2, .inl l2)] [.inl ((mI S) 100 l2.toNatClampNeg)] S _
      refine zw_push hm_246 dX12_placeOf_24 (v := .inl l1) rfl ?_
      refine zw_if2 hm_246 dX12_placeOf_25 (t := 30) rfl zc2_ne ?_ ?_
      · intro hc
        rw [if_neg hc] at h
        refine zw_sto hm_246 dX12_placeOf_30 [(2, .inl (l2 + (1 : Int32))), (0, .inr (.inr (some 94))), (1, .inl l1)] rfl rfl rfl ?_
        refine zw_goto hm_246 dX12_placeOf_33 (t := 2) rfl ?_
        exact zw_sub (ma_nd_of (ks := [0, 1, 2]) rfl (by decide)) (ma_nd_of (ks := [2, 0, 1]) rfl (by decide)) (ma_le_cons rfl (ma_le_cons rfl (ma_le_cons rfl (ma_le_nil _)))) (h d w _ Q (by omega) (by omega) hS rfl HQ)
      · intro hc
        rw [if_pos (Classical.not_not.mp hc)] at h
        refine zw_push hm_246 dX12_placeOf_28 (v := .inl l2) rfl ?_
        exact zw_iret hm_246 dX12_placeOf_29 (HQ _ _ h)
theorem lp_246_2 {X : Nat × (Nat → Int32)} {P : Option ma_V → (Nat → Nat → Int32) → Prop} {n : Int32} {m0 : Nat → Nat → Int32} (h0 : zV m0) (K : ∀ v m', zF wr_246 m0 m' → zV m' → (-1 ≤ v.toInt ∧ v.toInt ≤ 3099) → P (some (.inl v)) m') : ∀ (n : Nat) (m : Nat → Nat → Int32) (l1 : Int32) (l2 : Int32), (3100 - l2.toInt).toNat = n → zF wr_246 m0 m → zV m → (0 ≤ l2.toInt) → zm X 0 0 246 2 [(0, .inr (.inr (some 94))), (1, .inl l1), (2, .inl l2)] m P := by
  intro n
  induction n using Nat.strongRecOn with
  | _ n IH =>
    intro m l1 l2 hmu hF hV hi0
    refine g_246_2 l1 l2 ?_
    have li1 : (3100 : Int32).toInt = 3100 := rfl
    have b2 := i_bd l2
    refine zd (fun (h3 : (3100 : Int32) ≤ l2) => ?_) (fun (h3 : ¬ (3100 : Int32) ≤ l2) => ?_)
    · skip
      have g4 := i_le h3
      have li5 : (-1 : Int32).toInt = -1 := rfl
      exact K ((-1 : Int32)) _ hF hV (show -1 ≤ (-1 : Int32).toInt ∧ (-1 : Int32).toInt ≤ 3099 from by omega)
    · skip
      have g6 := i_nle h3
      have hg7 : (0 ≤ l2 ∧ l2.toNatClampNeg < 3100) := i_ix (by omega) (by omega)
      refine ⟨hg7, ?_⟩
      first | have f8 : 0 ≤ (m 99 l2.toNatClampNeg).toInt ∧ (m 99 l2.toNatClampNeg).toInt ≤ 1 := ra_99 (m := m) hV (k := l2.toNatClampNeg) (i_ix (n := 3100) (by omega) (by omega)).2 | have b9 := i_bd (m 99 l2.toNatClampNeg)
      have li10 : (0 : Int32).toInt = 0 := rfl
      refine zd (fun (h11 : (m 99 l2.toNatClampNeg) = (0 : Int32)) => ?_) (fun (h11 : ¬ (m 99 l2.toNatClampNeg) = (0 : Int32)) => ?_)
      · skip
        have g12 := i_eq h11
        have b13 := i_bd l1
        first | have e14 : (l2 + (1 : Int32)).toInt = l2.toInt + (1) := i_addk rfl (by omega) (by omega) | have b15 := i_bd (l2 + (1 : Int32))
        exact IH (3100 - (l2 + (1 : Int32)).toInt).toNat (by omega) _ (l1) ((l2 + (1 : Int32))) rfl hF hV (by omega)
      · skip
        have g16 := i_ne h11
        have hg17 : (0 ≤ l2 ∧ l2.toNatClampNeg < 3100) := i_ix (by omega) (by omega)
        refine ⟨hg17, ?_⟩
        first | have f18 : 0 ≤ (m 100 l2.toNatClampNeg).toInt ∧ (m 100 l2.toNatClampNeg).toInt ≤ 100000 := ra_100 (m := m) hV (k := l2.toNatClampNeg) (i_ix (n := 3100) (by omega) (by omega)).2 | have b19 := i_bd (m 100 l2.toNatClampNeg)
        have b20 := i_bd l1
        refine zd (fun (h21 : (m 100 l2.toNatClampNeg) = l1) => ?_) (fun (h21 : ¬ (m 100 l2.toNatClampNeg) = l1) => ?_)
        · skip
          have g22 := i_eq h21
          exact K (l2) _ hF hV (show -1 ≤ l2.toInt ∧ l2.toInt ≤ 3099 from by omega)
        · skip
          have g23 := i_ne h21
          first | have e24 : (l2 + (1 : Int32)).toInt = l2.toInt + (1) := i_addk rfl (by omega) (by omega) | have b25 := i_bd (l2 + (1 : Int32))
          exact IH (3100 - (l2 + (1 : Int32)).toInt).toNat (by omega) _ (l1) ((l2 + (1 : Int32))) rfl hF hV (by omega)
theorem sp_246 {X : Nat × (Nat → Int32)} {P : Option ma_V → (Nat → Nat → Int32) → Prop} {m : Nat → Nat → Int32} (n : Int32) (hV : zV m)  (KZ : ∀ v m', zV (zov wr_246 m m') → (-1 ≤ v.toInt ∧ v.toInt ≤ 3099) → P (some (.inl v)) (zov wr_246 m m')) : zm X 0 0 246 0 [(0, .inr (.inr (some 94))), (1, .inl n)] m P := by
  have K : ∀ v m', zF wr_246 m m' → zV m' → (-1 ≤ v.toInt ∧ v.toInt ≤ 3099) → P (some (.inl v)) m' := by
    intro v m' hf z q0
    have e := zov_eq hf
    rw [e] at z ⊢
    try rw [e] at q0
    exact KZ v m' z q0
  refine g_246_0 n ?_
  have b1 := i_bd n
  have li2 : (0 : Int32).toInt = 0 := rfl
  exact lp_246_2 (n := n) hV K _ _ (n) ((0 : Int32)) rfl zF_rfl hV (by omega)
set_option maxRecDepth 100000 in
theorem hm_189 : ma_md 189 = some (12, yX12_keepNone, cX12_keepNone, 2, none) := rfl
theorem s_110 : zs 110 = some (22, 3100) := rfl
theorem r_94_42 : zfi 94 42 = some 110 := rfl
theorem f_12_62_12 : ma_fld 12 62 12 = some 42 := by decide +kernel
theorem dX12_keepNone_0 : decode cX12_keepNone 0 = .ok (.iconst 0, 1) := by decide +kernel
theorem dX12_keepNone_1 : decode cX12_keepNone 1 = .ok (.istore_n 1, 1) := by decide +kernel
theorem dX12_keepNone_2 : decode cX12_keepNone 2 = .ok (.iload_n 1, 1) := by decide +kernel
theorem dX12_keepNone_3 : decode cX12_keepNone 3 = .ok (.sipush 3100, 3) := by decide +kernel
theorem dX12_keepNone_22 : decode cX12_keepNone 22 = .ok (.return_, 1) := by decide +kernel
theorem dX12_keepNone_9 : decode cX12_keepNone 9 = .ok (.aload_n 0, 1) := by decide +kernel
theorem dX12_keepNone_13 : decode cX12_keepNone 13 = .ok (.iload_n 1, 1) := by decide +kernel
theorem dX12_keepNone_14 : decode cX12_keepNone 14 = .ok (.iconst 0, 1) := by decide +kernel
theorem dX12_keepNone_16 : decode cX12_keepNone 16 = .ok (.iinc 1 1, 3) := by decide +kernel
theorem dX12_keepNone_19 : decode cX12_keepNone 19 = .ok (.goto (-17), 3) := by decide +kernel
theorem dX12_keepNone_15 : decode cX12_keepNone 15 = .ok (.bastore, 1) := by decide +kernel
theorem dX12_keepNone_10 : decode cX12_keepNone 10 = .ok (.getfield 62, 3) := by decide +kernel
theorem dX12_keepNone_6 : decode cX12_keepNone 6 = .ok (.if_icmp .ge 16, 3) := by decide +kernel
def wr_189 (c _ : Nat) : Bool := Nat.beq c 110
theorem g_189_0 {X : Nat × (Nat → Int32)} {m : Nat → Nat → Int32} {P : Option ma_V → (Nat → Nat → Int32) → Prop}  (h : zm X 0 0 189 2 [(0, .inr (.inr (some 94))), (1, .inl (0 : Int32))] m P) : zm X 0 0 189 0 [(0, .inr (.inr (some 94)))] m P := by
  intro d w S Q hd hw hS hm HQ
  subst hm
  refine zw_push hm_189 dX12_keepNone_0 (v := .inl (0 : Int32)) rfl ?_
  refine zw_sto hm_189 dX12_keepNone_1 [(1, .inl (0 : Int32)), (0, .inr (.inr (some 94)))] rfl rfl rfl ?_
  exact zw_sub (ma_nd_of (ks := [0, 1]) rfl (by decide)) (ma_nd_of (ks := [1, 0]) rfl (by decide)) (ma_le_cons rfl (ma_le_cons rfl (ma_le_nil _))) (h d w _ Q (by omega) (by omega) hS rfl HQ)
theorem g_189_2 {X : Nat × (Nat → Int32)} {m : Nat → Nat → Int32} {P : Option ma_V → (Nat → Nat → Int32) → Prop} (l1 : Int32) (h : if (3100 : Int32) ≤ l1 then (P none m) else ((0 ≤ l1 ∧ l1.toNatClampNeg < 3100) ∧ (zm X 0 0 189 2 [(0, .inr (.inr (some 94))), (1, .inl (l1 + (1 : Int32)))] (ma_u m 110 l1.toNatClampNeg (0 : Int32)) P))) : zm X 0 0 189 2 [(0, .inr (.inr (some 94))), (1, .inl l1)] m P := by
  intro d w S Q hd hw hS hm HQ
  subst hm
  refine zw_push hm_189 dX12_keepNone_2 (v := .inl l1) rfl ?_
  refine zw_push hm_189 dX12_keepNone_3 (v := .inl (3100 : Int32)) rfl ?_
  refine zw_if2 hm_189 dX12_keepNone_6 (t := 22) rfl zc2_ge ?_ ?_
  · intro hc
    rw [if_pos hc] at h
    exact zw_vret hm_189 dX12_keepNone_22 (HQ _ _ h)
  · intro hc
    rw [if_neg hc] at h
    refine zw_push hm_189 dX12_keepNone_9 (v := .inr (.inr (some 94))) rfl ?_
    refine zw_gf hm_189 dX12_keepNone_10 (v := .inr (.inr (some 110))) (zT_is hS s_94) (zT_t hS s_94) rfl f_12_62_12 (zT_f hS r_94_42) ?_
    refine zw_push hm_189 dX12_keepNone_13 (v := .inl l1) rfl ?_
    refine zw_push hm_189 dX12_keepNone_14 (v := .inl (0 : Int32)) rfl ?_
    obtain ⟨hg, h⟩ := h
    refine zw_bas22l hm_189 dX12_keepNone_15 (hx := by decide) (yv := (0 : Int32)) (zT_is hS s_110) (zT_h hS s_110) rfl hg ?_
    refine zw_sto hm_189 dX12_keepNone_16 [(1, .inl (l1 + (1 : Int32))), (0, .inr (.inr (some 94)))] rfl rfl rfl ?_
    refine zw_goto hm_189 dX12_keepNone_19 (t := 2) rfl ?_
    exact zw_sub (ma_nd_of (ks := [0, 1]) rfl (by decide)) (ma_nd_of (ks := [1, 0]) rfl (by decide)) (ma_le_cons rfl (ma_le_cons rfl (ma_le_nil _))) (h d w _ Q (by omega) (by omega) (zT_pi hS) rfl HQ)
theorem lp_189_2 {X : Nat × (Nat → Int32)} {P : Option ma_V → (Nat → Nat → Int32) → Prop} {m0 : Nat → Nat → Int32} (h0 : zV m0) (K : ∀ m', zF wr_189 m0 m' → zV m' → (∀ s : Nat, s < 3100 → (m' 110) s = 0) → P none m') : ∀ (n : Nat) (m : Nat → Nat → Int32) (l1 : Int32), (3100 - l1.toInt).toNat = n → zF wr_189 m0 m → zV m → (0 ≤ l1.toInt) → (∀ s : Nat, (s : Int) < l1.toInt → (m 110) s = 0) → zm X 0 0 189 2 [(0, .inr (.inr (some 94))), (1, .inl l1)] m P := by
  intro n
  induction n using Nat.strongRecOn with
  | _ n IH =>
    intro m l1 hmu hF hV hi0 r_KZ0
    refine g_189_2 l1 ?_
    have li1 : (3100 : Int32).toInt = 3100 := rfl
    have b2 := i_bd l1
    refine zd (fun (h3 : (3100 : Int32) ≤ l1) => ?_) (fun (h3 : ¬ (3100 : Int32) ≤ l1) => ?_)
    · skip
      have g4 := i_le h3
      exact K _ hF hV (show ∀ s : Nat, s < 3100 → (m 110) s = 0 from by first | (exact z0_all r_KZ0 (by omega)) | (exfalso; omega; done) | (exfalso; contradiction; done))
    · skip
      have g5 := i_nle h3
      have hg6 : (0 ≤ l1 ∧ l1.toNatClampNeg < 3100) := i_ix (by omega) (by omega)
      refine ⟨hg6, ?_⟩
      have li8 : (0 : Int32).toInt = 0 := rfl
      have hV7 : zV (ma_u m 110 l1.toNatClampNeg (0 : Int32)) := ua_110 hV (by omega) (by omega)
      first | have e9 : (l1 + (1 : Int32)).toInt = l1.toInt + (1) := i_addk rfl (by omega) (by omega) | have b10 := i_bd (l1 + (1 : Int32))
      exact IH (3100 - (l1 + (1 : Int32)).toInt).toNat (by omega) _ ((l1 + (1 : Int32))) rfl (zF_u hF rfl) hV7 (by omega) (show ∀ s : Nat, (s : Int) < (l1 + (1 : Int32)).toInt → ((ma_u m 110 l1.toNatClampNeg (0 : Int32)) 110) s = 0 from by first | (exact z0_step r_KZ0 (by omega) (by omega)) | (intro s hs; omega; done) | (exfalso; omega; done) | (exfalso; contradiction; done))
theorem sp_189 {X : Nat × (Nat → Int32)} {P : Option ma_V → (Nat → Nat → Int32) → Prop} {m : Nat → Nat → Int32}  (hV : zV m)  (KZ : ∀ m', zV (zov wr_189 m m') → (∀ s : Nat, s < 3100 → (m' 110) s = 0) → P none (zov wr_189 m m')) : zm X 0 0 189 0 [(0, .inr (.inr (some 94)))] m P := by
  have K : ∀ m', zF wr_189 m m' → zV m' → (∀ s : Nat, s < 3100 → (m' 110) s = 0) → P none m' := by
    intro m' hf z q0
    have e := zov_eq hf
    rw [e] at z ⊢
    try rw [e] at q0
    exact KZ m' z q0
  refine g_189_0  ?_
  have li1 : (0 : Int32).toInt = 0 := rfl
  exact lp_189_2 hV K _ _ ((0 : Int32)) rfl zF_rfl hV (by omega) (show ∀ s : Nat, (s : Int) < (0 : Int32).toInt → (m 110) s = 0 from by first | (intro s hs; omega; done) | (exfalso; omega; done) | (exfalso; contradiction; done))
