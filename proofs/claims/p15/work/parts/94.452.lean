/-! the reference (written by wip/tools/gen94m.py) -/
set_option maxRecDepth 100000 in
theorem hm_261 : ma_md 261 = some (12, yX12_dirtyCards, cX12_dirtyCards, 3, (some (FieldType.int))) := rfl
theorem s_117 : zs 117 = some (22, 512) := rfl
theorem r_94_66 : zfi 94 66 = some 117 := rfl
theorem f_12_83_12 : ma_fld 12 83 12 = some 66 := by decide +kernel
theorem dX12_dirtyCards_0 : decode cX12_dirtyCards 0 = .ok (.iconst 0, 1) := by decide +kernel
theorem dX12_dirtyCards_1 : decode cX12_dirtyCards 1 = .ok (.istore_n 1, 1) := by decide +kernel
theorem dX12_dirtyCards_2 : decode cX12_dirtyCards 2 = .ok (.iconst 0, 1) := by decide +kernel
theorem dX12_dirtyCards_3 : decode cX12_dirtyCards 3 = .ok (.istore_n 2, 1) := by decide +kernel
theorem dX12_dirtyCards_4 : decode cX12_dirtyCards 4 = .ok (.iload_n 2, 1) := by decide +kernel
theorem dX12_dirtyCards_5 : decode cX12_dirtyCards 5 = .ok (.aload_n 0, 1) := by decide +kernel
theorem dX12_dirtyCards_9 : decode cX12_dirtyCards 9 = .ok (.arraylength, 1) := by decide +kernel
theorem dX12_dirtyCards_31 : decode cX12_dirtyCards 31 = .ok (.iload_n 1, 1) := by decide +kernel
theorem dX12_dirtyCards_32 : decode cX12_dirtyCards 32 = .ok (.ireturn, 1) := by decide +kernel
theorem dX12_dirtyCards_13 : decode cX12_dirtyCards 13 = .ok (.aload_n 0, 1) := by decide +kernel
theorem dX12_dirtyCards_17 : decode cX12_dirtyCards 17 = .ok (.iload_n 2, 1) := by decide +kernel
theorem dX12_dirtyCards_25 : decode cX12_dirtyCards 25 = .ok (.iinc 2 1, 3) := by decide +kernel
theorem dX12_dirtyCards_28 : decode cX12_dirtyCards 28 = .ok (.goto (-24), 3) := by decide +kernel
theorem dX12_dirtyCards_22 : decode cX12_dirtyCards 22 = .ok (.iinc 1 1, 3) := by decide +kernel
theorem dX12_dirtyCards_19 : decode cX12_dirtyCards 19 = .ok (.ifCond .eq 6, 3) := by decide +kernel
theorem dX12_dirtyCards_18 : decode cX12_dirtyCards 18 = .ok (.baload, 1) := by decide +kernel
theorem dX12_dirtyCards_14 : decode cX12_dirtyCards 14 = .ok (.getfield 83, 3) := by decide +kernel
theorem dX12_dirtyCards_10 : decode cX12_dirtyCards 10 = .ok (.if_icmp .ge 21, 3) := by decide +kernel
theorem dX12_dirtyCards_6 : decode cX12_dirtyCards 6 = .ok (.getfield 83, 3) := by decide +kernel
def wr_261 (_ _ : Nat) : Bool := false
theorem g_261_0 {X : Nat × (Nat → Int32)} {m : Nat → Nat → Int32} {P : Option ma_V → (Nat → Nat → Int32) → Prop}  (h : zm X 0 0 261 4 [(0, .inr (.inr (some 94))), (1, .inl (0 : Int32)), (2, .inl (0 : Int32))] m P) : zm X 0 0 261 0 [(0, .inr (.inr (some 94)))] m P := by
  intro d w S Q hd hw hS hm HQ
  subst hm
  refine zw_push hm_261 dX12_dirtyCards_0 (v := .inl (0 : Int32)) rfl ?_
  refine zw_sto hm_261 dX12_dirtyCards_1 [(1, .inl (0 : Int32)), (0, .inr (.inr (some 94)))] rfl rfl rfl ?_
  refine zw_push hm_261 dX12_dirtyCards_2 (v := .inl (0 : Int32)) rfl ?_
  refine zw_sto hm_261 dX12_dirtyCards_3 [(2, .inl (0 : Int32)), (1, .inl (0 : Int32)), (0, .inr (.inr (some 94)))] rfl rfl rfl ?_
  exact zw_sub (ma_nd_of (ks := [0, 1, 2]) rfl (by decide)) (ma_nd_of (ks := [2, 1, 0]) rfl (by decide)) (ma_le_cons rfl (ma_le_cons rfl (ma_le_cons rfl (ma_le_nil _)))) (h d w _ Q (by omega) (by omega) hS rfl HQ)
theorem g_261_4 {X : Nat × (Nat → Int32)} {m : Nat → Nat → Int32} {P : Option ma_V → (Nat → Nat → Int32) → Prop} (l1 : Int32) (l2 : Int32) (h : if (512 : Int32) ≤ l2 then (P (some (.inl l1)) m) else ((0 ≤ l2 ∧ l2.toNatClampNeg < 512) ∧ (if (m 117 l2.toNatClampNeg) = 0 then (zm X 0 0 261 4 [(0, .inr (.inr (some 94))), (1, .inl l1), (2, .inl (l2 + (1 : Int32)))] m P) else (zm X 0 0 261 4 [(0, .inr (.inr (some 94))), (1, .inl (l1 + (1 : Int32))), (2, .inl (l2 + (1 : Int32)))] m P)))) : zm X 0 0 261 4 [(0, .inr (.inr (some 94))), (1, .inl l1), (2, .inl l2)] m P := by
  intro d w S Q hd hw hS hm HQ
  subst hm
  refine zw_push hm_261 dX12_dirtyCards_4 (v := .inl l2) rfl ?_
  refine zw_push hm_261 dX12_dirtyCards_5 (v := .inr (.inr (some 94))) rfl ?_
  refine zw_gf hm_261 dX12_dirtyCards_6 (v := .inr (.inr (some 117))) (zT_is hS s_94) (zT_t hS s_94) rfl f_12_83_12 (zT_f hS r_94_66) ?_
  refine zw_len hm_261 dX12_dirtyCards_9 (v := (512 : Int32)) (zT_is hS s_117) (zT_h hS s_117) rfl rfl ?_
  refine zw_if2 hm_261 dX12_dirtyCards_10 (t := 31) rfl zc2_ge ?_ ?_
  · intro hc
    rw [if_pos hc] at h
    refine zw_push hm_261 dX12_dirtyCards_31 (v := .inl l1) rfl ?_
    exact zw_iret hm_261 dX12_dirtyCards_32 (HQ _ _ h)
  · intro hc
    rw [if_neg hc] at h
    refine zw_push hm_261 dX12_dirtyCards_13 (v := .inr (.inr (some 94))) rfl ?_
    refine zw_gf hm_261 dX12_dirtyCards_14 (v := .inr (.inr (some 117))) (zT_is hS s_94) (zT_t hS s_94) rfl f_12_83_12 (zT_f hS r_94_66) ?_
    refine zw_push hm_261 dX12_dirtyCards_17 (v := .inl l2) rfl ?_
    obtain ⟨hg, h⟩ := h
    refine zw_ba hm_261 dX12_dirtyCards_18 (zT_is hS s_117) (zT_h hS s_117) rfl rfl hg ?_
    show ma_wp X d w 261 19 [(0, .inr (.inr (some 94))), (1, .inl l1), (2, .inl l2)] [.inl ((mI S) 117 l2.toNatClampNeg)] S _
    refine zw_if0 hm_261 dX12_dirtyCards_19 (t := 25) rfl zc0_eq ?_ ?_
    · intro hc
      rw [if_pos hc] at h
      refine zw_sto hm_261 dX12_dirtyCards_25 [(2, .inl (l2 + (1 : Int32))), (0, .inr (.inr (some 94))), (1, .inl l1)] rfl rfl rfl ?_
      refine zw_goto hm_261 dX12_dirtyCards_28 (t := 4) rfl ?_
      exact zw_sub (ma_nd_of (ks := [0, 1, 2]) rfl (by decide)) (ma_nd_of (ks := [2, 0, 1]) rfl (by decide)) (ma_le_cons rfl (ma_le_cons rfl (ma_le_cons rfl (ma_le_nil _)))) (h d w _ Q (by omega) (by omega) hS rfl HQ)
    · intro hc
      rw [if_neg hc] at h
      refine zw_sto hm_261 dX12_dirtyCards_22 [(1, .inl (l1 + (1 : Int32))), (0, .inr (.inr (some 94))), (2, .inl l2)] rfl rfl rfl ?_
      refine zw_sto hm_261 dX12_dirtyCards_25 [(2, .inl (l2 + (1 : Int32))), (1, .inl (l1 + (1 : Int32))), (0, .inr (.inr (some 94)))] rfl rfl rfl ?_
      refine zw_goto hm_261 dX12_dirtyCards_28 (t := 4) rfl ?_
      exact zw_sub (ma_nd_of (ks := [0, 1, 2]) rfl (by decide)) (ma_nd_of (ks := [2, 1, 0]) rfl (by decide)) (ma_le_cons rfl (ma_le_cons rfl (ma_le_cons rfl (ma_le_nil _)))) (h d w _ Q (by omega) (by omega) hS rfl HQ)
theorem lp_261_4 {X : Nat × (Nat → Int32)} {P : Option ma_V → (Nat → Nat → Int32) → Prop} {m0 : Nat → Nat → Int32} (h0 : zV m0) (K : ∀ v m', zF wr_261 m0 m' → zV m' → P (some (.inl v)) m') : ∀ (n : Nat) (m : Nat → Nat → Int32) (l1 : Int32) (l2 : Int32), (512 - l2.toInt).toNat = n → zF wr_261 m0 m → zV m → (0 ≤ l2.toInt) → zm X 0 0 261 4 [(0, .inr (.inr (some 94))), (1, .inl l1), (2, .inl l2)] m P := by
  intro n
  induction n using Nat.strongRecOn with
  | _ n IH =>
    intro m l1 l2 hmu hF hV hi0
    refine g_261_4 l1 l2 ?_
    have li1 : (512 : Int32).toInt = 512 := rfl
    have b2 := i_bd l2
    refine zd (fun (h3 : (512 : Int32) ≤ l2) => ?_) (fun (h3 : ¬ (512 : Int32) ≤ l2) => ?_)
    · skip
      have g4 := i_le h3
      have b5 := i_bd l1
      exact K (l1) _ hF hV 
    · skip
      have g6 := i_nle h3
      have hg7 : (0 ≤ l2 ∧ l2.toNatClampNeg < 512) := i_ix (by omega) (by omega)
      refine ⟨hg7, ?_⟩
      first | have f8 : 0 ≤ (m 117 l2.toNatClampNeg).toInt ∧ (m 117 l2.toNatClampNeg).toInt ≤ 1 := ra_117 (m := m) hV (k := l2.toNatClampNeg) (i_ix (n := 512) (by omega) (by omega)).2 | have b9 := i_bd (m 117 l2.toNatClampNeg)
      have li10 : (0 : Int32).toInt = 0 := rfl
      refine zd (fun (h11 : (m 117 l2.toNatClampNeg) = (0 : Int32)) => ?_) (fun (h11 : ¬ (m 117 l2.toNatClampNeg) = (0 : Int32)) => ?_)
      · skip
        have g12 := i_eq h11
        have b13 := i_bd l1
        first | have e14 : (l2 + (1 : Int32)).toInt = l2.toInt + (1) := i_addk rfl (by omega) (by omega) | have b15 := i_bd (l2 + (1 : Int32))
        exact IH (512 - (l2 + (1 : Int32)).toInt).toNat (by omega) _ (l1) ((l2 + (1 : Int32))) rfl hF hV (by omega)
      · skip
        have g16 := i_ne h11
        have b17 := i_bd l1
        first | have e18 : (l1 + (1 : Int32)).toInt = l1.toInt + (1) := i_addk rfl (by omega) (by omega) | have b19 := i_bd (l1 + (1 : Int32))
        first | have e20 : (l2 + (1 : Int32)).toInt = l2.toInt + (1) := i_addk rfl (by omega) (by omega) | have b21 := i_bd (l2 + (1 : Int32))
        exact IH (512 - (l2 + (1 : Int32)).toInt).toNat (by omega) _ ((l1 + (1 : Int32))) ((l2 + (1 : Int32))) rfl hF hV (by omega)
theorem sp_261 {X : Nat × (Nat → Int32)} {P : Option ma_V → (Nat → Nat → Int32) → Prop} {m : Nat → Nat → Int32}  (hV : zV m)  (KZ : ∀ v m', zV (zov wr_261 m m') → P (some (.inl v)) (zov wr_261 m m')) : zm X 0 0 261 0 [(0, .inr (.inr (some 94)))] m P := by
  have K : ∀ v m', zF wr_261 m m' → zV m' → P (some (.inl v)) m' := by
    intro v m' hf z 
    have e := zov_eq hf
    rw [e] at z ⊢
    exact KZ v m' z 
  refine g_261_0  ?_
  have li1 : (0 : Int32).toInt = 0 := rfl
  exact lp_261_4 hV K _ _ ((0 : Int32)) ((0 : Int32)) rfl zF_rfl hV (by omega)
