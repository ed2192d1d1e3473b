/-! from 94.484 -/
/-! the reference (written by wip/tools/gen94m.py) -/
set_option maxRecDepth 100000 in
theorem hm_208 : ma_md 208 = some (12, yX12_comeAll, cX12_comeAll, 3, none) := rfl
theorem f_12_362_12 : ma_fld 12 362 12 = some 76 := by decide +kernel
theorem p_12_362_12 : ma_pk 12 362 12 76 = true := by decide +kernel
theorem v_12_365_12 : ma_vl 12 365 12 = some (1, 207, 1) := by decide +kernel
theorem dX12_comeAll_0 : decode cX12_comeAll 0 = .ok (.aload_n 0, 1) := by decide +kernel
theorem dX12_comeAll_4 : decode cX12_comeAll 4 = .ok (.aload_n 0, 1) := by decide +kernel
theorem dX12_comeAll_62 : decode cX12_comeAll 62 = .ok (.return_, 1) := by decide +kernel
theorem dX12_comeAll_11 : decode cX12_comeAll 11 = .ok (.aload_n 0, 1) := by decide +kernel
theorem dX12_comeAll_15 : decode cX12_comeAll 15 = .ok (.aload_n 0, 1) := by decide +kernel
theorem dX12_comeAll_20 : decode cX12_comeAll 20 = .ok (.istore_n 1, 1) := by decide +kernel
theorem dX12_comeAll_21 : decode cX12_comeAll 21 = .ok (.aload_n 0, 1) := by decide +kernel
theorem dX12_comeAll_22 : decode cX12_comeAll 22 = .ok (.dup, 1) := by decide +kernel
theorem dX12_comeAll_26 : decode cX12_comeAll 26 = .ok (.iconst 1, 1) := by decide +kernel
theorem dX12_comeAll_27 : decode cX12_comeAll 27 = .ok (.iadd, 1) := by decide +kernel
theorem dX12_comeAll_31 : decode cX12_comeAll 31 = .ok (.iconst 0, 1) := by decide +kernel
theorem dX12_comeAll_32 : decode cX12_comeAll 32 = .ok (.istore_n 2, 1) := by decide +kernel
theorem dX12_comeAll_28 : decode cX12_comeAll 28 = .ok (.putfield 362, 3) := by decide +kernel
theorem dX12_comeAll_23 : decode cX12_comeAll 23 = .ok (.getfield 362, 3) := by decide +kernel
theorem dX12_comeAll_19 : decode cX12_comeAll 19 = .ok (.iaload, 1) := by decide +kernel
theorem dX12_comeAll_16 : decode cX12_comeAll 16 = .ok (.getfield 362, 3) := by decide +kernel
theorem dX12_comeAll_12 : decode cX12_comeAll 12 = .ok (.getfield 89, 3) := by decide +kernel
theorem dX12_comeAll_8 : decode cX12_comeAll 8 = .ok (.if_icmp .ge 54, 3) := by decide +kernel
theorem dX12_comeAll_5 : decode cX12_comeAll 5 = .ok (.getfield 356, 3) := by decide +kernel
theorem dX12_comeAll_1 : decode cX12_comeAll 1 = .ok (.getfield 362, 3) := by decide +kernel
theorem dX12_comeAll_33 : decode cX12_comeAll 33 = .ok (.iload_n 2, 1) := by decide +kernel
theorem dX12_comeAll_34 : decode cX12_comeAll 34 = .ok (.aload_n 0, 1) := by decide +kernel
theorem dX12_comeAll_38 : decode cX12_comeAll 38 = .ok (.iload_n 1, 1) := by decide +kernel
theorem dX12_comeAll_59 : decode cX12_comeAll 59 = .ok (.goto (-59), 3) := by decide +kernel
theorem dX12_comeAll_43 : decode cX12_comeAll 43 = .ok (.aload_n 0, 1) := by decide +kernel
theorem dX12_comeAll_44 : decode cX12_comeAll 44 = .ok (.aload_n 0, 1) := by decide +kernel
theorem dX12_comeAll_45 : decode cX12_comeAll 45 = .ok (.iload_n 1, 1) := by decide +kernel
theorem dX12_comeAll_46 : decode cX12_comeAll 46 = .ok (.iload_n 2, 1) := by decide +kernel
theorem dX12_comeAll_47 : decode cX12_comeAll 47 = .ok (.invokevirtual 294, 3) := by decide +kernel
theorem dX12_comeAll_50 : decode cX12_comeAll 50 = .ok (.invokevirtual 365, 3) := by decide +kernel
theorem dX12_comeAll_53 : decode cX12_comeAll 53 = .ok (.iinc 2 1, 3) := by decide +kernel
theorem dX12_comeAll_56 : decode cX12_comeAll 56 = .ok (.goto (-23), 3) := by decide +kernel
theorem dX12_comeAll_40 : decode cX12_comeAll 40 = .ok (.if_icmp .ge 19, 3) := by decide +kernel
theorem dX12_comeAll_39 : decode cX12_comeAll 39 = .ok (.iaload, 1) := by decide +kernel
theorem dX12_comeAll_35 : decode cX12_comeAll 35 = .ok (.getfield 37, 3) := by decide +kernel
def wr_208 (c k : Nat) : Bool := Nat.beq c 103 || Nat.beq c 104 || Nat.beq c 110 || Nat.beq c 111 || Nat.beq c 119 || (Nat.beq c 94 && (Nat.beq k 48 || Nat.beq k 60 || Nat.beq k 75 || Nat.beq k 76 || Nat.beq k 77))
theorem ws_192_208 : ∀ c k, wr_192 c k = true → wr_208 c k = true := fun _ _ h => by cases h
theorem ws_207_208 : ∀ c k, wr_207 c k = true → wr_208 c k = true := by
  intro c k h
  simp only [wr_207, wr_208, Bool.or_eq_true, Bool.and_eq_true, Nat.beq_eq] at h ⊢
  omega
theorem g_208_0 {X : Nat × (Nat → Int32)} {m : Nat → Nat → Int32} {P : Option ma_V → (Nat → Nat → Int32) → Prop}  (h : if (m 94 75) ≤ (m 94 76) then (P none m) else ((0 ≤ (m 94 76) ∧ (m 94 76).toNatClampNeg < 3100) ∧ (zm X 3 64 208 33 [(0, .inr (.inr (some 94))), (1, .inl (m 119 (m 94 76).toNatClampNeg)), (2, .inl (0 : Int32))] (ma_u m 94 76 ((m 94 76) + (1 : Int32))) P))) : zm X 3 64 208 0 [(0, .inr (.inr (some 94)))] m P := by
  intro d w S Q hd hw hS hm HQ
  subst hm
  refine zw_push hm_208 dX12_comeAll_0 (v := .inr (.inr (some 94))) rfl ?_
  refine zw_gf hm_208 dX12_comeAll_1 (v := .inl ((mI S) 94 76)) (zT_is hS s_94) (zT_t hS s_94) rfl f_12_362_12 rfl ?_
  refine zw_push hm_208 dX12_comeAll_4 (v := .inr (.inr (some 94))) rfl ?_
  refine zw_gf hm_208 dX12_comeAll_5 (v := .inl ((mI S) 94 75)) (zT_is hS s_94) (zT_t hS s_94) rfl f_12_356_12 rfl ?_
  refine zw_if2 hm_208 dX12_comeAll_8 (t := 62) rfl zc2_ge ?_ ?_
  · intro hc
    rw [if_pos hc] at h
    exact zw_vret hm_208 dX12_comeAll_62 (HQ _ _ h)
  · intro hc
    rw [if_neg hc] at h
    refine zw_push hm_208 dX12_comeAll_11 (v := .inr (.inr (some 94))) rfl ?_
    refine zw_gf hm_208 dX12_comeAll_12 (v := .inr (.inr (some 119))) (zT_is hS s_94) (zT_t hS s_94) rfl f_12_89_12 (zT_f hS r_94_74) ?_
    refine zw_push hm_208 dX12_comeAll_15 (v := .inr (.inr (some 94))) rfl ?_
    refine zw_gf hm_208 dX12_comeAll_16 (v := .inl ((mI S) 94 76)) (zT_is hS s_94) (zT_t hS s_94) rfl f_12_362_12 rfl ?_
    obtain ⟨hg, h⟩ := h
    refine zw_ia hm_208 dX12_comeAll_19 (zT_is hS s_119) (zT_h hS s_119) rfl hg ?_
    show ma_wp X d w 208 20 [(0, .inr (.inr (some 94)))] [.inl ((mI S) 119 ((mI S) 94 76).toNatClampNeg)] S _
    refine zw_sto hm_208 dX12_comeAll_20 [(1, .inl ((mI S) 119 ((mI S) 94 76).toNatClampNeg)), (0, .inr (.inr (some 94)))] rfl rfl rfl ?_
    refine zw_push hm_208 dX12_comeAll_21 (v := .inr (.inr (some 94))) rfl ?_
    refine zw_stk hm_208 dX12_comeAll_22 (st₉ := [.inr (.inr (some 94)), .inr (.inr (some 94))]) rfl rfl ?_
    refine zw_gf hm_208 dX12_comeAll_23 (v := .inl ((mI S) 94 76)) (zT_is hS s_94) (zT_t hS s_94) rfl f_12_362_12 rfl ?_
    refine zw_push hm_208 dX12_comeAll_26 (v := .inl (1 : Int32)) rfl ?_
    refine zw_stk hm_208 dX12_comeAll_27 (st₉ := [.inl (((mI S) 94 76) + (1 : Int32)), .inr (.inr (some 94))]) rfl rfl ?_
    refine zw_pf hm_208 dX12_comeAll_28 (zT_is hS s_94) (zT_t hS s_94) p_12_362_12 zk_int ?_
    refine zw_push hm_208 dX12_comeAll_31 (v := .inl (0 : Int32)) rfl ?_
    refine zw_sto hm_208 dX12_comeAll_32 [(2, .inl (0 : Int32)), (1, .inl ((mI S) 119 ((mI S) 94 76).toNatClampNeg)), (0, .inr (.inr (some 94)))] rfl rfl rfl ?_
    exact zw_sub (ma_nd_of (ks := [0, 1, 2]) rfl (by decide)) (ma_nd_of (ks := [2, 1, 0]) rfl (by decide)) (ma_le_cons rfl (ma_le_cons rfl (ma_le_cons rfl (ma_le_nil _)))) (h d w _ Q (by omega) (by omega) (zT_pi hS) rfl HQ)
theorem g_208_33 {X : Nat × (Nat → Int32)} {m : Nat → Nat → Int32} {P : Option ma_V → (Nat → Nat → Int32) → Prop} (l1 : Int32) (l2 : Int32) (h : (0 ≤ l1 ∧ l1.toNatClampNeg < 3100) ∧ (if (m 102 l1.toNatClampNeg) ≤ l2 then (zm X 3 64 208 0 [(0, .inr (.inr (some 94)))] m P) else (zm X 1 22 192 0 [(0, .inr (.inr (some 94))), (1, .inl l1), (2, .inl l2)] m (zmi (fun v2 m1 => zm X 2 43 207 0 [(0, .inr (.inr (some 94))), (1, .inl v2)] m1 (zmv (fun m3 => zm X 3 64 208 33 [(0, .inr (.inr (some 94))), (1, .inl l1), (2, .inl (l2 + (1 : Int32)))] m3 P))))))) : zm X 3 64 208 33 [(0, .inr (.inr (some 94))), (1, .inl l1), (2, .inl l2)] m P := by
  intro d w S Q hd hw hS hm HQ
  subst hm
  refine zw_push hm_208 dX12_comeAll_33 (v := .inl l2) rfl ?_
  refine zw_push hm_208 dX12_comeAll_34 (v := .inr (.inr (some 94))) rfl ?_
  refine zw_gf hm_208 dX12_comeAll_35 (v := .inr (.inr (some 102))) (zT_is hS s_94) (zT_t hS s_94) rfl f_12_37_12 (zT_f hS r_94_34) ?_
  refine zw_push hm_208 dX12_comeAll_38 (v := .inl l1) rfl ?_
  obtain ⟨hg, h⟩ := h
  refine zw_ia hm_208 dX12_comeAll_39 (zT_is hS s_102) (zT_h hS s_102) rfl hg ?_
  show ma_wp X d w 208 40 [(0, .inr (.inr (some 94))), (1, .inl l1), (2, .inl l2)] [.inl ((mI S) 102 l1.toNatClampNeg), .inl l2] S _
  refine zw_if2 hm_208 dX12_comeAll_40 (t := 59) rfl zc2_ge ?_ ?_
  · intro hc
    rw [if_pos hc] at h
    refine zw_goto hm_208 dX12_comeAll_59 (t := 0) rfl ?_
    exact zw_sub (ma_nd_of (ks := [0]) rfl (by decide)) (ma_nd_of (ks := [0, 1, 2]) rfl (by decide)) (ma_le_cons rfl (ma_le_nil _)) (h d w _ Q (by omega) (by omega) hS rfl HQ)
  · intro hc
    rw [if_neg hc] at h
    refine zw_push hm_208 dX12_comeAll_43 (v := .inr (.inr (some 94))) rfl ?_
    refine zw_push hm_208 dX12_comeAll_44 (v := .inr (.inr (some 94))) rfl ?_
    refine zw_push hm_208 dX12_comeAll_45 (v := .inl l1) rfl ?_
    refine zw_push hm_208 dX12_comeAll_46 (v := .inl l2) rfl ?_
    refine zw_cv hm_208 dX12_comeAll_47 v_12_294_12 hm_192 [.inl l2, .inl l1] [.inr (.inr (some 94))] rfl (zT_rt hS s_94 rfl) ⟨by omega, by omega⟩ rfl (h _ _ S _ (by omega) (by omega) hS rfl (fun o9 m1 hv => ?_))
    obtain ⟨v2, rfl, h⟩ := zmi_of hv
    show ma_wp X d w 208 50 [(0, .inr (.inr (some 94))), (1, .inl l1), (2, .inl l2)] [.inl v2, .inr (.inr (some 94))] (zst S m1) _
    refine zw_cv hm_208 dX12_comeAll_50 v_12_365_12 hm_207 [.inl v2] [] rfl (zT_rt (zT_zst hS m1) s_94 rfl) ⟨by omega, by omega⟩ rfl (h _ _ (zst S m1) _ (by omega) (by omega) (zT_zst hS m1) rfl (fun o9 m3 hv => ?_))
    obtain ⟨rfl, h⟩ := zmv_of hv
    show ma_wp X d w 208 53 [(0, .inr (.inr (some 94))), (1, .inl l1), (2, .inl l2)] [] (zst S m3) _
    refine zw_sto hm_208 dX12_comeAll_53 [(2, .inl (l2 + (1 : Int32))), (0, .inr (.inr (some 94))), (1, .inl l1)] rfl rfl rfl ?_
    refine zw_goto hm_208 dX12_comeAll_56 (t := 33) rfl ?_
    exact zw_sub (ma_nd_of (ks := [0, 1, 2]) rfl (by decide)) (ma_nd_of (ks := [2, 0, 1]) rfl (by decide)) (ma_le_cons rfl (ma_le_cons rfl (ma_le_cons rfl (ma_le_nil _)))) (h d w _ Q (by omega) (by omega) (zT_zst hS m3) rfl HQ)
theorem lp_208_33 {X : Nat × (Nat → Int32)} {P : Option ma_V → (Nat → Nat → Int32) → Prop} {XX : Nat→Prop} {m0 : Nat → Nat → Int32} (h0 : zV m0) (K : ∀ m₉, zF wr_208 m0 m₉ → zV m₉ → (zKS (m₉ 110) (m₉ 94 75)) → (zOw (m₉ 99) (m₉ 103) (m₉ 111)) → (zH2 (m₉ 94 10) (m₉ 94 11) (m₉ 94 61) (m₉ 94 77) (m₉ 99) (m₉ 110) (m₉ 102)) → (zH3 (m₉ 94 10) (m₉ 94 13) (m₉ 94 14) (m₉ 94 15) (m₉ 94 61) (m₉ 94 77) (m₉ 94 60) (m₉ 99) (m₉ 110) (m₉ 104) (m₉ 102) (m₉ 103) (m₉ 111)) → ((m₉ 94 76).toInt ≤ (m₉ 94 75).toInt) → (zKU (m₉ 94 10) (m₉ 99) (m₉ 110)) → (zle (m0 110) (m₉ 110)) → (zCQ (m₉ 110) (m₉ 98) (m₉ 101) (m₉ 102) (m₉ 108) (m₉ 119) (m₉ 94 76) (m₉ 94 75) XX 3100 0) → ((m₉ 94 75).toInt ≤ (m₉ 94 76).toInt) → P none m₉) {n0 : Nat} (OUT0 : ∀ (m₉ : Nat → Nat → Int32) , (3101 - (m₉ 94 76).toInt).toNat < n0 → zF wr_208 m0 m₉ → zV m₉ → ((m₉ 94 10).toInt = 2 ∨ (m₉ 94 10).toInt = 3) → (zKS (m₉ 110) (m₉ 94 75)) → (zOw (m₉ 99) (m₉ 103) (m₉ 111)) → (zH2 (m₉ 94 10) (m₉ 94 11) (m₉ 94 61) (m₉ 94 77) (m₉ 99) (m₉ 110) (m₉ 102)) → (zH3 (m₉ 94 10) (m₉ 94 13) (m₉ 94 14) (m₉ 94 15) (m₉ 94 61) (m₉ 94 77) (m₉ 94 60) (m₉ 99) (m₉ 110) (m₉ 104) (m₉ 102) (m₉ 103) (m₉ 111)) → ((m₉ 94 76).toInt ≤ (m₉ 94 75).toInt) → (zKU (m₉ 94 10) (m₉ 99) (m₉ 110)) → (zW (m₉ 94 7) (m₉ 98) (m₉ 101) (m₉ 102) (m₉ 108)) → (zDX (m₉ 94 10) (m₉ 99) (m₉ 112) (m₉ 113) (m₉ 114) (m₉ 94 55) (m₉ 98) (m₉ 101) (m₉ 102) (m₉ 108)) → (zCQ (m₉ 110) (m₉ 98) (m₉ 101) (m₉ 102) (m₉ 108) (m₉ 119) (m₉ 94 76) (m₉ 94 75) XX 3100 0) → (zle (m0 110) (m₉ 110)) → zm X 3 64 208 0 [(0, .inr (.inr (some 94)))] m₉ P) : ∀ (n : Nat) (m : Nat → Nat → Int32) (l1 : Int32) (l2 : Int32), (61 - l2.toInt).toNat = n → zF wr_208 m0 m → zV m → (0 ≤ l1.toInt) → (l1.toInt ≤ 3099) → (0 ≤ l2.toInt) → ((3101 - (m 94 76).toInt).toNat < n0) → ((m 94 10).toInt = 2 ∨ (m 94 10).toInt = 3) → (zKS (m 110) (m 94 75)) → (zOw (m 99) (m 103) (m 111)) → (zH2 (m 94 10) (m 94 11) (m 94 61) (m 94 77) (m 99) (m 110) (m 102)) → (zH3 (m 94 10) (m 94 13) (m 94 14) (m 94 15) (m 94 61) (m 94 77) (m 94 60) (m 99) (m 110) (m 104) (m 102) (m 103) (m 111)) → ((m 94 76).toInt ≤ (m 94 75).toInt) → (zKU (m 94 10) (m 99) (m 110)) → (zW (m 94 7) (m 98) (m 101) (m 102) (m 108)) → (zDX (m 94 10) (m 99) (m 112) (m 113) (m 114) (m 94 55) (m 98) (m 101) (m 102) (m 108)) → (zCQ (m 110) (m 98) (m 101) (m 102) (m 108) (m 119) (m 94 76) (m 94 75) XX l1.toNatClampNeg l2.toNatClampNeg) → (zle (m0 110) (m 110)) → zm X 3 64 208 33 [(0, .inr (.inr (some 94))), (1, .inl l1), (2, .inl l2)] m P := by
  intro n
  induction n using Nat.strongRecOn with
  | _ n IH =>
    intro m l1 l2 hmu hF hV hi0 hi1 hi2 hi3 hi4 r_CMK r_OW r_H2 r_H3 hi9 r_KU r_W r_DX r_CQ r_KM
    refine g_208_33 l1 l2 ?_
    have f1 : 0 ≤ (m 94 76).toInt ∧ (m 94 76).toInt ≤ 3100 := rs_94_76 (m := m) hV
    have f2 : 0 ≤ (m 94 10).toInt ∧ (m 94 10).toInt ≤ 6 := rs_94_10 (m := m) hV
    have f3 : 0 ≤ (m 94 75).toInt ∧ (m 94 75).toInt ≤ 3100 := rs_94_75 (m := m) hV
    have b4 := i_bd l1
    have hg5 : (0 ≤ l1 ∧ l1.toNatClampNeg < 3100) := i_ix (by omega) (by omega)
    refine ⟨hg5, ?_⟩
    first | have f6 : 0 ≤ (m 102 l1.toNatClampNeg).toInt ∧ (m 102 l1.toNatClampNeg).toInt ≤ 60 := ra_102 (m := m) hV (k := l1.toNatClampNeg) (i_ix (n := 3100) (by omega) (by omega)).2 | have b7 := i_bd (m 102 l1.toNatClampNeg)
    have b8 := i_bd l2
    refine zd (fun (h9 : (m 102 l1.toNatClampNeg) ≤ l2) => ?_) (fun (h9 : ¬ (m 102 l1.toNatClampNeg) ≤ l2) => ?_)
    · skip
      have g10 := i_le h9
      exact OUT0 _  (show (3101 - (m 94 76).toInt).toNat < n0 from by omega) hF hV (show (m 94 10).toInt = 2 ∨ (m 94 10).toInt = 3 from by omega) r_CMK r_OW r_H2 r_H3 (show (m 94 76).toInt ≤ (m 94 75).toInt from by omega) r_KU r_W r_DX (show zCQ (m 110) (m 98) (m 101) (m 102) (m 108) (m 119) (m 94 76) (m 94 75) XX 3100 0 from by first | (exact CQ_done r_CQ (by rw [tn_cast (x := l2) (by omega)]; omega)) | (exfalso; omega; done) | (exfalso; contradiction; done)) r_KM
    · skip
      have g11 := i_nle h9
      refine sp_192 (l1) (l2) hV (by omega) (by omega) (by omega) (show l2.toInt < (m 102 l1.toNatClampNeg).toInt from by omega) (fun v2 m1 hV_m1 p0_m1 => zmi_n ?_)
      have p0_m1 : v2 = zrf (m 98) (m 101) (m 108) l1.toNatClampNeg l2.toNatClampNeg := p0_m1
      try have := W_ref r_W (by omega) (by omega) (by omega) (by omega) p0_m1
      have b12 := i_bd v2
      refine sp_207 (XX := XX) (CU := l1.toNatClampNeg) (II := l2.toNatClampNeg) (v2) hV_m1 (by omega) (by omega) (show (m 94 10).toInt = 2 ∨ (m 94 10).toInt = 3 from by omega) (show v2.toInt < 0 ∨ (m 99) v2.toNatClampNeg ≠ 0 from by first | (by_cases z : v2.toInt < 0; exact Or.inl z; exact Or.inr (KU_ref r_KU r_DX (by omega) (r_CQ.2.1 (by omega)) (by rw [tn_cast (x := l2) (by omega)]; omega) p0_m1 (by omega) (by omega)); done) | (exfalso; omega; done) | (exfalso; contradiction; done)) r_CMK r_OW r_H2 r_H3 (show (m 94 76).toInt ≤ (m 94 75).toInt from by omega) r_CQ r_KU (fun m3 hV_m3 p0_m3 p1_m3 p2_m3 p3_m3 p4_m3 p5_m3 p6_m3 p7_m3 p8_m3 p9_m3 p10_m3 => zmv_n ?_)
      have p0_m3 : zKS (m3 110) (m3 94 75) := p0_m3
      have p1_m3 : zOw (m 99) (m3 103) (m3 111) := p1_m3
      have p2_m3 : zH2 (m 94 10) (m 94 11) (m 94 61) (m3 94 77) (m 99) (m3 110) (m 102) := p2_m3
      have p3_m3 : zH3 (m 94 10) (m 94 13) (m 94 14) (m 94 15) (m 94 61) (m3 94 77) (m3 94 60) (m 99) (m3 110) (m3 104) (m 102) (m3 103) (m3 111) := p3_m3
      have p4_m3 : v2.toInt < 0 ∨ (m3 110) v2.toNatClampNeg ≠ 0 := p4_m3
      have p5_m3 : zle (m 110) (m3 110) := p5_m3
      have p6_m3 : (m 94 76).toInt ≤ (m3 94 75).toInt := p6_m3
      have p7_m3 : zCQ (m3 110) (m 98) (m 101) (m 102) (m 108) (m3 119) (m 94 76) (m3 94 75) XX l1.toNatClampNeg l2.toNatClampNeg := p7_m3
      have p8_m3 : zKU (m 94 10) (m 99) (m3 110) := p8_m3
      have p9_m3 : (m 94 10).toInt = 3 → zax (m 103) (m3 103) (m 94 60).toInt := p9_m3
      have p10_m3 : (m 94 60).toInt ≤ (m3 94 60).toInt := p10_m3
      have f13 : 0 ≤ (m3 94 75).toInt ∧ (m3 94 75).toInt ≤ 3100 := rs_94_75 (m := (zov wr_207 (zov wr_192 m m1) m3)) hV_m3
      have f14 : 0 ≤ (m 94 60).toInt ∧ (m 94 60).toInt ≤ 1600 := rs_94_60 (m := m) hV
      have f15 : 0 ≤ (m3 94 60).toInt ∧ (m3 94 60).toInt ≤ 1600 := rs_94_60 (m := (zov wr_207 (zov wr_192 m m1) m3)) hV_m3
      first | have e16 : (l2 + (1 : Int32)).toInt = l2.toInt + (1) := i_addk rfl (by omega) (by omega) | have b17 := i_bd (l2 + (1 : Int32))
      exact IH (61 - (l2 + (1 : Int32)).toInt).toNat (by omega) _ (l1) ((l2 + (1 : Int32))) rfl (zF_zov (zF_zov hF ws_192_208) ws_207_208) hV_m3 (by omega) (by omega) (by omega) (show (3101 - (m 94 76).toInt).toNat < n0 from by omega) (show (m 94 10).toInt = 2 ∨ (m 94 10).toInt = 3 from by omega) p0_m3 p1_m3 p2_m3 p3_m3 (show (m 94 76).toInt ≤ (m3 94 75).toInt from by omega) p8_m3 r_W r_DX (show zCQ (m3 110) (m 98) (m 101) (m 102) (m 108) (m3 119) (m 94 76) (m3 94 75) XX l1.toNatClampNeg (l2 + (1 : Int32)).toNatClampNeg from by first | (exact CQ_adv p7_m3 (by unfold zcl; rw [← p0_m1]; exact p4_m3) (tn_succ (by omega) (by omega))) | (exfalso; omega; done) | (exfalso; contradiction; done)) (show zle (m0 110) (m3 110) from by first | (exact zle_tr r_KM p5_m3) | (exact zle_push r_KM (by decide)) | (exact zle_rfl) | (exfalso; omega; done) | (exfalso; contradiction; done))
theorem lp_208_0 {X : Nat × (Nat → Int32)} {P : Option ma_V → (Nat → Nat → Int32) → Prop} {XX : Nat→Prop} {m0 : Nat → Nat → Int32} (h0 : zV m0) (K : ∀ m₉, zF wr_208 m0 m₉ → zV m₉ → (zKS (m₉ 110) (m₉ 94 75)) → (zOw (m₉ 99) (m₉ 103) (m₉ 111)) → (zH2 (m₉ 94 10) (m₉ 94 11) (m₉ 94 61) (m₉ 94 77) (m₉ 99) (m₉ 110) (m₉ 102)) → (zH3 (m₉ 94 10) (m₉ 94 13) (m₉ 94 14) (m₉ 94 15) (m₉ 94 61) (m₉ 94 77) (m₉ 94 60) (m₉ 99) (m₉ 110) (m₉ 104) (m₉ 102) (m₉ 103) (m₉ 111)) → ((m₉ 94 76).toInt ≤ (m₉ 94 75).toInt) → (zKU (m₉ 94 10) (m₉ 99) (m₉ 110)) → (zle (m0 110) (m₉ 110)) → (zCQ (m₉ 110) (m₉ 98) (m₉ 101) (m₉ 102) (m₉ 108) (m₉ 119) (m₉ 94 76) (m₉ 94 75) XX 3100 0) → ((m₉ 94 75).toInt ≤ (m₉ 94 76).toInt) → P none m₉) : ∀ (n : Nat) (m : Nat → Nat → Int32) , (3101 - (m 94 76).toInt).toNat = n → zF wr_208 m0 m → zV m → ((m 94 10).toInt = 2 ∨ (m 94 10).toInt = 3) → (zKS (m 110) (m 94 75)) → (zOw (m 99) (m 103) (m 111)) → (zH2 (m 94 10) (m 94 11) (m 94 61) (m 94 77) (m 99) (m 110) (m 102)) → (zH3 (m 94 10) (m 94 13) (m 94 14) (m 94 15) (m 94 61) (m 94 77) (m 94 60) (m 99) (m 110) (m 104) (m 102) (m 103) (m 111)) → ((m 94 76).toInt ≤ (m 94 75).toInt) → (zKU (m 94 10) (m 99) (m 110)) → (zW (m 94 7) (m 98) (m 101) (m 102) (m 108)) → (zDX (m 94 10) (m 99) (m 112) (m 113) (m 114) (m 94 55) (m 98) (m 101) (m 102) (m 108)) → (zCQ (m 110) (m 98) (m 101) (m 102) (m 108) (m 119) (m 94 76) (m 94 75) XX 3100 0) → (zle (m0 110) (m 110)) → zm X 3 64 208 0 [(0, .inr (.inr (some 94)))] m P := by
  intro n
  induction n using Nat.strongRecOn with
  | _ n IH =>
    intro m  hmu hF hV hi0 r_CMK r_OW r_H2 r_H3 hi5 r_KU r_W r_DX r_CQ r_KM
    refine g_208_0  ?_
    have f1 : 0 ≤ (m 94 10).toInt ∧ (m 94 10).toInt ≤ 6 := rs_94_10 (m := m) hV
    have f2 : 0 ≤ (m 94 76).toInt ∧ (m 94 76).toInt ≤ 3100 := rs_94_76 (m := m) hV
    have f3 : 0 ≤ (m 94 75).toInt ∧ (m 94 75).toInt ≤ 3100 := rs_94_75 (m := m) hV
    refine zd (fun (h4 : (m 94 75) ≤ (m 94 76)) => ?_) (fun (h4 : ¬ (m 94 75) ≤ (m 94 76)) => ?_)
    · skip
      have g5 := i_le h4
      exact K _ hF hV r_CMK r_OW r_H2 r_H3 (show (m 94 76).toInt ≤ (m 94 75).toInt from by omega) r_KU r_KM r_CQ (show (m 94 75).toInt ≤ (m 94 76).toInt from by omega)
    · skip
      have g6 := i_nle h4
      have hg7 : (0 ≤ (m 94 76) ∧ (m 94 76).toNatClampNeg < 3100) := i_ix (by omega) (by omega)
      refine ⟨hg7, ?_⟩
      first | have e9 : ((m 94 76) + (1 : Int32)).toInt = (m 94 76).toInt + (1) := i_addk rfl (by omega) (by omega) | have b10 := i_bd ((m 94 76) + (1 : Int32))
      have hV8 : zV (ma_u m 94 76 ((m 94 76) + (1 : Int32))) := us_94_76 hV (by omega) (by omega)
      first | have f11 : 0 ≤ (m 119 (m 94 76).toNatClampNeg).toInt ∧ (m 119 (m 94 76).toNatClampNeg).toInt ≤ 3099 := ra_119 (m := m) hV (k := (m 94 76).toNatClampNeg) (i_ix (n := 3100) (by omega) (by omega)).2 | have b12 := i_bd (m 119 (m 94 76).toNatClampNeg)
      have li13 : (0 : Int32).toInt = 0 := rfl
      exact lp_208_33 h0 K (fun _  z1 z2 z3 y0 y1 y2 y3 y4 y5 y6 y7 y8 y9 y10 => IH _ z1 _  rfl z2 z3 y0 y1 y2 y3 y4 y5 y6 y7 y8 y9 y10) _ _ ((m 119 (m 94 76).toNatClampNeg)) ((0 : Int32)) rfl (zF_u hF rfl) hV8 (by omega) (by omega) (by omega) (show (3101 - ((m 94 76) + (1 : Int32)).toInt).toNat < n from by omega) (show (m 94 10).toInt = 2 ∨ (m 94 10).toInt = 3 from by omega) r_CMK r_OW r_H2 r_H3 (show ((m 94 76) + (1 : Int32)).toInt ≤ (m 94 75).toInt from by omega) r_KU r_W r_DX (show zCQ (m 110) (m 98) (m 101) (m 102) (m 108) (m 119) ((m 94 76) + (1 : Int32)) (m 94 75) XX (m 119 (m 94 76).toNatClampNeg).toNatClampNeg (0 : Int32).toNatClampNeg from by first | (exact CQ_take r_CQ (by omega) (by omega) (by omega) rfl) | (exfalso; omega; done) | (exfalso; contradiction; done)) r_KM
theorem sp_208 {X : Nat × (Nat → Int32)} {P : Option ma_V → (Nat → Nat → Int32) → Prop} {XX : Nat→Prop} {m : Nat → Nat → Int32}  (hV : zV m) (hpre0 : (m 94 10).toInt = 2 ∨ (m 94 10).toInt = 3) (r_CMK : zKS (m 110) (m 94 75)) (r_OW : zOw (m 99) (m 103) (m 111)) (r_H2 : zH2 (m 94 10) (m 94 11) (m 94 61) (m 94 77) (m 99) (m 110) (m 102)) (r_H3 : zH3 (m 94 10) (m 94 13) (m 94 14) (m 94 15) (m 94 61) (m 94 77) (m 94 60) (m 99) (m 110) (m 104) (m 102) (m 103) (m 111)) (hpre5 : (m 94 76).toInt ≤ (m 94 75).toInt) (r_KU : zKU (m 94 10) (m 99) (m 110)) (r_W : zW (m 94 7) (m 98) (m 101) (m 102) (m 108)) (r_DX : zDX (m 94 10) (m 99) (m 112) (m 113) (m 114) (m 94 55) (m 98) (m 101) (m 102) (m 108)) (r_CQ : zCQ (m 110) (m 98) (m 101) (m 102) (m 108) (m 119) (m 94 76) (m 94 75) XX 3100 0) (KZ : ∀ m₉, zV (zov wr_208 m m₉) → (zKS (m₉ 110) (m₉ 94 75)) → (zOw (m 99) (m₉ 103) (m₉ 111)) → (zH2 (m 94 10) (m 94 11) (m 94 61) (m₉ 94 77) (m 99) (m₉ 110) (m 102)) → (zH3 (m 94 10) (m 94 13) (m 94 14) (m 94 15) (m 94 61) (m₉ 94 77) (m₉ 94 60) (m 99) (m₉ 110) (m₉ 104) (m 102) (m₉ 103) (m₉ 111)) → ((m₉ 94 76).toInt ≤ (m₉ 94 75).toInt) → (zKU (m 94 10) (m 99) (m₉ 110)) → (zle (m 110) (m₉ 110)) → (zCQ (m₉ 110) (m 98) (m 101) (m 102) (m 108) (m₉ 119) (m₉ 94 76) (m₉ 94 75) XX 3100 0) → ((m₉ 94 75).toInt ≤ (m₉ 94 76).toInt) → P none (zov wr_208 m m₉)) : zm X 3 64 208 0 [(0, .inr (.inr (some 94)))] m P := by
  have K : ∀ m₉, zF wr_208 m m₉ → zV m₉ → (zKS (m₉ 110) (m₉ 94 75)) → (zOw (m₉ 99) (m₉ 103) (m₉ 111)) → (zH2 (m₉ 94 10) (m₉ 94 11) (m₉ 94 61) (m₉ 94 77) (m₉ 99) (m₉ 110) (m₉ 102)) → (zH3 (m₉ 94 10) (m₉ 94 13) (m₉ 94 14) (m₉ 94 15) (m₉ 94 61) (m₉ 94 77) (m₉ 94 60) (m₉ 99) (m₉ 110) (m₉ 104) (m₉ 102) (m₉ 103) (m₉ 111)) → ((m₉ 94 76).toInt ≤ (m₉ 94 75).toInt) → (zKU (m₉ 94 10) (m₉ 99) (m₉ 110)) → (zle (m 110) (m₉ 110)) → (zCQ (m₉ 110) (m₉ 98) (m₉ 101) (m₉ 102) (m₉ 108) (m₉ 119) (m₉ 94 76) (m₉ 94 75) XX 3100 0) → ((m₉ 94 75).toInt ≤ (m₉ 94 76).toInt) → P none m₉ := by
    intro m₉ hf z q0 q1 q2 q3 q4 q5 q6 q7 q8
    have e := zov_eq hf
    rw [e] at z ⊢
    try rw [e] at q0
    try rw [e] at q1
    try rw [e] at q2
    try rw [e] at q3
    try rw [e] at q4
    try rw [e] at q5
    try rw [e] at q6
    try rw [e] at q7
    try rw [e] at q8
    exact KZ m₉ z q0 q1 q2 q3 q4 q5 q6 q7 q8
  have f1 : 0 ≤ (m 94 10).toInt ∧ (m 94 10).toInt ≤ 6 := rs_94_10 (m := m) hV
  have f2 : 0 ≤ (m 94 76).toInt ∧ (m 94 76).toInt ≤ 3100 := rs_94_76 (m := m) hV
  have f3 : 0 ≤ (m 94 75).toInt ∧ (m 94 75).toInt ≤ 3100 := rs_94_75 (m := m) hV
  exact lp_208_0 hV K _ _  rfl zF_rfl hV (show (m 94 10).toInt = 2 ∨ (m 94 10).toInt = 3 from by omega) r_CMK r_OW r_H2 r_H3 (show (m 94 76).toInt ≤ (m 94 75).toInt from by omega) r_KU r_W r_DX r_CQ (show zle (m 110) (m 110) from by first | (exact zle_rfl) | (exact zle_rfl) | (exfalso; omega; done) | (exfalso; contradiction; done))

/-! from 94.485 -/
/-! the reference (written by wip/tools/gen94m.py) -/
set_option maxRecDepth 100000 in
theorem hm_209 : ma_md 209 = some (12, yX12_comeWishers, cX12_comeWishers, 4, none) := rfl
theorem v_12_368_12 : ma_vl 12 368 12 = some (1, 208, 0) := by decide +kernel
theorem dX12_comeWishers_0 : decode cX12_comeWishers 0 = .ok (.iconst (-1), 1) := by decide +kernel
theorem dX12_comeWishers_1 : decode cX12_comeWishers 1 = .ok (.istore_n 2, 1) := by decide +kernel
theorem dX12_comeWishers_2 : decode cX12_comeWishers 2 = .ok (.aload_n 0, 1) := by decide +kernel
theorem dX12_comeWishers_3 : decode cX12_comeWishers 3 = .ok (.iload_n 2, 1) := by decide +kernel
theorem dX12_comeWishers_4 : decode cX12_comeWishers 4 = .ok (.iload_n 1, 1) := by decide +kernel
theorem dX12_comeWishers_5 : decode cX12_comeWishers 5 = .ok (.invokevirtual 320, 3) := by decide +kernel
theorem dX12_comeWishers_8 : decode cX12_comeWishers 8 = .ok (.istore_n 3, 1) := by decide +kernel
theorem dX12_comeWishers_9 : decode cX12_comeWishers 9 = .ok (.iload_n 3, 1) := by decide +kernel
theorem dX12_comeWishers_44 : decode cX12_comeWishers 44 = .ok (.return_, 1) := by decide +kernel
theorem dX12_comeWishers_13 : decode cX12_comeWishers 13 = .ok (.aload_n 0, 1) := by decide +kernel
theorem dX12_comeWishers_17 : decode cX12_comeWishers 17 = .ok (.iload_n 3, 1) := by decide +kernel
theorem dX12_comeWishers_19 : decode cX12_comeWishers 19 = .ok (.istore_n 2, 1) := by decide +kernel
theorem dX12_comeWishers_20 : decode cX12_comeWishers 20 = .ok (.aload_n 0, 1) := by decide +kernel
theorem dX12_comeWishers_21 : decode cX12_comeWishers 21 = .ok (.iload_n 3, 1) := by decide +kernel
theorem dX12_comeWishers_22 : decode cX12_comeWishers 22 = .ok (.invokevirtual 324, 3) := by decide +kernel
theorem dX12_comeWishers_25 : decode cX12_comeWishers 25 = .ok (.aload_n 0, 1) := by decide +kernel
theorem dX12_comeWishers_26 : decode cX12_comeWishers 26 = .ok (.iload_n 3, 1) := by decide +kernel
theorem dX12_comeWishers_27 : decode cX12_comeWishers 27 = .ok (.invokevirtual 365, 3) := by decide +kernel
theorem dX12_comeWishers_30 : decode cX12_comeWishers 30 = .ok (.aload_n 0, 1) := by decide +kernel
theorem dX12_comeWishers_31 : decode cX12_comeWishers 31 = .ok (.invokevirtual 368, 3) := by decide +kernel
theorem dX12_comeWishers_34 : decode cX12_comeWishers 34 = .ok (.aload_n 0, 1) := by decide +kernel
theorem dX12_comeWishers_35 : decode cX12_comeWishers 35 = .ok (.iload_n 2, 1) := by decide +kernel
theorem dX12_comeWishers_36 : decode cX12_comeWishers 36 = .ok (.iload_n 1, 1) := by decide +kernel
theorem dX12_comeWishers_37 : decode cX12_comeWishers 37 = .ok (.invokevirtual 320, 3) := by decide +kernel
theorem dX12_comeWishers_40 : decode cX12_comeWishers 40 = .ok (.istore_n 3, 1) := by decide +kernel
theorem dX12_comeWishers_41 : decode cX12_comeWishers 41 = .ok (.goto (-32), 3) := by decide +kernel
theorem dX12_comeWishers_18 : decode cX12_comeWishers 18 = .ok (.iaload, 1) := by decide +kernel
theorem dX12_comeWishers_14 : decode cX12_comeWishers 14 = .ok (.getfield 31, 3) := by decide +kernel
theorem dX12_comeWishers_10 : decode cX12_comeWishers 10 = .ok (.ifCond .lt 34, 3) := by decide +kernel
def wr_209 (c k : Nat) : Bool := Nat.beq c 103 || Nat.beq c 104 || Nat.beq c 105 || Nat.beq c 109 || Nat.beq c 110 || Nat.beq c 111 || Nat.beq c 113 || Nat.beq c 114 || Nat.beq c 119 || (Nat.beq c 94 && (Nat.beq k 48 || Nat.beq k 55 || Nat.beq k 60 || Nat.beq k 75 || Nat.beq k 76 || Nat.beq k 77))
theorem ws_195_209 : ∀ c k, wr_195 c k = true → wr_209 c k = true := fun _ _ h => by cases h
theorem ws_197_209 : ∀ c k, wr_197 c k = true → wr_209 c k = true := by
  intro c k h
  simp only [wr_197, wr_209, Bool.or_eq_true, Bool.and_eq_true, Nat.beq_eq] at h ⊢
  omega
theorem ws_207_209 : ∀ c k, wr_207 c k = true → wr_209 c k = true := by
  intro c k h
  simp only [wr_207, wr_209, Bool.or_eq_true, Bool.and_eq_true, Nat.beq_eq] at h ⊢
  omega
theorem ws_208_209 : ∀ c k, wr_208 c k = true → wr_209 c k = true := by
  intro c k h
  simp only [wr_208, wr_209, Bool.or_eq_true, Bool.and_eq_true, Nat.beq_eq] at h ⊢
  omega
theorem g_209_0 {X : Nat × (Nat → Int32)} {m : Nat → Nat → Int32} {P : Option ma_V → (Nat → Nat → Int32) → Prop} (yo : Int32) (h : zm X 1 21 195 0 [(0, .inr (.inr (some 94))), (1, .inl (-1 : Int32)), (2, .inl yo)] m (zmi (fun v2 m1 => zm X 4 86 209 9 [(0, .inr (.inr (some 94))), (1, .inl yo), (3, .inl v2)] m1 P))) : zm X 4 86 209 0 [(0, .inr (.inr (some 94))), (1, .inl yo)] m P := by
  intro d w S Q hd hw hS hm HQ
  subst hm
  refine zw_push hm_209 dX12_comeWishers_0 (v := .inl (-1 : Int32)) rfl ?_
  refine zw_sto hm_209 dX12_comeWishers_1 [(2, .inl (-1 : Int32)), (0, .inr (.inr (some 94))), (1, .inl yo)] rfl rfl rfl ?_
  refine zw_push hm_209 dX12_comeWishers_2 (v := .inr (.inr (some 94))) rfl ?_
  refine zw_push hm_209 dX12_comeWishers_3 (v := .inl (-1 : Int32)) rfl ?_
  refine zw_push hm_209 dX12_comeWishers_4 (v := .inl yo) rfl ?_
  refine zw_cv hm_209 dX12_comeWishers_5 v_12_320_12 hm_195 [.inl yo, .inl (-1 : Int32)] [] rfl (zT_rt hS s_94 rfl) ⟨by omega, by omega⟩ rfl (h _ _ S _ (by omega) (by omega) hS rfl (fun o9 m1 hv => ?_))
  obtain ⟨v2, rfl, h⟩ := zmi_of hv
  show ma_wp X d w 209 8 [(2, .inl (-1 : Int32)), (0, .inr (.inr (some 94))), (1, .inl yo)] [.inl v2] (zst S m1) _
  refine zw_sto hm_209 dX12_comeWishers_8 [(3, .inl v2), (2, .inl (-1 : Int32)), (0, .inr (.inr (some 94))), (1, .inl yo)] rfl rfl rfl ?_
  exact zw_sub (ma_nd_of (ks := [0, 1, 3]) rfl (by decide)) (ma_nd_of (ks := [3, 2, 0, 1]) rfl (by decide)) (ma_le_cons rfl (ma_le_cons rfl (ma_le_cons rfl (ma_le_nil _)))) (h d w _ Q (by omega) (by omega) (zT_zst hS m1) rfl HQ)
theorem g_209_9 {X : Nat × (Nat → Int32)} {m : Nat → Nat → Int32} {P : Option ma_V → (Nat → Nat → Int32) → Prop} (l1 : Int32) (l3 : Int32) (h : if l3 < 0 then (P none m) else ((0 ≤ l3 ∧ l3.toNatClampNeg < 3100) ∧ (zm X 1 22 197 0 [(0, .inr (.inr (some 94))), (1, .inl l3)] m (zmv (fun m1 => zm X 2 43 207 0 [(0, .inr (.inr (some 94))), (1, .inl l3)] m1 (zmv (fun m3 => zm X 3 64 208 0 [(0, .inr (.inr (some 94)))] m3 (zmv (fun m5 => zm X 1 21 195 0 [(0, .inr (.inr (some 94))), (1, .inl (m 100 l3.toNatClampNeg)), (2, .inl l1)] m5 (zmi (fun v8 m7 => zm X 4 86 209 9 [(0, .inr (.inr (some 94))), (1, .inl l1), (3, .inl v8)] m7 P))))))))))) : zm X 4 86 209 9 [(0, .inr (.inr (some 94))), (1, .inl l1), (3, .inl l3)] m P := by
  intro d w S Q hd hw hS hm HQ
  subst hm
  refine zw_push hm_209 dX12_comeWishers_9 (v := .inl l3) rfl ?_
  refine zw_if0 hm_209 dX12_comeWishers_10 (t := 44) rfl zc0_lt ?_ ?_
  · intro hc
    rw [if_pos hc] at h
    exact zw_vret hm_209 dX12_comeWishers_44 (HQ _ _ h)
  · intro hc
    rw [if_neg hc] at h
    refine zw_push hm_209 dX12_comeWishers_13 (v := .inr (.inr (some 94))) rfl ?_
    refine zw_gf hm_209 dX12_comeWishers_14 (v := .inr (.inr (some 100))) (zT_is hS s_94) (zT_t hS s_94) rfl f_12_31_12 (zT_f hS r_94_32) ?_
    refine zw_push hm_209 dX12_comeWishers_17 (v := .inl l3) rfl ?_
    obtain ⟨hg, h⟩ := h
    refine zw_ia hm_209 dX12_comeWishers_18 (zT_is hS s_100) (zT_h hS s_100) rfl hg ?_
    show ma_wp X d w 209 19 [(0, .inr (.inr (some 94))), (1, .inl l1), (3, .inl l3)] [.inl ((mI S) 100 l3.toNatClampNeg)] S _
    refine zw_sto hm_209 dX12_comeWishers_19 [(2, .inl ((mI S) 100 l3.toNatClampNeg)), (0, .inr (.inr (some 94))), (1, .inl l1), (3, .inl l3)] rfl rfl rfl ?_
    refine zw_push hm_209 dX12_comeWishers_20 (v := .inr (.inr (some 94))) rfl ?_
    refine zw_push hm_209 dX12_comeWishers_21 (v := .inl l3) rfl ?_
    refine zw_cv hm_209 dX12_comeWishers_22 v_12_324_12 hm_197 [.inl l3] [] rfl (zT_rt hS s_94 rfl) ⟨by omega, by omega⟩ rfl (h _ _ S _ (by omega) (by omega) hS rfl (fun o9 m1 hv => ?_))
    obtain ⟨rfl, h⟩ := zmv_of hv
    show ma_wp X d w 209 25 [(2, .inl ((mI S) 100 l3.toNatClampNeg)), (0, .inr (.inr (some 94))), (1, .inl l1), (3, .inl l3)] [] (zst S m1) _
    refine zw_push hm_209 dX12_comeWishers_25 (v := .inr (.inr (some 94))) rfl ?_
    refine zw_push hm_209 dX12_comeWishers_26 (v := .inl l3) rfl ?_
    refine zw_cv hm_209 dX12_comeWishers_27 v_12_365_12 hm_207 [.inl l3] [] rfl (zT_rt (zT_zst hS m1) s_94 rfl) ⟨by omega, by omega⟩ rfl (h _ _ (zst S m1) _ (by omega) (by omega) (zT_zst hS m1) rfl (fun o9 m3 hv => ?_))
    obtain ⟨rfl, h⟩ := zmv_of hv
    show ma_wp X d w 209 30 [(2, .inl ((mI S) 100 l3.toNatClampNeg)), (0, .inr (.inr (some 94))), (1, .inl l1), (3, .inl l3)] [] (zst S m3) _
    refine zw_push hm_209 dX12_comeWishers_30 (v := .inr (.inr (some 94))) rfl ?_
    refine zw_cv hm_209 dX12_comeWishers_31 v_12_368_12 hm_208 [] [] rfl (zT_rt (zT_zst hS m3) s_94 rfl) ⟨by omega, by omega⟩ rfl (h _ _ (zst S m3) _ (by omega) (by omega) (zT_zst hS m3) rfl (fun o9 m5 hv => ?_))
    obtain ⟨rfl, h⟩ := zmv_of hv
    show ma_wp X d w 209 34 [(2, .inl ((mI S) 100 l3.toNatClampNeg)), (0, .inr (.inr (some 94))), (1, .inl l1), (3, .inl l3)] [] (zst S m5) _
    refine zw_push hm_209 dX12_comeWishers_34 (v := .inr (.inr (some 94))) rfl ?_
    refine zw_push hm_209 dX12_comeWishers_35 (v := .inl ((mI S) 100 l3.toNatClampNeg)) rfl ?_
    refine zw_push hm_209 dX12_comeWishers_36 (v := .inl l1) rfl ?_
    refine zw_cv hm_209 dX12_comeWishers_37 v_12_320_12 hm_195 [.inl l1, .inl ((mI S) 100 l3.toNatClampNeg)] [] rfl (zT_rt (zT_zst hS m5) s_94 rfl) ⟨by omega, by omega⟩ rfl (h _ _ (zst S m5) _ (by omega) (by omega) (zT_zst hS m5) rfl (fun o9 m7 hv => ?_))
    obtain ⟨v8, rfl, h⟩ := zmi_of hv
    show ma_wp X d w 209 40 [(2, .inl ((mI S) 100 l3.toNatClampNeg)), (0, .inr (.inr (some 94))), (1, .inl l1), (3, .inl l3)] [.inl v8] (zst S m7) _
    refine zw_sto hm_209 dX12_comeWishers_40 [(3, .inl v8), (2, .inl ((mI S) 100 l3.toNatClampNeg)), (0, .inr (.inr (some 94))), (1, .inl l1)] rfl rfl rfl ?_
    refine zw_goto hm_209 dX12_comeWishers_41 (t := 9) rfl ?_
    exact zw_sub (ma_nd_of (ks := [0, 1, 3]) rfl (by decide)) (ma_nd_of (ks := [3, 2, 0, 1]) rfl (by decide)) (ma_le_cons rfl (ma_le_cons rfl (ma_le_cons rfl (ma_le_nil _)))) (h d w _ Q (by omega) (by omega) (zT_zst hS m7) rfl HQ)
set_option maxHeartbeats 8000000 in
theorem lp_209_9 {X : Nat × (Nat → Int32)} {P : Option ma_V → (Nat → Nat → Int32) → Prop} {T : Nat} {XX : Nat→Prop} {yo : Int32} {m0 : Nat → Nat → Int32} (h0 : zV m0) (K : ∀ m₉, zF wr_209 m0 m₉ → zV m₉ → (zKS (m₉ 110) (m₉ 94 75)) → (zOw (m₉ 99) (m₉ 103) (m₉ 111)) → (zH2 (m₉ 94 10) (m₉ 94 11) (m₉ 94 61) (m₉ 94 77) (m₉ 99) (m₉ 110) (m₉ 102)) → (zH3 (m₉ 94 10) (m₉ 94 13) (m₉ 94 14) (m₉ 94 15) (m₉ 94 61) (m₉ 94 77) (m₉ 94 60) (m₉ 99) (m₉ 110) (m₉ 104) (m₉ 102) (m₉ 103) (m₉ 111)) → ((m₉ 94 76).toInt ≤ (m₉ 94 75).toInt) → (zKU (m₉ 94 10) (m₉ 99) (m₉ 110)) → (zDX (m₉ 94 10) (m₉ 99) (m₉ 112) (m₉ 113) (m₉ 114) (m₉ 94 55) (m₉ 98) (m₉ 101) (m₉ 102) (m₉ 108)) → ((m₉ 94 75).toInt ≤ (m₉ 94 76).toInt) → (zCQ (m₉ 110) (m₉ 98) (m₉ 101) (m₉ 102) (m₉ 108) (m₉ 119) (m₉ 94 76) (m₉ 94 75) XX 3100 0) → (zGW T (m₉ 94 55) (m₉ 109)) → (((m₉ 94 10).toInt = 2 ∨ (m₉ 94 10).toInt = 3) → zcov (m₉ 110) (m₉ 112) 16) → (((m₉ 94 10).toInt = 2 ∨ (m₉ 94 10).toInt = 3) → zcov (m₉ 110) (m₉ 114) (m₉ 94 55).toInt) → (zuw (m0 113) (m₉ 113)) → P none m₉) : ∀ (n : Nat) (m : Nat → Nat → Int32) (l1 : Int32) (l3 : Int32), ((zmg (m 100) l3 : Int)).toNat = n → zF wr_209 m0 m → zV m → (zWS (m 100) (m 99) (m 110) (m 109) (-1 : Int32) l3) → ((m 94 10).toInt = 2 ∨ (m 94 10).toInt = 3) → (zKS (m 110) (m 94 75)) → (zOw (m 99) (m 103) (m 111)) → (zH2 (m 94 10) (m 94 11) (m 94 61) (m 94 77) (m 99) (m 110) (m 102)) → (zH3 (m 94 10) (m 94 13) (m 94 14) (m 94 15) (m 94 61) (m 94 77) (m 94 60) (m 99) (m 110) (m 104) (m 102) (m 103) (m 111)) → ((m 94 76).toInt ≤ (m 94 75).toInt) → (zKU (m 94 10) (m 99) (m 110)) → (zW (m 94 7) (m 98) (m 101) (m 102) (m 108)) → (zDX (m 94 10) (m 99) (m 112) (m 113) (m 114) (m 94 55) (m 98) (m 101) (m 102) (m 108)) → ((m 94 75).toInt ≤ (m 94 76).toInt) → (zCQ (m 110) (m 98) (m 101) (m 102) (m 108) (m 119) (m 94 76) (m 94 75) XX 3100 0) → (zGW T (m 94 55) (m 109)) → (((m 94 10).toInt = 2 ∨ (m 94 10).toInt = 3) → zcov (m 110) (m 112) 16) → (((m 94 10).toInt = 2 ∨ (m 94 10).toInt = 3) → zcov (m 110) (m 114) (m 94 55).toInt) → (zuw (m0 113) (m 113)) → zm X 4 86 209 9 [(0, .inr (.inr (some 94))), (1, .inl l1), (3, .inl l3)] m P := by
  intro n
  induction n using Nat.strongRecOn with
  | _ n IH =>
    intro m l1 l3 hmu hF hV r_WS hi1 r_CMK r_OW r_H2 r_H3 hi6 r_KU r_W r_DX hi10 r_CQ r_GW r_COVR r_COVW r_UW
    refine g_209_9 l1 l3 ?_
    have f1 : 0 ≤ (m 94 10).toInt ∧ (m 94 10).toInt ≤ 6 := rs_94_10 (m := m) hV
    have f2 : 0 ≤ (m 94 76).toInt ∧ (m 94 76).toInt ≤ 3100 := rs_94_76 (m := m) hV
    have f3 : 0 ≤ (m 94 75).toInt ∧ (m 94 75).toInt ≤ 3100 := rs_94_75 (m := m) hV
    have b4 := i_bd l3
    have li5 : (0 : Int32).toInt = 0 := rfl
    refine zd (fun (h6 : l3 < (0 : Int32)) => ?_) (fun (h6 : ¬ l3 < (0 : Int32)) => ?_)
    · skip
      have g7 := i_lt h6
      try have gw := GW_room r_GW
      exact K _ hF hV r_CMK r_OW r_H2 r_H3 (show (m 94 76).toInt ≤ (m 94 75).toInt from by omega) r_KU r_DX (show (m 94 75).toInt ≤ (m 94 76).toInt from by omega) r_CQ r_GW r_COVR r_COVW r_UW
    · skip
      have g8 := i_nlt h6
      try obtain ⟨ws1, ws2, ws3, ws4, ws5, ws6⟩ := WS_ge r_WS (by omega)
      have hg9 : (0 ≤ l3 ∧ l3.toNatClampNeg < 3100) := i_ix (by omega) (by omega)
      refine ⟨hg9, ?_⟩
      refine sp_197 (l3) hV (by omega) (by omega) (show (m 109) l3.toNatClampNeg ≠ 0 from by first | (assumption; done) | (exfalso; omega; done) | (exfalso; contradiction; done)) r_GW (fun m1 hV_m1 p0_m1 p1_m1 p2_m1 p3_m1 => zmv_n ?_)
      have p0_m1 : zGW T (m1 94 55) (m1 109) := p0_m1
      have p1_m1 : zuw (m 113) (m1 113) := p1_m1
      have p2_m1 : zwx (m 114) (m1 114) (m 94 55) l3 := p2_m1
      have p3_m1 : (m1 94 55).toInt = (m 94 55).toInt + 1 := p3_m1
      have f10 : 0 ≤ (m1 94 55).toInt ∧ (m1 94 55).toInt ≤ 3100 := rs_94_55 (m := (zov wr_197 m m1)) hV_m1
      have f11 : 0 ≤ (m 94 55).toInt ∧ (m 94 55).toInt ≤ 3100 := rs_94_55 (m := m) hV
      refine sp_207 (XX := XX) (CU := 3100) (II := 0) (l3) hV_m1 (by omega) (by omega) (show (m 94 10).toInt = 2 ∨ (m 94 10).toInt = 3 from by omega) (show l3.toInt < 0 ∨ (m 99) l3.toNatClampNeg ≠ 0 from by first | (exact Or.inr ws3) | (exfalso; omega; done) | (exfalso; contradiction; done)) r_CMK r_OW r_H2 r_H3 (show (m 94 76).toInt ≤ (m 94 75).toInt from by omega) r_CQ r_KU (fun m3 hV_m3 p0_m3 p1_m3 p2_m3 p3_m3 p4_m3 p5_m3 p6_m3 p7_m3 p8_m3 p9_m3 p10_m3 => zmv_n ?_)
      have p0_m3 : zKS (m3 110) (m3 94 75) := p0_m3
      have p1_m3 : zOw (m 99) (m3 103) (m3 111) := p1_m3
      have p2_m3 : zH2 (m 94 10) (m 94 11) (m 94 61) (m3 94 77) (m 99) (m3 110) (m 102) := p2_m3
      have p3_m3 : zH3 (m 94 10) (m 94 13) (m 94 14) (m 94 15) (m 94 61) (m3 94 77) (m3 94 60) (m 99) (m3 110) (m3 104) (m 102) (m3 103) (m3 111) := p3_m3
      have p4_m3 : l3.toInt < 0 ∨ (m3 110) l3.toNatClampNeg ≠ 0 := p4_m3
      have p5_m3 : zle (m 110) (m3 110) := p5_m3
      have p6_m3 : (m 94 76).toInt ≤ (m3 94 75).toInt := p6_m3
      have p7_m3 : zCQ (m3 110) (m 98) (m 101) (m 102) (m 108) (m3 119) (m 94 76) (m3 94 75) XX 3100 0 := p7_m3
      have p8_m3 : zKU (m 94 10) (m 99) (m3 110) := p8_m3
      have p9_m3 : (m 94 10).toInt = 3 → zax (m 103) (m3 103) (m 94 60).toInt := p9_m3
      have p10_m3 : (m 94 60).toInt ≤ (m3 94 60).toInt := p10_m3
      have f12 : 0 ≤ (m3 94 75).toInt ∧ (m3 94 75).toInt ≤ 3100 := rs_94_75 (m := (zov wr_207 (zov wr_197 m m1) m3)) hV_m3
      have f13 : 0 ≤ (m 94 60).toInt ∧ (m 94 60).toInt ≤ 1600 := rs_94_60 (m := m) hV
      have f14 : 0 ≤ (m3 94 60).toInt ∧ (m3 94 60).toInt ≤ 1600 := rs_94_60 (m := (zov wr_207 (zov wr_197 m m1) m3)) hV_m3
      refine sp_208 (XX := XX)  hV_m3 (show (m 94 10).toInt = 2 ∨ (m 94 10).toInt = 3 from by omega) p0_m3 p1_m3 p2_m3 p3_m3 (show (m 94 76).toInt ≤ (m3 94 75).toInt from by omega) p8_m3 r_W (show zDX (m 94 10) (m 99) (m 112) (m1 113) (m1 114) (m1 94 55) (m 98) (m 101) (m 102) (m 108) from by first | (exact DX_wish r_DX p1_m1 p2_m1 ws3 (by omega) (by omega)) | (exfalso; omega; done) | (exfalso; contradiction; done)) p7_m3 (fun m5 hV_m5 p0_m5 p1_m5 p2_m5 p3_m5 p4_m5 p5_m5 p6_m5 p7_m5 p8_m5 => zmv_n ?_)
      have p0_m5 : zKS (m5 110) (m5 94 75) := p0_m5
      have p1_m5 : zOw (m 99) (m5 103) (m5 111) := p1_m5
      have p2_m5 : zH2 (m 94 10) (m 94 11) (m 94 61) (m5 94 77) (m 99) (m5 110) (m 102) := p2_m5
      have p3_m5 : zH3 (m 94 10) (m 94 13) (m 94 14) (m 94 15) (m 94 61) (m5 94 77) (m5 94 60) (m 99) (m5 110) (m5 104) (m 102) (m5 103) (m5 111) := p3_m5
      have p4_m5 : (m5 94 76).toInt ≤ (m5 94 75).toInt := p4_m5
      have p5_m5 : zKU (m 94 10) (m 99) (m5 110) := p5_m5
      have p6_m5 : zle (m3 110) (m5 110) := p6_m5
      have p7_m5 : zCQ (m5 110) (m 98) (m 101) (m 102) (m 108) (m5 119) (m5 94 76) (m5 94 75) XX 3100 0 := p7_m5
      have p8_m5 : (m5 94 75).toInt ≤ (m5 94 76).toInt := p8_m5
      have f15 : 0 ≤ (m5 94 76).toInt ∧ (m5 94 76).toInt ≤ 3100 := rs_94_76 (m := (zov wr_208 (zov wr_207 (zov wr_197 m m1) m3) m5)) hV_m5
      have f16 : 0 ≤ (m5 94 75).toInt ∧ (m5 94 75).toInt ≤ 3100 := rs_94_75 (m := (zov wr_208 (zov wr_207 (zov wr_197 m m1) m3) m5)) hV_m5
      first | have f17 : 0 ≤ (m 100 l3.toNatClampNeg).toInt ∧ (m 100 l3.toNatClampNeg).toInt ≤ 100000 := ra_100 (m := m) hV (k := l3.toNatClampNeg) (i_ix (n := 3100) (by omega) (by omega)).2 | have b18 := i_bd (m 100 l3.toNatClampNeg)
      have b19 := i_bd l1
      refine sp_195 ((m 100 l3.toNatClampNeg)) (l1) hV_m5  (fun v8 m7 hV_m7 p0_m7 => zmi_n ?_)
      have p0_m7 : zWS (m 100) (m 99) (m5 110) (m1 109) (m 100 l3.toNatClampNeg) v8 := p0_m7
      try have gw := GW_room p0_m1
      have b20 := i_bd v8
      exact IH ((zmg (m 100) v8 : Int)).toNat (by have zq := zmg_lt (s := l3) (by omega) p0_m7 rfl (by omega) (by omega); omega) _ (l1) (v8) rfl (zF_zov (zF_zov (zF_zov (zF_zov hF ws_197_209) ws_207_209) ws_208_209) ws_195_209) hV_m7 (show zWS (m 100) (m 99) (m5 110) (m1 109) (-1 : Int32) v8 from by first | (exact WS_weak p0_m7 (by omega)) | (exact p0_m7) | (exact Or.inl (by decide)) | (exact Or.inr ⟨by omega, by omega, by assumption, by assumption, by assumption, by omega⟩) | (exfalso; omega; done) | (exfalso; contradiction; done)) (show (m 94 10).toInt = 2 ∨ (m 94 10).toInt = 3 from by omega) p0_m5 p1_m5 p2_m5 p3_m5 (show (m5 94 76).toInt ≤ (m5 94 75).toInt from by omega) p5_m5 r_W (show zDX (m 94 10) (m 99) (m 112) (m1 113) (m1 114) (m1 94 55) (m 98) (m 101) (m 102) (m 108) from by first | (exact DX_wish r_DX p1_m1 p2_m1 ws3 (by omega) (by omega)) | (exfalso; omega; done) | (exfalso; contradiction; done)) (show (m5 94 75).toInt ≤ (m5 94 76).toInt from by omega) p7_m5 p0_m1 (show ((m 94 10).toInt = 2 ∨ (m 94 10).toInt = 3) → zcov (m5 110) (m 112) 16 from by first | (exact fun hp => cov_le (cov_le (r_COVR hp) p5_m3 (fun k hk => (ra_112 hV (by omega)).2)) p6_m5 (fun k hk => (ra_112 hV (by omega)).2)) | (exact fun hp => cov_0 (by decide)) | (exact fun hp => cov_one (r_COVR hp) rfl (by omega) (by omega) (Or.inl (by omega))) | (exact fun hp => cov_one (r_COVR hp) rfl (by omega) (by omega) (Or.inr (by assumption))) | (exact fun hp => cov_cut (r_COVR hp) (by omega)) | (exact fun hp => cov_le (r_COVR hp) p6_m5 (fun k hk => (ra_112 hV_m7 (by omega)).2)) | (exact fun hp => cov_le (r_COVR hp) p6_m5 (fun k hk => (ra_114 hV_m7 (by have := rs_94_55 hV; omega)).2)) | (exfalso; omega; done) | (exfalso; contradiction; done)) (show ((m 94 10).toInt = 2 ∨ (m 94 10).toInt = 3) → zcov (m5 110) (m1 114) (m1 94 55).toInt from by first | (exact fun hp => cov_le (cov_wx (cov_le (r_COVW hp) p5_m3 (fun k hk => (ra_114 hV (by have := GW_room r_GW; omega)).2)) p2_m1 (p4_m3.elim (fun z => absurd z (by omega)) id) (by omega) (by omega)) p6_m5 (fun k hk => (ra_114 hV_m7 (by have := GW_room p0_m1; omega)).2)) | (exact fun hp => cov_0 (by decide)) | (exact fun hp => cov_one (r_COVW hp) rfl (by omega) (by omega) (Or.inl (by omega))) | (exact fun hp => cov_one (r_COVW hp) rfl (by omega) (by omega) (Or.inr (by assumption))) | (exact fun hp => cov_cut (r_COVW hp) (by omega)) | (exact fun hp => cov_le (r_COVW hp) p6_m5 (fun k hk => (ra_112 hV_m7 (by omega)).2)) | (exact fun hp => cov_le (r_COVW hp) p6_m5 (fun k hk => (ra_114 hV_m7 (by have := rs_94_55 hV; omega)).2)) | (exfalso; omega; done) | (exfalso; contradiction; done)) (show zuw (m0 113) (m1 113) from by first | (exact zuw_tr r_UW p1_m1) | (exact zuw_rfl) | (exfalso; omega; done) | (exfalso; contradiction; done))
set_option maxHeartbeats 8000000 in
theorem sp_209 {X : Nat × (Nat → Int32)} {P : Option ma_V → (Nat → Nat → Int32) → Prop} {T : Nat} {XX : Nat→Prop} {m : Nat → Nat → Int32} (yo : Int32) (hV : zV m) (hpre0 : (m 94 10).toInt = 2 ∨ (m 94 10).toInt = 3) (r_CMK : zKS (m 110) (m 94 75)) (r_OW : zOw (m 99) (m 103) (m 111)) (r_H2 : zH2 (m 94 10) (m 94 11) (m 94 61) (m 94 77) (m 99) (m 110) (m 102)) (r_H3 : zH3 (m 94 10) (m 94 13) (m 94 14) (m 94 15) (m 94 61) (m 94 77) (m 94 60) (m 99) (m 110) (m 104) (m 102) (m 103) (m 111)) (hpre5 : (m 94 76).toInt ≤ (m 94 75).toInt) (r_KU : zKU (m 94 10) (m 99) (m 110)) (r_W : zW (m 94 7) (m 98) (m 101) (m 102) (m 108)) (r_DX : zDX (m 94 10) (m 99) (m 112) (m 113) (m 114) (m 94 55) (m 98) (m 101) (m 102) (m 108)) (hpre9 : (m 94 75).toInt ≤ (m 94 76).toInt) (r_CQ : zCQ (m 110) (m 98) (m 101) (m 102) (m 108) (m 119) (m 94 76) (m 94 75) XX 3100 0) (r_GW : zGW T (m 94 55) (m 109)) (r_COVR : ((m 94 10).toInt = 2 ∨ (m 94 10).toInt = 3) → zcov (m 110) (m 112) 16) (r_COVW : ((m 94 10).toInt = 2 ∨ (m 94 10).toInt = 3) → zcov (m 110) (m 114) (m 94 55).toInt) (KZ : ∀ m₉, zV (zov wr_209 m m₉) → (zKS (m₉ 110) (m₉ 94 75)) → (zOw (m 99) (m₉ 103) (m₉ 111)) → (zH2 (m 94 10) (m 94 11) (m 94 61) (m₉ 94 77) (m 99) (m₉ 110) (m 102)) → (zH3 (m 94 10) (m 94 13) (m 94 14) (m 94 15) (m 94 61) (m₉ 94 77) (m₉ 94 60) (m 99) (m₉ 110) (m₉ 104) (m 102) (m₉ 103) (m₉ 111)) → ((m₉ 94 76).toInt ≤ (m₉ 94 75).toInt) → (zKU (m 94 10) (m 99) (m₉ 110)) → (zDX (m 94 10) (m 99) (m 112) (m₉ 113) (m₉ 114) (m₉ 94 55) (m 98) (m 101) (m 102) (m 108)) → ((m₉ 94 75).toInt ≤ (m₉ 94 76).toInt) → (zCQ (m₉ 110) (m 98) (m 101) (m 102) (m 108) (m₉ 119) (m₉ 94 76) (m₉ 94 75) XX 3100 0) → (zGW T (m₉ 94 55) (m₉ 109)) → (((m 94 10).toInt = 2 ∨ (m 94 10).toInt = 3) → zcov (m₉ 110) (m 112) 16) → (((m 94 10).toInt = 2 ∨ (m 94 10).toInt = 3) → zcov (m₉ 110) (m₉ 114) (m₉ 94 55).toInt) → (zuw (m 113) (m₉ 113)) → P none (zov wr_209 m m₉)) : zm X 4 86 209 0 [(0, .inr (.inr (some 94))), (1, .inl yo)] m P := by
  have K : ∀ m₉, zF wr_209 m m₉ → zV m₉ → (zKS (m₉ 110) (m₉ 94 75)) → (zOw (m₉ 99) (m₉ 103) (m₉ 111)) → (zH2 (m₉ 94 10) (m₉ 94 11) (m₉ 94 61) (m₉ 94 77) (m₉ 99) (m₉ 110) (m₉ 102)) → (zH3 (m₉ 94 10) (m₉ 94 13) (m₉ 94 14) (m₉ 94 15) (m₉ 94 61) (m₉ 94 77) (m₉ 94 60) (m₉ 99) (m₉ 110) (m₉ 104) (m₉ 102) (m₉ 103) (m₉ 111)) → ((m₉ 94 76).toInt ≤ (m₉ 94 75).toInt) → (zKU (m₉ 94 10) (m₉ 99) (m₉ 110)) → (zDX (m₉ 94 10) (m₉ 99) (m₉ 112) (m₉ 113) (m₉ 114) (m₉ 94 55) (m₉ 98) (m₉ 101) (m₉ 102) (m₉ 108)) → ((m₉ 94 75).toInt ≤ (m₉ 94 76).toInt) → (zCQ (m₉ 110) (m₉ 98) (m₉ 101) (m₉ 102) (m₉ 108) (m₉ 119) (m₉ 94 76) (m₉ 94 75) XX 3100 0) → (zGW T (m₉ 94 55) (m₉ 109)) → (((m₉ 94 10).toInt = 2 ∨ (m₉ 94 10).toInt = 3) → zcov (m₉ 110) (m₉ 112) 16) → (((m₉ 94 10).toInt = 2 ∨ (m₉ 94 10).toInt = 3) → zcov (m₉ 110) (m₉ 114) (m₉ 94 55).toInt) → (zuw (m 113) (m₉ 113)) → P none m₉ := by
    intro m₉ hf z q0 q1 q2 q3 q4 q5 q6 q7 q8 q9 q10 q11 q12
    have e := zov_eq hf
    rw [e] at z ⊢
    try rw [e] at q0
    try rw [e] at q1
    try rw [e] at q2
    try rw [e] at q3
    try rw [e] at q4
    try rw [e] at q5
    try rw [e] at q6
    try rw [e] at q7
    try rw [e] at q8
    try rw [e] at q9
    try rw [e] at q10
    try rw [e] at q11
    try rw [e] at q12
    exact KZ m₉ z q0 q1 q2 q3 q4 q5 q6 q7 q8 q9 q10 q11 q12
  refine g_209_0 yo ?_
  have f1 : 0 ≤ (m 94 10).toInt ∧ (m 94 10).toInt ≤ 6 := rs_94_10 (m := m) hV
  have f2 : 0 ≤ (m 94 76).toInt ∧ (m 94 76).toInt ≤ 3100 := rs_94_76 (m := m) hV
  have f3 : 0 ≤ (m 94 75).toInt ∧ (m 94 75).toInt ≤ 3100 := rs_94_75 (m := m) hV
  have li4 : (-1 : Int32).toInt = -1 := rfl
  have b5 := i_bd yo
  refine sp_195 ((-1 : Int32)) (yo) hV  (fun v2 m1 hV_m1 p0_m1 => zmi_n ?_)
  have p0_m1 : zWS (m 100) (m 99) (m 110) (m 109) (-1 : Int32) v2 := p0_m1
  try have gw := GW_room r_GW
  have b6 := i_bd v2
  exact lp_209_9 (yo := yo) hV K _ _ (yo) (v2) rfl (zF_zov zF_rfl ws_195_209) hV_m1 p0_m1 (show (m 94 10).toInt = 2 ∨ (m 94 10).toInt = 3 from by omega) r_CMK r_OW r_H2 r_H3 (show (m 94 76).toInt ≤ (m 94 75).toInt from by omega) r_KU r_W r_DX (show (m 94 75).toInt ≤ (m 94 76).toInt from by omega) r_CQ r_GW r_COVR r_COVW (show zuw (m 113) (m 113) from by first | (exact zuw_rfl) | (exact zuw_rfl) | (exfalso; omega; done) | (exfalso; contradiction; done))

