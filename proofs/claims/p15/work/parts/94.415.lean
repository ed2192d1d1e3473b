/-! the reference (written by wip/tools/gen94m.py) -/
set_option maxRecDepth 100000 in
theorem hm_197 : ma_md 197 = some (12, yX12_toWishes, cX12_toWishes, 2, none) := rfl
theorem s_105 : zs 105 = some (20, 3100) := rfl
theorem r_94_37 : zfi 94 37 = some 105 := rfl
theorem f_12_46_12 : ma_fld 12 46 12 = some 37 := by decide +kernel
theorem f_12_199_12 : ma_fld 12 199 12 = some 10 := by decide +kernel
theorem p_12_261_12 : ma_pk 12 261 12 55 = true := by decide +kernel
theorem v_12_317_12 : ma_vl 12 317 12 = some (1, 198, 1) := by decide +kernel
theorem dX12_toWishes_0 : decode cX12_toWishes 0 = .ok (.aload_n 0, 1) := by decide +kernel
theorem dX12_toWishes_1 : decode cX12_toWishes 1 = .ok (.iload_n 1, 1) := by decide +kernel
theorem dX12_toWishes_2 : decode cX12_toWishes 2 = .ok (.invokevirtual 317, 3) := by decide +kernel
theorem dX12_toWishes_5 : decode cX12_toWishes 5 = .ok (.aload_n 0, 1) := by decide +kernel
theorem dX12_toWishes_9 : decode cX12_toWishes 9 = .ok (.iload_n 1, 1) := by decide +kernel
theorem dX12_toWishes_10 : decode cX12_toWishes 10 = .ok (.iconst 0, 1) := by decide +kernel
theorem dX12_toWishes_12 : decode cX12_toWishes 12 = .ok (.aload_n 0, 1) := by decide +kernel
theorem dX12_toWishes_16 : decode cX12_toWishes 16 = .ok (.aload_n 0, 1) := by decide +kernel
theorem dX12_toWishes_20 : decode cX12_toWishes 20 = .ok (.iload_n 1, 1) := by decide +kernel
theorem dX12_toWishes_22 : decode cX12_toWishes 22 = .ok (.aload_n 0, 1) := by decide +kernel
theorem dX12_toWishes_23 : decode cX12_toWishes 23 = .ok (.dup, 1) := by decide +kernel
theorem dX12_toWishes_27 : decode cX12_toWishes 27 = .ok (.iconst 1, 1) := by decide +kernel
theorem dX12_toWishes_28 : decode cX12_toWishes 28 = .ok (.iadd, 1) := by decide +kernel
theorem dX12_toWishes_32 : decode cX12_toWishes 32 = .ok (.aload_n 0, 1) := by decide +kernel
theorem dX12_toWishes_36 : decode cX12_toWishes 36 = .ok (.iconst 4, 1) := by decide +kernel
theorem dX12_toWishes_50 : decode cX12_toWishes 50 = .ok (.return_, 1) := by decide +kernel
theorem dX12_toWishes_40 : decode cX12_toWishes 40 = .ok (.aload_n 0, 1) := by decide +kernel
theorem dX12_toWishes_44 : decode cX12_toWishes 44 = .ok (.iload_n 1, 1) := by decide +kernel
theorem dX12_toWishes_45 : decode cX12_toWishes 45 = .ok (.dup2, 1) := by decide +kernel
theorem dX12_toWishes_47 : decode cX12_toWishes 47 = .ok (.iconst 1, 1) := by decide +kernel
theorem dX12_toWishes_48 : decode cX12_toWishes 48 = .ok (.iadd, 1) := by decide +kernel
theorem dX12_toWishes_49 : decode cX12_toWishes 49 = .ok (.iastore, 1) := by decide +kernel
theorem dX12_toWishes_46 : decode cX12_toWishes 46 = .ok (.iaload, 1) := by decide +kernel
theorem dX12_toWishes_41 : decode cX12_toWishes 41 = .ok (.getfield 46, 3) := by decide +kernel
theorem dX12_toWishes_37 : decode cX12_toWishes 37 = .ok (.if_icmp .ne 13, 3) := by decide +kernel
theorem dX12_toWishes_33 : decode cX12_toWishes 33 = .ok (.getfield 199, 3) := by decide +kernel
theorem dX12_toWishes_29 : decode cX12_toWishes 29 = .ok (.putfield 261, 3) := by decide +kernel
theorem dX12_toWishes_24 : decode cX12_toWishes 24 = .ok (.getfield 261, 3) := by decide +kernel
theorem dX12_toWishes_21 : decode cX12_toWishes 21 = .ok (.iastore, 1) := by decide +kernel
theorem dX12_toWishes_17 : decode cX12_toWishes 17 = .ok (.getfield 261, 3) := by decide +kernel
theorem dX12_toWishes_13 : decode cX12_toWishes 13 = .ok (.getfield 74, 3) := by decide +kernel
theorem dX12_toWishes_11 : decode cX12_toWishes 11 = .ok (.bastore, 1) := by decide +kernel
theorem dX12_toWishes_6 : decode cX12_toWishes 6 = .ok (.getfield 59, 3) := by decide +kernel
def wr_197 (c k : Nat) : Bool := Nat.beq c 105 || Nat.beq c 109 || Nat.beq c 113 || Nat.beq c 114 || (Nat.beq c 94 && (Nat.beq k 55))
theorem ws_198_197 : ∀ c k, wr_198 c k = true → wr_197 c k = true := by
  intro c k h
  simp only [wr_198, wr_197, Bool.or_eq_true, Bool.and_eq_true, Nat.beq_eq] at h ⊢
  omega
theorem g_197_0 {X : Nat × (Nat → Int32)} {m : Nat → Nat → Int32} {P : Option ma_V → (Nat → Nat → Int32) → Prop} (s : Int32) (h : zm X 0 0 198 0 [(0, .inr (.inr (some 94))), (1, .inl s)] m (zmv (fun m1 => (0 ≤ s ∧ s.toNatClampNeg < 3100) ∧ ((0 ≤ (m1 94 55) ∧ (m1 94 55).toNatClampNeg < 3100) ∧ (if (m1 94 10) = (4 : Int32) then ((0 ≤ s ∧ s.toNatClampNeg < 3100) ∧ ((0 ≤ s ∧ s.toNatClampNeg < 3100) ∧ (P none (ma_u (ma_u (ma_u (ma_u m1 109 s.toNatClampNeg (0 : Int32)) 114 (m1 94 55).toNatClampNeg s) 94 55 ((m1 94 55) + (1 : Int32))) 105 s.toNatClampNeg ((m1 105 s.toNatClampNeg) + (1 : Int32)))))) else (P none (ma_u (ma_u (ma_u m1 109 s.toNatClampNeg (0 : Int32)) 114 (m1 94 55).toNatClampNeg s) 94 55 ((m1 94 55) + (1 : Int32))))))))) : zm X 1 22 197 0 [(0, .inr (.inr (some 94))), (1, .inl s)] m P := by
  intro d w S Q hd hw hS hm HQ
  subst hm
  refine zw_push hm_197 dX12_toWishes_0 (v := .inr (.inr (some 94))) rfl ?_
  refine zw_push hm_197 dX12_toWishes_1 (v := .inl s) rfl ?_
  refine zw_cv hm_197 dX12_toWishes_2 v_12_317_12 hm_198 [.inl s] [] rfl (zT_rt hS s_94 rfl) ⟨by omega, by omega⟩ rfl (h _ _ S _ (by omega) (by omega) hS rfl (fun o9 m1 hv => ?_))
  obtain ⟨rfl, h⟩ := zmv_of hv
  show ma_wp X d w 197 5 [(0, .inr (.inr (some 94))), (1, .inl s)] [] (zst S m1) _
  refine zw_push hm_197 dX12_toWishes_5 (v := .inr (.inr (some 94))) rfl ?_
  refine zw_gf hm_197 dX12_toWishes_6 (v := .inr (.inr (some 109))) (zT_is (zT_zst hS m1) s_94) (zT_t (zT_zst hS m1) s_94) rfl f_12_59_12 (zT_f (zT_zst hS m1) r_94_41) ?_
  refine zw_push hm_197 dX12_toWishes_9 (v := .inl s) rfl ?_
  refine zw_push hm_197 dX12_toWishes_10 (v := .inl (0 : Int32)) rfl ?_
  obtain ⟨hg, h⟩ := h
  refine zw_bas22l hm_197 dX12_toWishes_11 (hx := by decide) (yv := (0 : Int32)) (zT_is (zT_zst hS m1) s_109) (zT_h (zT_zst hS m1) s_109) rfl hg ?_
  refine zw_push hm_197 dX12_toWishes_12 (v := .inr (.inr (some 94))) rfl ?_
  refine zw_gf hm_197 dX12_toWishes_13 (v := .inr (.inr (some 114))) (zT_is (zT_pi (zT_zst hS m1)) s_94) (zT_t (zT_pi (zT_zst hS m1)) s_94) rfl f_12_74_12 (zT_f (zT_pi (zT_zst hS m1)) r_94_53) ?_
  refine zw_push hm_197 dX12_toWishes_16 (v := .inr (.inr (some 94))) rfl ?_
  refine zw_gf hm_197 dX12_toWishes_17 (v := .inl (m1 94 55)) (zT_is (zT_pi (zT_zst hS m1)) s_94) (zT_t (zT_pi (zT_zst hS m1)) s_94) rfl f_12_261_12 rfl ?_
  refine zw_push hm_197 dX12_toWishes_20 (v := .inl s) rfl ?_
  obtain ⟨hg, h⟩ := h
  refine zw_ias hm_197 dX12_toWishes_21 (zT_is (zT_pi (zT_zst hS m1)) s_114) (zT_h (zT_pi (zT_zst hS m1)) s_114) rfl hg ?_
  refine zw_push hm_197 dX12_toWishes_22 (v := .inr (.inr (some 94))) rfl ?_
  refine zw_stk hm_197 dX12_toWishes_23 (st' := [.inr (.inr (some 94)), .inr (.inr (some 94))]) rfl rfl ?_
  refine zw_gf hm_197 dX12_toWishes_24 (v := .inl (m1 94 55)) (zT_is (zT_pi (zT_pi (zT_zst hS m1))) s_94) (zT_t (zT_pi (zT_pi (zT_zst hS m1))) s_94) rfl f_12_261_12 rfl ?_
  refine zw_push hm_197 dX12_toWishes_27 (v := .inl (1 : Int32)) rfl ?_
  refine zw_stk hm_197 dX12_toWishes_28 (st' := [.inl ((m1 94 55) + (1 : Int32)), .inr (.inr (some 94))]) rfl rfl ?_
  refine zw_pf hm_197 dX12_toWishes_29 (zT_is (zT_pi (zT_pi (zT_zst hS m1))) s_94) (zT_t (zT_pi (zT_pi (zT_zst hS m1))) s_94) p_12_261_12 zk_int ?_
  refine zw_push hm_197 dX12_toWishes_32 (v := .inr (.inr (some 94))) rfl ?_
  refine zw_gf hm_197 dX12_toWishes_33 (v := .inl (m1 94 10)) (zT_is (zT_pi (zT_pi (zT_pi (zT_zst hS m1)))) s_94) (zT_t (zT_pi (zT_pi (zT_pi (zT_zst hS m1)))) s_94) rfl f_12_199_12 rfl ?_
  refine zw_push hm_197 dX12_toWishes_36 (v := .inl (4 : Int32)) rfl ?_
  refine zw_if2 hm_197 dX12_toWishes_37 (t := 50) rfl zc2_ne ?_ ?_
  · intro hc
    rw [if_neg hc] at h
    exact zw_vret hm_197 dX12_toWishes_50 (HQ _ _ h)
  · intro hc
    rw [if_pos (Classical.not_not.mp hc)] at h
    refine zw_push hm_197 dX12_toWishes_40 (v := .inr (.inr (some 94))) rfl ?_
    refine zw_gf hm_197 dX12_toWishes_41 (v := .inr (.inr (some 105))) (zT_is (zT_pi (zT_pi (zT_pi (zT_zst hS m1)))) s_94) (zT_t (zT_pi (zT_pi (zT_pi (zT_zst hS m1)))) s_94) rfl f_12_46_12 (zT_f (zT_pi (zT_pi (zT_pi (zT_zst hS m1)))) r_94_37) ?_
    refine zw_push hm_197 dX12_toWishes_44 (v := .inl s) rfl ?_
    refine zw_stk hm_197 dX12_toWishes_45 (st' := [.inl s, .inr (.inr (some 105)), .inl s, .inr (.inr (some 105))]) rfl rfl ?_
    obtain ⟨hg, h⟩ := h
    refine zw_ia hm_197 dX12_toWishes_46 (zT_is (zT_pi (zT_pi (zT_pi (zT_zst hS m1)))) s_105) (zT_h (zT_pi (zT_pi (zT_pi (zT_zst hS m1)))) s_105) rfl hg ?_
    show ma_wp X d w 197 47 [(0, .inr (.inr (some 94))), (1, .inl s)] [.inl (m1 105 s.toNatClampNeg), .inl s, .inr (.inr (some 105))] (ma_put (ma_put (ma_put (zst S m1) 109 s.toNatClampNeg (.inl (0 : Int32))) 114 (m1 94 55).toNatClampNeg (.inl s)) 94 55 (.inl ((m1 94 55) + (1 : Int32)))) _
    refine zw_push hm_197 dX12_toWishes_47 (v := .inl (1 : Int32)) rfl ?_
    refine zw_stk hm_197 dX12_toWishes_48 (st' := [.inl ((m1 105 s.toNatClampNeg) + (1 : Int32)), .inl s, .inr (.inr (some 105))]) rfl rfl ?_
    obtain ⟨hg, h⟩ := h
    refine zw_ias hm_197 dX12_toWishes_49 (zT_is (zT_pi (zT_pi (zT_pi (zT_zst hS m1)))) s_105) (zT_h (zT_pi (zT_pi (zT_pi (zT_zst hS m1)))) s_105) rfl hg ?_
    exact zw_vret hm_197 dX12_toWishes_50 (HQ _ _ h)
theorem sp_197 {X : Nat × (Nat → Int32)} {P : Option ma_V → (Nat → Nat → Int32) → Prop} {T : Nat} {m : Nat → Nat → Int32} (s : Int32) (hV : zV m) (hpre0 : 0 ≤ s.toInt) (hpre1 : s.toInt ≤ 3099) (r_WI : (m 109) s.toNatClampNeg ≠ 0) (r_GW : zGW T (m 94 55) (m 109)) (KZ : ∀ m', zV (zov wr_197 m m') → (zGW T (m' 94 55) (m' 109)) → (zuw (m 113) (m' 113)) → (zwx (m 114) (m' 114) (m 94 55) s) → ((m' 94 55).toInt = (m 94 55).toInt + 1) → P none (zov wr_197 m m')) : zm X 1 22 197 0 [(0, .inr (.inr (some 94))), (1, .inl s)] m P := by
  have K : ∀ m', zF wr_197 m m' → zV m' → (zGW T (m' 94 55) (m' 109)) → (zuw (m 113) (m' 113)) → (zwx (m 114) (m' 114) (m 94 55) s) → ((m' 94 55).toInt = (m 94 55).toInt + 1) → P none m' := by
    intro m' hf z q0 q1 q2 q3
    have e := zov_eq hf
    rw [e] at z ⊢
    try rw [e] at q0
    try rw [e] at q1
    try rw [e] at q2
    try rw [e] at q3
    exact KZ m' z q0 q1 q2 q3
  refine g_197_0 s ?_
  have b1 := i_bd s
  refine sp_198 (s) hV  (fun m1 hV_m1 p0_m1 => zmv_n ?_)
  have p0_m1 : zuw (m 113) (m1 113) := p0_m1
  try have gw := GW_room r_GW
  have hg2 : (0 ≤ s ∧ s.toNatClampNeg < 3100) := i_ix (by omega) (by omega)
  refine ⟨hg2, ?_⟩
  have f3 : 0 ≤ (m 94 55).toInt ∧ (m 94 55).toInt ≤ 3100 := rs_94_55 (m := m) hV
  try have gw := GW_room r_GW
  have hg4 : (0 ≤ (m 94 55) ∧ (m 94 55).toNatClampNeg < 3100) := i_ix (by omega) (by omega)
  refine ⟨hg4, ?_⟩
  have f5 : 0 ≤ (m 94 10).toInt ∧ (m 94 10).toInt ≤ 6 := rs_94_10 (m := m) hV
  have li6 : (4 : Int32).toInt = 4 := rfl
  refine zd (fun (h7 : (m 94 10) = (4 : Int32)) => ?_) (fun (h7 : ¬ (m 94 10) = (4 : Int32)) => ?_)
  · skip
    have g8 := i_eq h7
    have hg9 : (0 ≤ s ∧ s.toNatClampNeg < 3100) := i_ix (by omega) (by omega)
    refine ⟨hg9, ?_⟩
    have hg10 : (0 ≤ s ∧ s.toNatClampNeg < 3100) := i_ix (by omega) (by omega)
    refine ⟨hg10, ?_⟩
    have li12 : (0 : Int32).toInt = 0 := rfl
    have hV11 : zV (ma_u (zov wr_198 m m1) 109 s.toNatClampNeg (0 : Int32)) := ua_109 hV_m1 (by omega) (by omega)
    have hV13 : zV (ma_u (ma_u (zov wr_198 m m1) 109 s.toNatClampNeg (0 : Int32)) 114 (m 94 55).toNatClampNeg s) := ua_114 hV11 (by omega) (by omega)
    first | have e15 : ((m 94 55) + (1 : Int32)).toInt = (m 94 55).toInt + (1) := i_addk rfl (by omega) (by omega) | have b16 := i_bd ((m 94 55) + (1 : Int32))
    have hV14 : zV (ma_u (ma_u (ma_u (zov wr_198 m m1) 109 s.toNatClampNeg (0 : Int32)) 114 (m 94 55).toNatClampNeg s) 94 55 ((m 94 55) + (1 : Int32))) := us_94_55 hV13 (by omega) (by omega)
    have hV17 : zV (ma_u (ma_u (ma_u (ma_u (zov wr_198 m m1) 109 s.toNatClampNeg (0 : Int32)) 114 (m 94 55).toNatClampNeg s) 94 55 ((m 94 55) + (1 : Int32))) 105 s.toNatClampNeg ((m 105 s.toNatClampNeg) + (1 : Int32))) := ua_105 hV14
    exact K _ (zF_u (zF_u (zF_u (zF_u (zF_zov zF_rfl ws_198_197) rfl) rfl) rfl) rfl) hV17 (show zGW T ((m 94 55) + (1 : Int32)) ((ma_u m 109 s.toNatClampNeg (0 : Int32)) 109) from by first | (exact GW_take r_GW r_WI (by omega) (by omega)) | (exfalso; omega; done) | (exfalso; contradiction; done)) p0_m1 (show zwx (m 114) ((ma_u m 114 (m 94 55).toNatClampNeg s) 114) (m 94 55) s from by first | (exact ⟨fun k hk => mu_ne (by rw [tn_eq]; omega), mu_self⟩) | (exfalso; omega; done) | (exfalso; contradiction; done)) (show ((m 94 55) + (1 : Int32)).toInt = (m 94 55).toInt + 1 from by omega)
  · skip
    have g18 := i_ne h7
    have li20 : (0 : Int32).toInt = 0 := rfl
    have hV19 : zV (ma_u (zov wr_198 m m1) 109 s.toNatClampNeg (0 : Int32)) := ua_109 hV_m1 (by omega) (by omega)
    have hV21 : zV (ma_u (ma_u (zov wr_198 m m1) 109 s.toNatClampNeg (0 : Int32)) 114 (m 94 55).toNatClampNeg s) := ua_114 hV19 (by omega) (by omega)
    first | have e23 : ((m 94 55) + (1 : Int32)).toInt = (m 94 55).toInt + (1) := i_addk rfl (by omega) (by omega) | have b24 := i_bd ((m 94 55) + (1 : Int32))
    have hV22 : zV (ma_u (ma_u (ma_u (zov wr_198 m m1) 109 s.toNatClampNeg (0 : Int32)) 114 (m 94 55).toNatClampNeg s) 94 55 ((m 94 55) + (1 : Int32))) := us_94_55 hV21 (by omega) (by omega)
    exact K _ (zF_u (zF_u (zF_u (zF_zov zF_rfl ws_198_197) rfl) rfl) rfl) hV22 (show zGW T ((m 94 55) + (1 : Int32)) ((ma_u m 109 s.toNatClampNeg (0 : Int32)) 109) from by first | (exact GW_take r_GW r_WI (by omega) (by omega)) | (exfalso; omega; done) | (exfalso; contradiction; done)) p0_m1 (show zwx (m 114) ((ma_u m 114 (m 94 55).toNatClampNeg s) 114) (m 94 55) s from by first | (exact ⟨fun k hk => mu_ne (by rw [tn_eq]; omega), mu_self⟩) | (exfalso; omega; done) | (exfalso; contradiction; done)) (show ((m 94 55) + (1 : Int32)).toInt = (m 94 55).toInt + 1 from by omega)
