/-! the reference (written by wip/tools/gen94m.py) -/
set_option maxRecDepth 100000 in
theorem hm_219 : ma_md 219 = some (12, yX12_beginMarking, cX12_beginMarking, 2, none) := rfl
theorem p_12_267_12 : ma_pk 12 267 12 57 = true := by decide +kernel
theorem p_12_270_12 : ma_pk 12 270 12 58 = true := by decide +kernel
theorem v_12_399_12 : ma_vl 12 399 12 = some (1, 220, 0) := by decide +kernel
theorem dX12_beginMarking_0 : decode cX12_beginMarking 0 = .ok (.aload_n 0, 1) := by decide +kernel
theorem dX12_beginMarking_1 : decode cX12_beginMarking 1 = .ok (.iconst 1, 1) := by decide +kernel
theorem dX12_beginMarking_5 : decode cX12_beginMarking 5 = .ok (.iconst 0, 1) := by decide +kernel
theorem dX12_beginMarking_6 : decode cX12_beginMarking 6 = .ok (.istore_n 1, 1) := by decide +kernel
theorem dX12_beginMarking_2 : decode cX12_beginMarking 2 = .ok (.putfield 270, 3) := by decide +kernel
theorem dX12_beginMarking_7 : decode cX12_beginMarking 7 = .ok (.iload_n 1, 1) := by decide +kernel
theorem dX12_beginMarking_8 : decode cX12_beginMarking 8 = .ok (.sipush 3100, 3) := by decide +kernel
theorem dX12_beginMarking_27 : decode cX12_beginMarking 27 = .ok (.aload_n 0, 1) := by decide +kernel
theorem dX12_beginMarking_28 : decode cX12_beginMarking 28 = .ok (.iconst 0, 1) := by decide +kernel
theorem dX12_beginMarking_32 : decode cX12_beginMarking 32 = .ok (.aload_n 0, 1) := by decide +kernel
theorem dX12_beginMarking_33 : decode cX12_beginMarking 33 = .ok (.iconst 0, 1) := by decide +kernel
theorem dX12_beginMarking_37 : decode cX12_beginMarking 37 = .ok (.aload_n 0, 1) := by decide +kernel
theorem dX12_beginMarking_38 : decode cX12_beginMarking 38 = .ok (.invokevirtual 399, 3) := by decide +kernel
theorem dX12_beginMarking_41 : decode cX12_beginMarking 41 = .ok (.return_, 1) := by decide +kernel
theorem dX12_beginMarking_34 : decode cX12_beginMarking 34 = .ok (.putfield 267, 3) := by decide +kernel
theorem dX12_beginMarking_29 : decode cX12_beginMarking 29 = .ok (.putfield 264, 3) := by decide +kernel
theorem dX12_beginMarking_14 : decode cX12_beginMarking 14 = .ok (.aload_n 0, 1) := by decide +kernel
theorem dX12_beginMarking_18 : decode cX12_beginMarking 18 = .ok (.iload_n 1, 1) := by decide +kernel
theorem dX12_beginMarking_19 : decode cX12_beginMarking 19 = .ok (.iconst 0, 1) := by decide +kernel
theorem dX12_beginMarking_21 : decode cX12_beginMarking 21 = .ok (.iinc 1 1, 3) := by decide +kernel
theorem dX12_beginMarking_24 : decode cX12_beginMarking 24 = .ok (.goto (-17), 3) := by decide +kernel
theorem dX12_beginMarking_20 : decode cX12_beginMarking 20 = .ok (.iastore, 1) := by decide +kernel
theorem dX12_beginMarking_15 : decode cX12_beginMarking 15 = .ok (.getfield 49, 3) := by decide +kernel
theorem dX12_beginMarking_11 : decode cX12_beginMarking 11 = .ok (.if_icmp .ge 16, 3) := by decide +kernel
def wr_219 (c k : Nat) : Bool := Nat.beq c 106 || Nat.beq c 115 || (Nat.beq c 94 && (Nat.beq k 56 || Nat.beq k 57 || Nat.beq k 58))
theorem ws_220_219 : ∀ c k, wr_220 c k = true → wr_219 c k = true := by
  intro c k h
  simp only [wr_220, wr_219, Bool.or_eq_true, Bool.and_eq_true, Nat.beq_eq] at h ⊢
  omega
theorem g_219_0 {X : Nat × (Nat → Int32)} {m : Nat → Nat → Int32} {P : Option ma_V → (Nat → Nat → Int32) → Prop}  (h : zm X 2 44 219 7 [(0, .inr (.inr (some 94))), (1, .inl (0 : Int32))] (ma_u m 94 58 (1 : Int32)) P) : zm X 2 44 219 0 [(0, .inr (.inr (some 94)))] m P := by
  intro d w S Q hd hw hS hm HQ
  subst hm
  refine zw_push hm_219 dX12_beginMarking_0 (v := .inr (.inr (some 94))) rfl ?_
  refine zw_push hm_219 dX12_beginMarking_1 (v := .inl (1 : Int32)) rfl ?_
  refine zw_pf hm_219 dX12_beginMarking_2 (zT_is hS s_94) (zT_t hS s_94) p_12_270_12 (zk_bool (by decide)) ?_
  refine zw_push hm_219 dX12_beginMarking_5 (v := .inl (0 : Int32)) rfl ?_
  refine zw_sto hm_219 dX12_beginMarking_6 [(1, .inl (0 : Int32)), (0, .inr (.inr (some 94)))] rfl rfl rfl ?_
  exact zw_sub (ma_nd_of (ks := [0, 1]) rfl (by decide)) (ma_nd_of (ks := [1, 0]) rfl (by decide)) (ma_le_cons rfl (ma_le_cons rfl (ma_le_nil _))) (h d w _ Q (by omega) (by omega) (zT_pi hS) rfl HQ)
theorem g_219_7 {X : Nat × (Nat → Int32)} {m : Nat → Nat → Int32} {P : Option ma_V → (Nat → Nat → Int32) → Prop} (l1 : Int32) (h : if (3100 : Int32) ≤ l1 then (zm X 1 21 220 0 [(0, .inr (.inr (some 94)))] (ma_u (ma_u m 94 56 (0 : Int32)) 94 57 (0 : Int32)) (zmv (fun m1 => P none m1))) else ((0 ≤ l1 ∧ l1.toNatClampNeg < 3100) ∧ (zm X 2 44 219 7 [(0, .inr (.inr (some 94))), (1, .inl (l1 + (1 : Int32)))] (ma_u m 106 l1.toNatClampNeg (0 : Int32)) P))) : zm X 2 44 219 7 [(0, .inr (.inr (some 94))), (1, .inl l1)] m P := by
  intro d w S Q hd hw hS hm HQ
  subst hm
  refine zw_push hm_219 dX12_beginMarking_7 (v := .inl l1) rfl ?_
  refine zw_push hm_219 dX12_beginMarking_8 (v := .inl (3100 : Int32)) rfl ?_
  refine zw_if2 hm_219 dX12_beginMarking_11 (t := 27) rfl zc2_ge ?_ ?_
  · intro hc
    rw [if_pos hc] at h
    refine zw_push hm_219 dX12_beginMarking_27 (v := .inr (.inr (some 94))) rfl ?_
    refine zw_push hm_219 dX12_beginMarking_28 (v := .inl (0 : Int32)) rfl ?_
    refine zw_pf hm_219 dX12_beginMarking_29 (zT_is hS s_94) (zT_t hS s_94) p_12_264_12 zk_int ?_
    refine zw_push hm_219 dX12_beginMarking_32 (v := .inr (.inr (some 94))) rfl ?_
    refine zw_push hm_219 dX12_beginMarking_33 (v := .inl (0 : Int32)) rfl ?_
    refine zw_pf hm_219 dX12_beginMarking_34 (zT_is (zT_pi hS) s_94) (zT_t (zT_pi hS) s_94) p_12_267_12 zk_int ?_
    refine zw_push hm_219 dX12_beginMarking_37 (v := .inr (.inr (some 94))) rfl ?_
    refine zw_cv hm_219 dX12_beginMarking_38 v_12_399_12 hm_220 [] [] rfl (zT_rt (zT_pi (zT_pi hS)) s_94 rfl) ⟨by omega, by omega⟩ rfl (h _ _ (ma_put (ma_put S 94 56 (.inl (0 : Int32))) 94 57 (.inl (0 : Int32))) _ (by omega) (by omega) (zT_pi (zT_pi hS)) rfl (fun o9 m1 hv => ?_))
    obtain ⟨rfl, h⟩ := zmv_of hv
    show ma_wp X d w 219 41 [(0, .inr (.inr (some 94))), (1, .inl l1)] [] (zst S m1) _
    exact zw_vret hm_219 dX12_beginMarking_41 (HQ _ _ h)
  · intro hc
    rw [if_neg hc] at h
    refine zw_push hm_219 dX12_beginMarking_14 (v := .inr (.inr (some 94))) rfl ?_
    refine zw_gf hm_219 dX12_beginMarking_15 (v := .inr (.inr (some 106))) (zT_is hS s_94) (zT_t hS s_94) rfl f_12_49_12 (zT_f hS r_94_38) ?_
    refine zw_push hm_219 dX12_beginMarking_18 (v := .inl l1) rfl ?_
    refine zw_push hm_219 dX12_beginMarking_19 (v := .inl (0 : Int32)) rfl ?_
    obtain ⟨hg, h⟩ := h
    refine zw_ias hm_219 dX12_beginMarking_20 (zT_is hS s_106) (zT_h hS s_106) rfl hg ?_
    refine zw_sto hm_219 dX12_beginMarking_21 [(1, .inl (l1 + (1 : Int32))), (0, .inr (.inr (some 94)))] rfl rfl rfl ?_
    refine zw_goto hm_219 dX12_beginMarking_24 (t := 7) rfl ?_
    exact zw_sub (ma_nd_of (ks := [0, 1]) rfl (by decide)) (ma_nd_of (ks := [1, 0]) rfl (by decide)) (ma_le_cons rfl (ma_le_cons rfl (ma_le_nil _))) (h d w _ Q (by omega) (by omega) (zT_pi hS) rfl HQ)
theorem lp_219_7 {X : Nat × (Nat → Int32)} {P : Option ma_V → (Nat → Nat → Int32) → Prop} {m0 : Nat → Nat → Int32} (h0 : zV m0) (K : ∀ m', zF wr_219 m0 m' → zV m' → (zG1 (m' 94 56) (m' 94 57) (m' 106)) → ((m' 94 58).toInt = 1) → P none m') : ∀ (n : Nat) (m : Nat → Nat → Int32) (l1 : Int32), (3100 - l1.toInt).toNat = n → zF wr_219 m0 m → zV m → (0 ≤ l1.toInt) → ((m 94 58).toInt = 1) → zm X 2 44 219 7 [(0, .inr (.inr (some 94))), (1, .inl l1)] m P := by
  intro n
  induction n using Nat.strongRecOn with
  | _ n IH =>
    intro m l1 hmu hF hV hi0 hi1
    refine g_219_7 l1 ?_
    have f1 : 0 ≤ (m 94 58).toInt ∧ (m 94 58).toInt ≤ 1 := rs_94_58 (m := m) hV
    have li2 : (3100 : Int32).toInt = 3100 := rfl
    have b3 := i_bd l1
    refine zd (fun (h4 : (3100 : Int32) ≤ l1) => ?_) (fun (h4 : ¬ (3100 : Int32) ≤ l1) => ?_)
    · skip
      have g5 := i_le h4
      have li7 : (0 : Int32).toInt = 0 := rfl
      have hV6 : zV (ma_u m 94 56 (0 : Int32)) := us_94_56 hV (by omega) (by omega)
      have hV8 : zV (ma_u (ma_u m 94 56 (0 : Int32)) 94 57 (0 : Int32)) := us_94_57 hV6 (by omega) (by omega)
      refine sp_220  hV8 (show zG1 (0 : Int32) (0 : Int32) (m 106) from by first | (exact G1_0 (by omega) (by omega)) | (exfalso; omega; done) | (exfalso; contradiction; done)) (fun m1 hV_m1 p0_m1 p1_m1 => zmv_n ?_)
      have p0_m1 : zG1 (m1 94 56) (0 : Int32) (m1 106) := p0_m1
      have p1_m1 : (0 : Int32).toInt ≤ (m1 94 56).toInt := p1_m1
      have f9 : 0 ≤ (m1 94 56).toInt ∧ (m1 94 56).toInt ≤ 3100 := rs_94_56 (m := (zov wr_220 (ma_u (ma_u m 94 56 (0 : Int32)) 94 57 (0 : Int32)) m1)) hV_m1
      exact K _ (zF_zov (zF_u (zF_u hF rfl) rfl) ws_220_219) hV_m1 p0_m1 (show (m 94 58).toInt = 1 from by omega)
    · skip
      have g10 := i_nle h4
      have hg11 : (0 ≤ l1 ∧ l1.toNatClampNeg < 3100) := i_ix (by omega) (by omega)
      refine ⟨hg11, ?_⟩
      have hV12 : zV (ma_u m 106 l1.toNatClampNeg (0 : Int32)) := ua_106 hV
      first | have e13 : (l1 + (1 : Int32)).toInt = l1.toInt + (1) := i_addk rfl (by omega) (by omega) | have b14 := i_bd (l1 + (1 : Int32))
      exact IH (3100 - (l1 + (1 : Int32)).toInt).toNat (by omega) _ ((l1 + (1 : Int32))) rfl (zF_u hF rfl) hV12 (by omega) (show (m 94 58).toInt = 1 from by omega)
theorem sp_219 {X : Nat × (Nat → Int32)} {P : Option ma_V → (Nat → Nat → Int32) → Prop} {m : Nat → Nat → Int32}  (hV : zV m)  (KZ : ∀ m', zV (zov wr_219 m m') → (zG1 (m' 94 56) (m' 94 57) (m' 106)) → ((m' 94 58).toInt = 1) → P none (zov wr_219 m m')) : zm X 2 44 219 0 [(0, .inr (.inr (some 94)))] m P := by
  have K : ∀ m', zF wr_219 m m' → zV m' → (zG1 (m' 94 56) (m' 94 57) (m' 106)) → ((m' 94 58).toInt = 1) → P none m' := by
    intro m' hf z q0 q1
    have e := zov_eq hf
    rw [e] at z ⊢
    try rw [e] at q0
    try rw [e] at q1
    exact KZ m' z q0 q1
  refine g_219_0  ?_
  have li2 : (1 : Int32).toInt = 1 := rfl
  have hV1 : zV (ma_u m 94 58 (1 : Int32)) := us_94_58 hV (by omega) (by omega)
  have li3 : (0 : Int32).toInt = 0 := rfl
  exact lp_219_7 hV K _ _ ((0 : Int32)) rfl (zF_u zF_rfl rfl) hV1 (by omega) (show (1 : Int32).toInt = 1 from by omega)
