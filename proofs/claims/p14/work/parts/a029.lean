/-! from 94.422 -/
/-! the reference (written by wip/tools/gen94m.py) -/
set_option maxRecDepth 100000 in
theorem hm_219 : ma_md 219 = some (12, yX12_beginMarking, cX12_beginMarking, 2, none) := rfl
theorem p_12_267_12 : ma_pk 12 267 12 57 = true := by decide +kernel
theorem p_12_270_12 : ma_pk 12 270 12 58 = true := by decide +kernel
theorem v_12_399_12 : ma_vl 12 399 12 = some (1, 220, 0) := by decide +kernel
theorem dX12_beginMarking_0 : decode cX12_beginMarking 0 = .ok (.aload_n 0, 1) := by decide +kernel
theorem dX12_beginMarking_1 : decode cX12_beginMarking 1 = .ok (.iconst 1, 1) := by decide +kernel
theorem dX12_beginMarking_5 : decode cX12_beginMarking 5 = .ok (.iconst 0, 1) := by decide +kernel
theorem dX12_beginMarking_6 : decode cX12_beginMarking 6 = .ok (.istore_n 1, 1) := by decide +kernel
theorem dX12_beginMarking_2 : decode cX12_beginMarking 2 = .ok (.putfield 270, 3) := by decide +kernel
theorem dX12_beginMarking_7 : decode cX12_beginMarking 7 = .ok (.iload_n 1, 1) := by decide +kernel
theorem dX12_beginMarking_8 : decode cX12_beginMarking 8 = .ok (.sipush 3100, 3) := by decide +kernel
theorem dX12_beginMarking_27 : decode cX12_beginMarking 27 = .ok (.aload_n 0, 1) := by decide +kernel
theorem dX12_beginMarking_28 : decode cX12_beginMarking 28 = .ok (.iconst 0, 1) := by decide +kernel
theorem dX12_beginMarking_32 : decode cX12_beginMarking 32 = .ok (.aload_n 0, 1) := by decide +kernel
theorem dX12_beginMarking_33 : decode cX12_beginMarking 33 = .ok (.iconst 0, 1) := by decide +kernel
theorem dX12_beginMarking_37 : decode cX12_beginMarking 37 = .ok (.aload_n 0, 1) := by decide +kernel
theorem dX12_beginMarking_38 : decode cX12_beginMarking 38 = .ok (.invokevirtual 399, 3) := by decide +kernel
theorem dX12_beginMarking_41 : decode cX12_beginMarking 41 = .ok (.return_, 1) := by decide +kernel
theorem dX12_beginMarking_34 : decode cX12_beginMarking 34 = .ok (.putfield 267, 3) := by decide +kernel
theorem dX12_beginMarking_29 : decode cX12_beginMarking 29 = .ok (.putfield 264, 3) := by decide +kernel
theorem dX12_beginMarking_14 : decode cX12_beginMarking 14 = .ok (.aload_n 0, 1) := by decide +kernel
theorem dX12_beginMarking_18 : decode cX12_beginMarking 18 = .ok (.iload_n 1, 1) := by decide +kernel
theorem dX12_beginMarking_19 : decode cX12_beginMarking 19 = .ok (.iconst 0, 1) := by decide +kernel
theorem dX12_beginMarking_21 : decode cX12_beginMarking 21 = .ok (.iinc 1 1, 3) := by decide +kernel
theorem dX12_beginMarking_24 : decode cX12_beginMarking 24 = .ok (.goto (-17), 3) := by decide +kernel
theorem dX12_beginMarking_20 : decode cX12_beginMarking 20 = .ok (.iastore, 1) := by decide +kernel
theorem dX12_beginMarking_15 : decode cX12_beginMarking 15 = .ok (.getfield 49, 3) := by decide +kernel
theorem dX12_beginMarking_11 : decode cX12_beginMarking 11 = .ok (.if_icmp .ge 16, 3) := by decide +kernel
def wr_219 (c k : Nat) : Bool := Nat.beq c 106 || Nat.beq c 115 || (Nat.beq c 94 && (Nat.beq k 56 || Nat.beq k 57 || Nat.beq k 58))
theorem ws_220_219 : ∀ c k, wr_220 c k = true → wr_219 c k = true := by
  intro c k h
  simp only [wr_220, wr_219, Bool.or_eq_true, Bool.and_eq_true, Nat.beq_eq] at h ⊢
  omega
theorem g_219_0 {X : Nat × (Nat → Int32)} {m : Nat → Nat → Int32} {P : Option ma_V → (Nat → Nat → Int32) → Prop}  (h : zm X 2 44 219 7 [(0, .inr (.inr (some 94))), (1, .inl (0 : Int32))] (ma_u m 94 58 (1 : Int32)) P) : zm X 2 44 219 0 [(0, .inr (.inr (some 94)))] m P := by
  intro d w S Q hd hw hS hm HQ
  subst hm
  refine zw_push hm_219 dX12_beginMarking_0 (v := .inr (.inr (some 94))) rfl ?_
  refine zw_push hm_219 dX12_beginMarking_1 (v := .inl (1 : Int32)) rfl ?_
  refine zw_pf hm_219 dX12_beginMarking_2 (zT_is hS s_94) (zT_t hS s_94) p_12_270_12 (zk_bool (by decide)) ?_
  refine zw_push hm_219 dX12_beginMarking_5 (v := .inl (0 : Int32)) rfl ?_
  refine zw_sto hm_219 dX12_beginMarking_6 [(1, .inl (0 : Int32)), (0, .inr (.inr (some 94)))] rfl rfl rfl ?_
  exact zw_sub (ma_nd_of (ks := [0, 1]) rfl (by decide)) (ma_nd_of (ks := [1, 0]) rfl (by decide)) (ma_le_cons rfl (ma_le_cons rfl (ma_le_nil _))) (h d w _ Q (by omega) (by omega) (zT_pi hS) rfl HQ)
theorem g_219_7 {X : Nat × (Nat → Int32)} {m : Nat → Nat → Int32} {P : Option ma_V → (Nat → Nat → Int32) → Prop} (l1 : Int32) (h : if (3100 : Int32) ≤ l1 then (zm X 1 21 220 0 [(0, .inr (.inr (some 94)))] (ma_u (ma_u m 94 56 (0 : Int32)) 94 57 (0 : Int32)) (zmv (fun m1 => P none m1))) else ((0 ≤ l1 ∧ l1.toNatClampNeg < 3100) ∧ (zm X 2 44 219 7 [(0, .inr (.inr (some 94))), (1, .inl (l1 + (1 : Int32)))] (ma_u m 106 l1.toNatClampNeg (0 : Int32)) P))) : zm X 2 44 219 7 [(0, .inr (.inr (some 94))), (1, .inl l1)] m P := by
  intro d w S Q hd hw hS hm HQ
  subst hm
  refine zw_push hm_219 dX12_beginMarking_7 (v := .inl l1) rfl ?_
  refine zw_push hm_219 dX12_beginMarking_8 (v := .inl (3100 : Int32)) rfl ?_
  refine zw_if2 hm_219 dX12_beginMarking_11 (t := 27) rfl zc2_ge ?_ ?_
  · intro hc
    rw [if_pos hc] at h
    refine zw_push hm_219 dX12_beginMarking_27 (v := .inr (.inr (some 94))) rfl ?_
    refine zw_push hm_219 dX12_beginMarking_28 (v := .inl (0 : Int32)) rfl ?_
    refine zw_pf hm_219 dX12_beginMarking_29 (zT_is hS s_94) (zT_t hS s_94) p_12_264_12 zk_int ?_
    refine zw_push hm_219 dX12_beginMarking_32 (v := .inr (.inr (some 94))) rfl ?_
    refine zw_push hm_219 dX12_beginMarking_33 (v := .inl (0 : Int32)) rfl ?_
    refine zw_pf hm_219 dX12_beginMarking_34 (zT_is (zT_pi hS) s_94) (zT_t (zT_pi hS) s_94) p_12_267_12 zk_int ?_
    refine zw_push hm_219 dX12_beginMarking_37 (v := .inr (.inr (some 94))) rfl ?_
    refine zw_cv hm_219 dX12_beginMarking_38 v_12_399_12 hm_220 [] [] rfl (zT_rt (zT_pi (zT_pi hS)) s_94 rfl) ⟨by omega, by omega⟩ rfl (h _ _ (ma_put (ma_put S 94 56 (.inl (0 : Int32))) 94 57 (.inl (0 : Int32))) _ (by omega) (by omega) (zT_pi (zT_pi hS)) rfl (fun o9 m1 hv => ?_))
    obtain ⟨rfl, h⟩ := zmv_of hv
    show ma_wp X d w 219 41 [(0, .inr (.inr (some 94))), (1, .inl l1)] [] (zst S m1) _
    exact zw_vret hm_219 dX12_beginMarking_41 (HQ _ _ h)
  · intro hc
    rw [if_neg hc] at h
    refine zw_push hm_219 dX12_beginMarking_14 (v := .inr (.inr (some 94))) rfl ?_
    refine zw_gf hm_219 dX12_beginMarking_15 (v := .inr (.inr (some 106))) (zT_is hS s_94) (zT_t hS s_94) rfl f_12_49_12 (zT_f hS r_94_38) ?_
    refine zw_push hm_219 dX12_beginMarking_18 (v := .inl l1) rfl ?_
    refine zw_push hm_219 dX12_beginMarking_19 (v := .inl (0 : Int32)) rfl ?_
    obtain ⟨hg, h⟩ := h
    refine zw_ias hm_219 dX12_beginMarking_20 (zT_is hS s_106) (zT_h hS s_106) rfl hg ?_
    refine zw_sto hm_219 dX12_beginMarking_21 [(1, .inl (l1 + (1 : Int32))), (0, .inr (.inr (some 94)))] rfl rfl rfl ?_
    refine zw_goto hm_219 dX12_beginMarking_24 (t := 7) rfl ?_
    exact zw_sub (ma_nd_of (ks := [0, 1]) rfl (by decide)) (ma_nd_of (ks := [1, 0]) rfl (by decide)) (ma_le_cons rfl (ma_le_cons rfl (ma_le_nil _))) (h d w _ Q (by omega) (by omega) (zT_pi hS) rfl HQ)
theorem lp_219_7 {X : Nat × (Nat → Int32)} {P : Option ma_V → (Nat → Nat → Int32) → Prop} {m0 : Nat → Nat → Int32} (h0 : zV m0) (K : ∀ m₉, zF wr_219 m0 m₉ → zV m₉ → (zG1 (m₉ 94 56) (m₉ 94 57) (m₉ 106)) → ((m₉ 94 58).toInt = 1) → P none m₉) : ∀ (n : Nat) (m : Nat → Nat → Int32) (l1 : Int32), (3100 - l1.toInt).toNat = n → zF wr_219 m0 m → zV m → (0 ≤ l1.toInt) → ((m 94 58).toInt = 1) → zm X 2 44 219 7 [(0, .inr (.inr (some 94))), (1, .inl l1)] m P := by
  intro n
  induction n using Nat.strongRecOn with
  | _ n IH =>
    intro m l1 hmu hF hV hi0 hi1
    refine g_219_7 l1 ?_
    have f1 : 0 ≤ (m 94 58).toInt ∧ (m 94 58).toInt ≤ 1 := rs_94_58 (m := m) hV
    have li2 : (3100 : Int32).toInt = 3100 := rfl
    have b3 := i_bd l1
    refine zd (fun (h4 : (3100 : Int32) ≤ l1) => ?_) (fun (h4 : ¬ (3100 : Int32) ≤ l1) => ?_)
    · skip
      have g5 := i_le h4
      have li7 : (0 : Int32).toInt = 0 := rfl
      have hV6 : zV (ma_u m 94 56 (0 : Int32)) := us_94_56 hV (by omega) (by omega)
      have hV8 : zV (ma_u (ma_u m 94 56 (0 : Int32)) 94 57 (0 : Int32)) := us_94_57 hV6 (by omega) (by omega)
      refine sp_220  hV8 (show zG1 (0 : Int32) (0 : Int32) (m 106) from by first | (exact G1_0 (by omega) (by omega)) | (exfalso; omega; done) | (exfalso; contradiction; done)) (fun m1 hV_m1 p0_m1 p1_m1 => zmv_n ?_)
      have p0_m1 : zG1 (m1 94 56) (0 : Int32) (m1 106) := p0_m1
      have p1_m1 : (0 : Int32).toInt ≤ (m1 94 56).toInt := p1_m1
      have f9 : 0 ≤ (m1 94 56).toInt ∧ (m1 94 56).toInt ≤ 3100 := rs_94_56 (m := (zov wr_220 (ma_u (ma_u m 94 56 (0 : Int32)) 94 57 (0 : Int32)) m1)) hV_m1
      exact K _ (zF_zov (zF_u (zF_u hF rfl) rfl) ws_220_219) hV_m1 p0_m1 (show (m 94 58).toInt = 1 from by omega)
    · skip
      have g10 := i_nle h4
      have hg11 : (0 ≤ l1 ∧ l1.toNatClampNeg < 3100) := i_ix (by omega) (by omega)
      refine ⟨hg11, ?_⟩
      have hV12 : zV (ma_u m 106 l1.toNatClampNeg (0 : Int32)) := ua_106 hV
      first | have e13 : (l1 + (1 : Int32)).toInt = l1.toInt + (1) := i_addk rfl (by omega) (by omega) | have b14 := i_bd (l1 + (1 : Int32))
      exact IH (3100 - (l1 + (1 : Int32)).toInt).toNat (by omega) _ ((l1 + (1 : Int32))) rfl (zF_u hF rfl) hV12 (by omega) (show (m 94 58).toInt = 1 from by omega)
theorem sp_219 {X : Nat × (Nat → Int32)} {P : Option ma_V → (Nat → Nat → Int32) → Prop} {m : Nat → Nat → Int32}  (hV : zV m)  (KZ : ∀ m₉, zV (zov wr_219 m m₉) → (zG1 (m₉ 94 56) (m₉ 94 57) (m₉ 106)) → ((m₉ 94 58).toInt = 1) → P none (zov wr_219 m m₉)) : zm X 2 44 219 0 [(0, .inr (.inr (some 94)))] m P := by
  have K : ∀ m₉, zF wr_219 m m₉ → zV m₉ → (zG1 (m₉ 94 56) (m₉ 94 57) (m₉ 106)) → ((m₉ 94 58).toInt = 1) → P none m₉ := by
    intro m₉ hf z q0 q1
    have e := zov_eq hf
    rw [e] at z ⊢
    try rw [e] at q0
    try rw [e] at q1
    exact KZ m₉ z q0 q1
  refine g_219_0  ?_
  have li2 : (1 : Int32).toInt = 1 := rfl
  have hV1 : zV (ma_u m 94 58 (1 : Int32)) := us_94_58 hV (by omega) (by omega)
  have li3 : (0 : Int32).toInt = 0 := rfl
  exact lp_219_7 hV K _ _ ((0 : Int32)) rfl (zF_u zF_rfl rfl) hV1 (by omega) (show (1 : Int32).toInt = 1 from by omega)

/-! from 94.423 -/
/-! the reference (written by wip/tools/gen94m.py) -/
set_option maxRecDepth 100000 in
theorem hm_222 : ma_md 222 = some (12, yX12_steps, cX12_steps, 5, (some (FieldType.int))) := rfl
theorem f_12_267_12 : ma_fld 12 267 12 = some 57 := by decide +kernel
theorem dX12_steps_0 : decode cX12_steps 0 = .ok (.iconst 0, 1) := by decide +kernel
theorem dX12_steps_1 : decode cX12_steps 1 = .ok (.istore_n 2, 1) := by decide +kernel
theorem dX12_steps_2 : decode cX12_steps 2 = .ok (.iload_n 2, 1) := by decide +kernel
theorem dX12_steps_3 : decode cX12_steps 3 = .ok (.iload_n 1, 1) := by decide +kernel
theorem dX12_steps_82 : decode cX12_steps 82 = .ok (.iload_n 2, 1) := by decide +kernel
theorem dX12_steps_83 : decode cX12_steps 83 = .ok (.ireturn, 1) := by decide +kernel
theorem dX12_steps_7 : decode cX12_steps 7 = .ok (.aload_n 0, 1) := by decide +kernel
theorem dX12_steps_11 : decode cX12_steps 11 = .ok (.aload_n 0, 1) := by decide +kernel
theorem dX12_steps_18 : decode cX12_steps 18 = .ok (.aload_n 0, 1) := by decide +kernel
theorem dX12_steps_22 : decode cX12_steps 22 = .ok (.aload_n 0, 1) := by decide +kernel
theorem dX12_steps_27 : decode cX12_steps 27 = .ok (.istore_n 3, 1) := by decide +kernel
theorem dX12_steps_28 : decode cX12_steps 28 = .ok (.aload_n 0, 1) := by decide +kernel
theorem dX12_steps_29 : decode cX12_steps 29 = .ok (.dup, 1) := by decide +kernel
theorem dX12_steps_33 : decode cX12_steps 33 = .ok (.iconst 1, 1) := by decide +kernel
theorem dX12_steps_34 : decode cX12_steps 34 = .ok (.iadd, 1) := by decide +kernel
theorem dX12_steps_38 : decode cX12_steps 38 = .ok (.aload_n 0, 1) := by decide +kernel
theorem dX12_steps_42 : decode cX12_steps 42 = .ok (.iload_n 3, 1) := by decide +kernel
theorem dX12_steps_43 : decode cX12_steps 43 = .ok (.iconst 2, 1) := by decide +kernel
theorem dX12_steps_45 : decode cX12_steps 45 = .ok (.iconst 0, 1) := by decide +kernel
theorem dX12_steps_46 : decode cX12_steps 46 = .ok (.istore 4, 2) := by decide +kernel
theorem dX12_steps_44 : decode cX12_steps 44 = .ok (.iastore, 1) := by decide +kernel
theorem dX12_steps_39 : decode cX12_steps 39 = .ok (.getfield 49, 3) := by decide +kernel
theorem dX12_steps_35 : decode cX12_steps 35 = .ok (.putfield 267, 3) := by decide +kernel
theorem dX12_steps_30 : decode cX12_steps 30 = .ok (.getfield 267, 3) := by decide +kernel
theorem dX12_steps_26 : decode cX12_steps 26 = .ok (.iaload, 1) := by decide +kernel
theorem dX12_steps_23 : decode cX12_steps 23 = .ok (.getfield 267, 3) := by decide +kernel
theorem dX12_steps_19 : decode cX12_steps 19 = .ok (.getfield 77, 3) := by decide +kernel
theorem dX12_steps_15 : decode cX12_steps 15 = .ok (.if_icmp .ge 67, 3) := by decide +kernel
theorem dX12_steps_12 : decode cX12_steps 12 = .ok (.getfield 264, 3) := by decide +kernel
theorem dX12_steps_8 : decode cX12_steps 8 = .ok (.getfield 267, 3) := by decide +kernel
theorem dX12_steps_4 : decode cX12_steps 4 = .ok (.if_icmp .ge 78, 3) := by decide +kernel
theorem dX12_steps_48 : decode cX12_steps 48 = .ok (.iload 4, 2) := by decide +kernel
theorem dX12_steps_50 : decode cX12_steps 50 = .ok (.aload_n 0, 1) := by decide +kernel
theorem dX12_steps_54 : decode cX12_steps 54 = .ok (.iload_n 3, 1) := by decide +kernel
theorem dX12_steps_76 : decode cX12_steps 76 = .ok (.iinc 2 1, 3) := by decide +kernel
theorem dX12_steps_79 : decode cX12_steps 79 = .ok (.goto (-77), 3) := by decide +kernel
theorem dX12_steps_59 : decode cX12_steps 59 = .ok (.aload_n 0, 1) := by decide +kernel
theorem dX12_steps_60 : decode cX12_steps 60 = .ok (.aload_n 0, 1) := by decide +kernel
theorem dX12_steps_61 : decode cX12_steps 61 = .ok (.iload_n 3, 1) := by decide +kernel
theorem dX12_steps_62 : decode cX12_steps 62 = .ok (.iload 4, 2) := by decide +kernel
theorem dX12_steps_64 : decode cX12_steps 64 = .ok (.invokevirtual 294, 3) := by decide +kernel
theorem dX12_steps_67 : decode cX12_steps 67 = .ok (.invokevirtual 396, 3) := by decide +kernel
theorem dX12_steps_70 : decode cX12_steps 70 = .ok (.iinc 4 1, 3) := by decide +kernel
theorem dX12_steps_73 : decode cX12_steps 73 = .ok (.goto (-25), 3) := by decide +kernel
theorem dX12_steps_56 : decode cX12_steps 56 = .ok (.if_icmp .ge 20, 3) := by decide +kernel
theorem dX12_steps_55 : decode cX12_steps 55 = .ok (.iaload, 1) := by decide +kernel
theorem dX12_steps_51 : decode cX12_steps 51 = .ok (.getfield 37, 3) := by decide +kernel
def wr_222 (c k : Nat) : Bool := Nat.beq c 106 || Nat.beq c 115 || (Nat.beq c 94 && (Nat.beq k 56 || Nat.beq k 57))
theorem ws_192_222 : ∀ c k, wr_192 c k = true → wr_222 c k = true := fun _ _ h => by cases h
theorem g_222_0 {X : Nat × (Nat → Int32)} {m : Nat → Nat → Int32} {P : Option ma_V → (Nat → Nat → Int32) → Prop} (nn : Int32) (h : zm X 2 44 222 2 [(0, .inr (.inr (some 94))), (1, .inl nn), (2, .inl (0 : Int32))] m P) : zm X 2 44 222 0 [(0, .inr (.inr (some 94))), (1, .inl nn)] m P := by
  intro d w S Q hd hw hS hm HQ
  subst hm
  refine zw_push hm_222 dX12_steps_0 (v := .inl (0 : Int32)) rfl ?_
  refine zw_sto hm_222 dX12_steps_1 [(2, .inl (0 : Int32)), (0, .inr (.inr (some 94))), (1, .inl nn)] rfl rfl rfl ?_
  exact zw_sub (ma_nd_of (ks := [0, 1, 2]) rfl (by decide)) (ma_nd_of (ks := [2, 0, 1]) rfl (by decide)) (ma_le_cons rfl (ma_le_cons rfl (ma_le_cons rfl (ma_le_nil _)))) (h d w _ Q (by omega) (by omega) hS rfl HQ)
theorem g_222_2 {X : Nat × (Nat → Int32)} {m : Nat → Nat → Int32} {P : Option ma_V → (Nat → Nat → Int32) → Prop} (l1 : Int32) (l2 : Int32) (h : if l1 ≤ l2 then (P (some (.inl l2)) m) else (if (m 94 56) ≤ (m 94 57) then (P (some (.inl l2)) m) else ((0 ≤ (m 94 57) ∧ (m 94 57).toNatClampNeg < 3100) ∧ ((0 ≤ (m 115 (m 94 57).toNatClampNeg) ∧ (m 115 (m 94 57).toNatClampNeg).toNatClampNeg < 3100) ∧ (zm X 2 44 222 48 [(0, .inr (.inr (some 94))), (1, .inl l1), (2, .inl l2), (3, .inl (m 115 (m 94 57).toNatClampNeg)), (4, .inl (0 : Int32))] (ma_u (ma_u m 94 57 ((m 94 57) + (1 : Int32))) 106 (m 115 (m 94 57).toNatClampNeg).toNatClampNeg (2 : Int32)) P))))) : zm X 2 44 222 2 [(0, .inr (.inr (some 94))), (1, .inl l1), (2, .inl l2)] m P := by
  intro d w S Q hd hw hS hm HQ
  subst hm
  refine zw_push hm_222 dX12_steps_2 (v := .inl l2) rfl ?_
  refine zw_push hm_222 dX12_steps_3 (v := .inl l1) rfl ?_
  refine zw_if2 hm_222 dX12_steps_4 (t := 82) rfl zc2_ge ?_ ?_
  · intro hc
    rw [if_pos hc] at h
    refine zw_push hm_222 dX12_steps_82 (v := .inl l2) rfl ?_
    exact zw_iret hm_222 dX12_steps_83 (HQ _ _ h)
  · intro hc
    rw [if_neg hc] at h
    refine zw_push hm_222 dX12_steps_7 (v := .inr (.inr (some 94))) rfl ?_
    refine zw_gf hm_222 dX12_steps_8 (v := .inl ((mI S) 94 57)) (zT_is hS s_94) (zT_t hS s_94) rfl f_12_267_12 rfl ?_
    refine zw_push hm_222 dX12_steps_11 (v := .inr (.inr (some 94))) rfl ?_
    refine zw_gf hm_222 dX12_steps_12 (v := .inl ((mI S) 94 56)) (zT_is hS s_94) (zT_t hS s_94) rfl f_12_264_12 rfl ?_
    refine zw_if2 hm_222 dX12_steps_15 (t := 82) rfl zc2_ge ?_ ?_
    · intro hc
      rw [if_pos hc] at h
      refine zw_push hm_222 dX12_steps_82 (v := .inl l2) rfl ?_
      exact zw_iret hm_222 dX12_steps_83 (HQ _ _ h)
    · intro hc
      rw [if_neg hc] at h
      refine zw_push hm_222 dX12_steps_18 (v := .inr (.inr (some 94))) rfl ?_
      refine zw_gf hm_222 dX12_steps_19 (v := .inr (.inr (some 115))) (zT_is hS s_94) (zT_t hS s_94) rfl f_12_77_12 (zT_f hS r_94_54) ?_
      refine zw_push hm_222 dX12_steps_22 (v := .inr (.inr (some 94))) rfl ?_
      refine zw_gf hm_222 dX12_steps_23 (v := .inl ((mI S) 94 57)) (zT_is hS s_94) (zT_t hS s_94) rfl f_12_267_12 rfl ?_
      obtain ⟨hg, h⟩ := h
      refine zw_ia hm_222 dX12_steps_26 (zT_is hS s_115) (zT_h hS s_115) rfl hg ?_
      show ma_wp X d w 222 27 [(0, .inr (.inr (some 94))), (1, .inl l1), (2, .inl l2)] [.inl ((mI S) 115 ((mI S) 94 57).toNatClampNeg)] S _
      refine zw_sto hm_222 dX12_steps_27 [(3, .inl ((mI S) 115 ((mI S) 94 57).toNatClampNeg)), (0, .inr (.inr (some 94))), (1, .inl l1), (2, .inl l2)] rfl rfl rfl ?_
      refine zw_push hm_222 dX12_steps_28 (v := .inr (.inr (some 94))) rfl ?_
      refine zw_stk hm_222 dX12_steps_29 (st₉ := [.inr (.inr (some 94)), .inr (.inr (some 94))]) rfl rfl ?_
      refine zw_gf hm_222 dX12_steps_30 (v := .inl ((mI S) 94 57)) (zT_is hS s_94) (zT_t hS s_94) rfl f_12_267_12 rfl ?_
      refine zw_push hm_222 dX12_steps_33 (v := .inl (1 : Int32)) rfl ?_
      refine zw_stk hm_222 dX12_steps_34 (st₉ := [.inl (((mI S) 94 57) + (1 : Int32)), .inr (.inr (some 94))]) rfl rfl ?_
      refine zw_pf hm_222 dX12_steps_35 (zT_is hS s_94) (zT_t hS s_94) p_12_267_12 zk_int ?_
      refine zw_push hm_222 dX12_steps_38 (v := .inr (.inr (some 94))) rfl ?_
      refine zw_gf hm_222 dX12_steps_39 (v := .inr (.inr (some 106))) (zT_is (zT_pi hS) s_94) (zT_t (zT_pi hS) s_94) rfl f_12_49_12 (zT_f (zT_pi hS) r_94_38) ?_
      refine zw_push hm_222 dX12_steps_42 (v := .inl ((mI S) 115 ((mI S) 94 57).toNatClampNeg)) rfl ?_
      refine zw_push hm_222 dX12_steps_43 (v := .inl (2 : Int32)) rfl ?_
      obtain ⟨hg, h⟩ := h
      refine zw_ias hm_222 dX12_steps_44 (zT_is (zT_pi hS) s_106) (zT_h (zT_pi hS) s_106) rfl hg ?_
      refine zw_push hm_222 dX12_steps_45 (v := .inl (0 : Int32)) rfl ?_
      refine zw_sto hm_222 dX12_steps_46 [(4, .inl (0 : Int32)), (3, .inl ((mI S) 115 ((mI S) 94 57).toNatClampNeg)), (0, .inr (.inr (some 94))), (1, .inl l1), (2, .inl l2)] rfl rfl rfl ?_
      exact zw_sub (ma_nd_of (ks := [0, 1, 2, 3, 4]) rfl (by decide)) (ma_nd_of (ks := [4, 3, 0, 1, 2]) rfl (by decide)) (ma_le_cons rfl (ma_le_cons rfl (ma_le_cons rfl (ma_le_cons rfl (ma_le_cons rfl (ma_le_nil _)))))) (h d w _ Q (by omega) (by omega) (zT_pi (zT_pi hS)) rfl HQ)
theorem g_222_48 {X : Nat × (Nat → Int32)} {m : Nat → Nat → Int32} {P : Option ma_V → (Nat → Nat → Int32) → Prop} (l1 : Int32) (l2 : Int32) (l3 : Int32) (l4 : Int32) (h : (0 ≤ l3 ∧ l3.toNatClampNeg < 3100) ∧ (if (m 102 l3.toNatClampNeg) ≤ l4 then (zm X 2 44 222 2 [(0, .inr (.inr (some 94))), (1, .inl l1), (2, .inl (l2 + (1 : Int32)))] m P) else (zm X 1 22 192 0 [(0, .inr (.inr (some 94))), (1, .inl l3), (2, .inl l4)] m (zmi (fun v2 m1 => if v2 < 0 then (zm X 2 44 222 48 [(0, .inr (.inr (some 94))), (1, .inl l1), (2, .inl l2), (3, .inl l3), (4, .inl (l4 + (1 : Int32)))] m1 P) else ((0 ≤ v2 ∧ v2.toNatClampNeg < 3100) ∧ (if (m1 106 v2.toNatClampNeg) = 0 then ((0 ≤ v2 ∧ v2.toNatClampNeg < 3100) ∧ ((0 ≤ (m1 94 56) ∧ (m1 94 56).toNatClampNeg < 3100) ∧ (zm X 2 44 222 48 [(0, .inr (.inr (some 94))), (1, .inl l1), (2, .inl l2), (3, .inl l3), (4, .inl (l4 + (1 : Int32)))] (ma_u (ma_u (ma_u m1 106 v2.toNatClampNeg (1 : Int32)) 115 (m1 94 56).toNatClampNeg v2) 94 56 ((m1 94 56) + (1 : Int32))) P))) else (zm X 2 44 222 48 [(0, .inr (.inr (some 94))), (1, .inl l1), (2, .inl l2), (3, .inl l3), (4, .inl (l4 + (1 : Int32)))] m1 P)))))))) : zm X 2 44 222 48 [(0, .inr (.inr (some 94))), (1, .inl l1), (2, .inl l2), (3, .inl l3), (4, .inl l4)] m P := by
  intro d w S Q hd hw hS hm HQ
  subst hm
  refine zw_push hm_222 dX12_steps_48 (v := .inl l4) rfl ?_
  refine zw_push hm_222 dX12_steps_50 (v := .inr (.inr (some 94))) rfl ?_
  refine zw_gf hm_222 dX12_steps_51 (v := .inr (.inr (some 102))) (zT_is hS s_94) (zT_t hS s_94) rfl f_12_37_12 (zT_f hS r_94_34) ?_
  refine zw_push hm_222 dX12_steps_54 (v := .inl l3) rfl ?_
  obtain ⟨hg, h⟩ := h
  refine zw_ia hm_222 dX12_steps_55 (zT_is hS s_102) (zT_h hS s_102) rfl hg ?_
  show ma_wp X d w 222 56 [(0, .inr (.inr (some 94))), (1, .inl l1), (2, .inl l2), (3, .inl l3), (4, .inl l4)] [.inl ((mI S) 102 l3.toNatClampNeg), .inl l4] S _
  refine zw_if2 hm_222 dX12_steps_56 (t := 76) rfl zc2_ge ?_ ?_
  · intro hc
    rw [if_pos hc] at h
    refine zw_sto hm_222 dX12_steps_76 [(2, .inl (l2 + (1 : Int32))), (0, .inr (.inr (some 94))), (1, .inl l1), (3, .inl l3), (4, .inl l4)] rfl rfl rfl ?_
    refine zw_goto hm_222 dX12_steps_79 (t := 2) rfl ?_
    exact zw_sub (ma_nd_of (ks := [0, 1, 2]) rfl (by decide)) (ma_nd_of (ks := [2, 0, 1, 3, 4]) rfl (by decide)) (ma_le_cons rfl (ma_le_cons rfl (ma_le_cons rfl (ma_le_nil _)))) (h d w _ Q (by omega) (by omega) hS rfl HQ)
  · intro hc
    rw [if_neg hc] at h
    refine zw_push hm_222 dX12_steps_59 (v := .inr (.inr (some 94))) rfl ?_
    refine zw_push hm_222 dX12_steps_60 (v := .inr (.inr (some 94))) rfl ?_
    refine zw_push hm_222 dX12_steps_61 (v := .inl l3) rfl ?_
    refine zw_push hm_222 dX12_steps_62 (v := .inl l4) rfl ?_
    refine zw_cv hm_222 dX12_steps_64 v_12_294_12 hm_192 [.inl l4, .inl l3] [.inr (.inr (some 94))] rfl (zT_rt hS s_94 rfl) ⟨by omega, by omega⟩ rfl (h _ _ S _ (by omega) (by omega) hS rfl (fun o9 m1 hv => ?_))
    obtain ⟨v2, rfl, h⟩ := zmi_of hv
    show ma_wp X d w 222 67 [(0, .inr (.inr (some 94))), (1, .inl l1), (2, .inl l2), (3, .inl l3), (4, .inl l4)] [.inl v2, .inr (.inr (some 94))] (zst S m1) _
    refine zw_cv hm_222 dX12_steps_67 v_12_396_12 hm_221 [.inl v2] [] rfl (zT_rt (zT_zst hS m1) s_94 rfl) ⟨by omega, by omega⟩ rfl ?_
    show ma_wp X (d - 1) (w - 21) 221 0 [(0, .inr (.inr (some 94))), (1, .inl v2)] [] (zst S m1) _
    refine zw_push hm_221 dX12_toGrey_0 (v := .inl v2) rfl ?_
    refine zw_if0 hm_221 dX12_toGrey_1 (t := 13) rfl zc0_lt ?_ ?_
    · intro hc
      rw [if_pos hc] at h
      refine zw_vret hm_221 dX12_toGrey_13 ?_
      show ma_wp X d w 222 70 [(0, .inr (.inr (some 94))), (1, .inl l1), (2, .inl l2), (3, .inl l3), (4, .inl l4)] [] (zst S m1) _
      refine zw_sto hm_222 dX12_steps_70 [(4, .inl (l4 + (1 : Int32))), (0, .inr (.inr (some 94))), (1, .inl l1), (2, .inl l2), (3, .inl l3)] rfl rfl rfl ?_
      refine zw_goto hm_222 dX12_steps_73 (t := 48) rfl ?_
      exact zw_sub (ma_nd_of (ks := [0, 1, 2, 3, 4]) rfl (by decide)) (ma_nd_of (ks := [4, 0, 1, 2, 3]) rfl (by decide)) (ma_le_cons rfl (ma_le_cons rfl (ma_le_cons rfl (ma_le_cons rfl (ma_le_cons rfl (ma_le_nil _)))))) (h d w _ Q (by omega) (by omega) (zT_zst hS m1) rfl HQ)
    · intro hc
      rw [if_neg hc] at h
      refine zw_push hm_221 dX12_toGrey_4 (v := .inr (.inr (some 94))) rfl ?_
      refine zw_gf hm_221 dX12_toGrey_5 (v := .inr (.inr (some 106))) (zT_is (zT_zst hS m1) s_94) (zT_t (zT_zst hS m1) s_94) rfl f_12_49_12 (zT_f (zT_zst hS m1) r_94_38) ?_
      refine zw_push hm_221 dX12_toGrey_8 (v := .inl v2) rfl ?_
      obtain ⟨hg, h⟩ := h
      refine zw_ia hm_221 dX12_toGrey_9 (zT_is (zT_zst hS m1) s_106) (zT_h (zT_zst hS m1) s_106) rfl hg ?_
      show ma_wp X (d - 1) (w - 21) 221 10 [(0, .inr (.inr (some 94))), (1, .inl v2)] [.inl (m1 106 v2.toNatClampNeg)] (zst S m1) _
      refine zw_if0 hm_221 dX12_toGrey_10 (t := 14) rfl zc0_eq ?_ ?_
      · intro hc
        rw [if_pos hc] at h
        refine zw_push hm_221 dX12_toGrey_14 (v := .inr (.inr (some 94))) rfl ?_
        refine zw_gf hm_221 dX12_toGrey_15 (v := .inr (.inr (some 106))) (zT_is (zT_zst hS m1) s_94) (zT_t (zT_zst hS m1) s_94) rfl f_12_49_12 (zT_f (zT_zst hS m1) r_94_38) ?_
        refine zw_push hm_221 dX12_toGrey_18 (v := .inl v2) rfl ?_
        refine zw_push hm_221 dX12_toGrey_19 (v := .inl (1 : Int32)) rfl ?_
        obtain ⟨hg, h⟩ := h
        refine zw_ias hm_221 dX12_toGrey_20 (zT_is (zT_zst hS m1) s_106) (zT_h (zT_zst hS m1) s_106) rfl hg ?_
        refine zw_push hm_221 dX12_toGrey_21 (v := .inr (.inr (some 94))) rfl ?_
        refine zw_gf hm_221 dX12_toGrey_22 (v := .inr (.inr (some 115))) (zT_is (zT_pi (zT_zst hS m1)) s_94) (zT_t (zT_pi (zT_zst hS m1)) s_94) rfl f_12_77_12 (zT_f (zT_pi (zT_zst hS m1)) r_94_54) ?_
        refine zw_push hm_221 dX12_toGrey_25 (v := .inr (.inr (some 94))) rfl ?_
        refine zw_gf hm_221 dX12_toGrey_26 (v := .inl (m1 94 56)) (zT_is (zT_pi (zT_zst hS m1)) s_94) (zT_t (zT_pi (zT_zst hS m1)) s_94) rfl f_12_264_12 rfl ?_
        refine zw_push hm_221 dX12_toGrey_29 (v := .inl v2) rfl ?_
        obtain ⟨hg, h⟩ := h
        refine zw_ias hm_221 dX12_toGrey_30 (zT_is (zT_pi (zT_zst hS m1)) s_115) (zT_h (zT_pi (zT_zst hS m1)) s_115) rfl hg ?_
        refine zw_push hm_221 dX12_toGrey_31 (v := .inr (.inr (some 94))) rfl ?_
        refine zw_stk hm_221 dX12_toGrey_32 (st₉ := [.inr (.inr (some 94)), .inr (.inr (some 94))]) rfl rfl ?_
        refine zw_gf hm_221 dX12_toGrey_33 (v := .inl (m1 94 56)) (zT_is (zT_pi (zT_pi (zT_zst hS m1))) s_94) (zT_t (zT_pi (zT_pi (zT_zst hS m1))) s_94) rfl f_12_264_12 rfl ?_
        refine zw_push hm_221 dX12_toGrey_36 (v := .inl (1 : Int32)) rfl ?_
        refine zw_stk hm_221 dX12_toGrey_37 (st₉ := [.inl ((m1 94 56) + (1 : Int32)), .inr (.inr (some 94))]) rfl rfl ?_
        refine zw_pf hm_221 dX12_toGrey_38 (zT_is (zT_pi (zT_pi (zT_zst hS m1))) s_94) (zT_t (zT_pi (zT_pi (zT_zst hS m1))) s_94) p_12_264_12 zk_int ?_
        refine zw_vret hm_221 dX12_toGrey_41 ?_
        show ma_wp X d w 222 70 [(0, .inr (.inr (some 94))), (1, .inl l1), (2, .inl l2), (3, .inl l3), (4, .inl l4)] [] (ma_put (ma_put (ma_put (zst S m1) 106 v2.toNatClampNeg (.inl (1 : Int32))) 115 (m1 94 56).toNatClampNeg (.inl v2)) 94 56 (.inl ((m1 94 56) + (1 : Int32)))) _
        refine zw_sto hm_222 dX12_steps_70 [(4, .inl (l4 + (1 : Int32))), (0, .inr (.inr (some 94))), (1, .inl l1), (2, .inl l2), (3, .inl l3)] rfl rfl rfl ?_
        refine zw_goto hm_222 dX12_steps_73 (t := 48) rfl ?_
        exact zw_sub (ma_nd_of (ks := [0, 1, 2, 3, 4]) rfl (by decide)) (ma_nd_of (ks := [4, 0, 1, 2, 3]) rfl (by decide)) (ma_le_cons rfl (ma_le_cons rfl (ma_le_cons rfl (ma_le_cons rfl (ma_le_cons rfl (ma_le_nil _)))))) (h d w _ Q (by omega) (by omega) (zT_pi (zT_pi (zT_pi (zT_zst hS m1)))) rfl HQ)
      · intro hc
        rw [if_neg hc] at h
        refine zw_vret hm_221 dX12_toGrey_13 ?_
        show ma_wp X d w 222 70 [(0, .inr (.inr (some 94))), (1, .inl l1), (2, .inl l2), (3, .inl l3), (4, .inl l4)] [] (zst S m1) _
        refine zw_sto hm_222 dX12_steps_70 [(4, .inl (l4 + (1 : Int32))), (0, .inr (.inr (some 94))), (1, .inl l1), (2, .inl l2), (3, .inl l3)] rfl rfl rfl ?_
        refine zw_goto hm_222 dX12_steps_73 (t := 48) rfl ?_
        exact zw_sub (ma_nd_of (ks := [0, 1, 2, 3, 4]) rfl (by decide)) (ma_nd_of (ks := [4, 0, 1, 2, 3]) rfl (by decide)) (ma_le_cons rfl (ma_le_cons rfl (ma_le_cons rfl (ma_le_cons rfl (ma_le_cons rfl (ma_le_nil _)))))) (h d w _ Q (by omega) (by omega) (zT_zst hS m1) rfl HQ)
theorem lp_222_48 {X : Nat × (Nat → Int32)} {P : Option ma_V → (Nat → Nat → Int32) → Prop} {nn : Int32} {m0 : Nat → Nat → Int32} (h0 : zV m0) (K : ∀ v m₉, zF wr_222 m0 m₉ → zV m₉ → (zG1 (m₉ 94 56) (m₉ 94 57) (m₉ 106)) → ((m0 94 56).toInt ≤ (m₉ 94 56).toInt) → ((m0 94 57).toInt ≤ (m₉ 94 57).toInt ∧ ((m₉ 94 56).toInt ≤ (m₉ 94 57).toInt ∨ (m0 94 57).toInt + nn.toInt ≤ (m₉ 94 57).toInt)) → P (some (.inl v)) m₉) {n2 : Nat} (OUT2 : ∀ (m₉ : Nat → Nat → Int32) (l1 : Int32) (l2 : Int32), (3101 - (m₉ 94 57).toInt).toNat < n2 → zF wr_222 m0 m₉ → zV m₉ → (0 ≤ l2.toInt) → (l1.toInt = nn.toInt) → (zW (m₉ 94 7) (m₉ 98) (m₉ 101) (m₉ 102) (m₉ 108)) → (zG1 (m₉ 94 56) (m₉ 94 57) (m₉ 106)) → ((m0 94 56).toInt ≤ (m₉ 94 56).toInt) → ((m₉ 94 57).toInt = (m0 94 57).toInt + l2.toInt) → zm X 2 44 222 2 [(0, .inr (.inr (some 94))), (1, .inl l1), (2, .inl l2)] m₉ P) : ∀ (n : Nat) (m : Nat → Nat → Int32) (l1 : Int32) (l2 : Int32) (l3 : Int32) (l4 : Int32), (61 - l4.toInt).toNat = n → zF wr_222 m0 m → zV m → (0 ≤ l2.toInt) → (l1.toInt = nn.toInt) → (0 ≤ l3.toInt) → (l3.toInt ≤ 3099) → (0 ≤ l4.toInt) → (zW (m 94 7) (m 98) (m 101) (m 102) (m 108)) → (zG1 (m 94 56) (m 94 57) (m 106)) → ((m0 94 56).toInt ≤ (m 94 56).toInt) → ((m 94 57).toInt = (m0 94 57).toInt + l2.toInt + 1) → ((3101 - (m 94 57).toInt).toNat < n2) → zm X 2 44 222 48 [(0, .inr (.inr (some 94))), (1, .inl l1), (2, .inl l2), (3, .inl l3), (4, .inl l4)] m P := by
  intro n
  induction n using Nat.strongRecOn with
  | _ n IH =>
    intro m l1 l2 l3 l4 hmu hF hV hi0 hi1 hi2 hi3 hi4 r_W r_G1 hi7 hi8 hi9
    refine g_222_48 l1 l2 l3 l4 ?_
    have f1 : 0 ≤ (m0 94 56).toInt ∧ (m0 94 56).toInt ≤ 3100 := rs_94_56 (m := m0) h0
    have f2 : 0 ≤ (m 94 56).toInt ∧ (m 94 56).toInt ≤ 3100 := rs_94_56 (m := m) hV
    have f3 : 0 ≤ (m 94 57).toInt ∧ (m 94 57).toInt ≤ 3100 := rs_94_57 (m := m) hV
    have f4 : 0 ≤ (m0 94 57).toInt ∧ (m0 94 57).toInt ≤ 3100 := rs_94_57 (m := m0) h0
    have b5 := i_bd l3
    have hg6 : (0 ≤ l3 ∧ l3.toNatClampNeg < 3100) := i_ix (by omega) (by omega)
    refine ⟨hg6, ?_⟩
    first | have f7 : 0 ≤ (m 102 l3.toNatClampNeg).toInt ∧ (m 102 l3.toNatClampNeg).toInt ≤ 60 := ra_102 (m := m) hV (k := l3.toNatClampNeg) (i_ix (n := 3100) (by omega) (by omega)).2 | have b8 := i_bd (m 102 l3.toNatClampNeg)
    have b9 := i_bd l4
    refine zd (fun (h10 : (m 102 l3.toNatClampNeg) ≤ l4) => ?_) (fun (h10 : ¬ (m 102 l3.toNatClampNeg) ≤ l4) => ?_)
    · skip
      have g11 := i_le h10
      have b12 := i_bd l1
      have b13 := i_bd l2
      first | have e14 : (l2 + (1 : Int32)).toInt = l2.toInt + (1) := i_addk rfl (by omega) (by omega) | have b15 := i_bd (l2 + (1 : Int32))
      exact OUT2 _ (l1) ((l2 + (1 : Int32))) (show (3101 - (m 94 57).toInt).toNat < n2 from by omega) hF hV (by omega) (by omega) r_W r_G1 (show (m0 94 56).toInt ≤ (m 94 56).toInt from by omega) (show (m 94 57).toInt = (m0 94 57).toInt + (l2 + (1 : Int32)).toInt from by omega)
    · skip
      have g16 := i_nle h10
      refine sp_192 (l3) (l4) hV (by omega) (by omega) (by omega) (show l4.toInt < (m 102 l3.toNatClampNeg).toInt from by omega) (fun v2 m1 hV_m1 p0_m1 => zmi_n ?_)
      have p0_m1 : v2 = zrf (m 98) (m 101) (m 108) l3.toNatClampNeg l4.toNatClampNeg := p0_m1
      try have := W_ref r_W (by omega) (by omega) (by omega) (by omega) p0_m1
      have b17 := i_bd v2
      have li18 : (0 : Int32).toInt = 0 := rfl
      refine zd (fun (h19 : v2 < (0 : Int32)) => ?_) (fun (h19 : ¬ v2 < (0 : Int32)) => ?_)
      · skip
        have g20 := i_lt h19
        have b21 := i_bd l1
        have b22 := i_bd l2
        first | have e23 : (l4 + (1 : Int32)).toInt = l4.toInt + (1) := i_addk rfl (by omega) (by omega) | have b24 := i_bd (l4 + (1 : Int32))
        exact IH (61 - (l4 + (1 : Int32)).toInt).toNat (by omega) _ (l1) (l2) (l3) ((l4 + (1 : Int32))) rfl (zF_zov hF ws_192_222) hV_m1 (by omega) (by omega) (by omega) (by omega) (by omega) r_W r_G1 (show (m0 94 56).toInt ≤ (m 94 56).toInt from by omega) (show (m 94 57).toInt = (m0 94 57).toInt + l2.toInt + 1 from by omega) (show (3101 - (m 94 57).toInt).toNat < n2 from by omega)
      · skip
        have g25 := i_nlt h19
        have hg26 : (0 ≤ v2 ∧ v2.toNatClampNeg < 3100) := i_ix (by omega) (by omega)
        refine ⟨hg26, ?_⟩
        have b27 := i_bd (m 106 v2.toNatClampNeg)
        refine zd (fun (h28 : (m 106 v2.toNatClampNeg) = (0 : Int32)) => ?_) (fun (h28 : ¬ (m 106 v2.toNatClampNeg) = (0 : Int32)) => ?_)
        · skip
          have g29 := i_eq h28
          have hg30 : (0 ≤ v2 ∧ v2.toNatClampNeg < 3100) := i_ix (by omega) (by omega)
          refine ⟨hg30, ?_⟩
          try have gk := G1_room r_G1 (by assumption) (by omega)
          have hg31 : (0 ≤ (m 94 56) ∧ (m 94 56).toNatClampNeg < 3100) := i_ix (by omega) (by omega)
          refine ⟨hg31, ?_⟩
          have hV32 : zV (ma_u (zov wr_192 m m1) 106 v2.toNatClampNeg (1 : Int32)) := ua_106 hV_m1
          have hV33 : zV (ma_u (ma_u (zov wr_192 m m1) 106 v2.toNatClampNeg (1 : Int32)) 115 (m 94 56).toNatClampNeg v2) := ua_115 hV32 (by omega) (by omega)
          first | have e35 : ((m 94 56) + (1 : Int32)).toInt = (m 94 56).toInt + (1) := i_addk rfl (by omega) (by omega) | have b36 := i_bd ((m 94 56) + (1 : Int32))
          have hV34 : zV (ma_u (ma_u (ma_u (zov wr_192 m m1) 106 v2.toNatClampNeg (1 : Int32)) 115 (m 94 56).toNatClampNeg v2) 94 56 ((m 94 56) + (1 : Int32))) := us_94_56 hV33 (by omega) (by omega)
          have b37 := i_bd l1
          have b38 := i_bd l2
          first | have e39 : (l4 + (1 : Int32)).toInt = l4.toInt + (1) := i_addk rfl (by omega) (by omega) | have b40 := i_bd (l4 + (1 : Int32))
          exact IH (61 - (l4 + (1 : Int32)).toInt).toNat (by omega) _ (l1) (l2) (l3) ((l4 + (1 : Int32))) rfl (zF_u (zF_u (zF_u (zF_zov hF ws_192_222) rfl) rfl) rfl) hV34 (by omega) (by omega) (by omega) (by omega) (by omega) r_W (show zG1 ((m 94 56) + (1 : Int32)) (m 94 57) ((ma_u m 106 v2.toNatClampNeg (1 : Int32)) 106) from by first | (exact G1_push r_G1 (by assumption) (by omega) (by decide) (by assumption)) | (exact G1_push r_G1 (by assumption) (by omega) (by decide) (by assumption)) | (exact G1_dark0 r_G1 (by decide)) | (exfalso; omega; done) | (exfalso; contradiction; done)) (show (m0 94 56).toInt ≤ ((m 94 56) + (1 : Int32)).toInt from by omega) (show (m 94 57).toInt = (m0 94 57).toInt + l2.toInt + 1 from by omega) (show (3101 - (m 94 57).toInt).toNat < n2 from by omega)
        · skip
          have g41 := i_ne h28
          have b42 := i_bd l1
          have b43 := i_bd l2
          first | have e44 : (l4 + (1 : Int32)).toInt = l4.toInt + (1) := i_addk rfl (by omega) (by omega) | have b45 := i_bd (l4 + (1 : Int32))
          exact IH (61 - (l4 + (1 : Int32)).toInt).toNat (by omega) _ (l1) (l2) (l3) ((l4 + (1 : Int32))) rfl (zF_zov hF ws_192_222) hV_m1 (by omega) (by omega) (by omega) (by omega) (by omega) r_W r_G1 (show (m0 94 56).toInt ≤ (m 94 56).toInt from by omega) (show (m 94 57).toInt = (m0 94 57).toInt + l2.toInt + 1 from by omega) (show (3101 - (m 94 57).toInt).toNat < n2 from by omega)
theorem lp_222_2 {X : Nat × (Nat → Int32)} {P : Option ma_V → (Nat → Nat → Int32) → Prop} {nn : Int32} {m0 : Nat → Nat → Int32} (h0 : zV m0) (K : ∀ v m₉, zF wr_222 m0 m₉ → zV m₉ → (zG1 (m₉ 94 56) (m₉ 94 57) (m₉ 106)) → ((m0 94 56).toInt ≤ (m₉ 94 56).toInt) → ((m0 94 57).toInt ≤ (m₉ 94 57).toInt ∧ ((m₉ 94 56).toInt ≤ (m₉ 94 57).toInt ∨ (m0 94 57).toInt + nn.toInt ≤ (m₉ 94 57).toInt)) → P (some (.inl v)) m₉) : ∀ (n : Nat) (m : Nat → Nat → Int32) (l1 : Int32) (l2 : Int32), (3101 - (m 94 57).toInt).toNat = n → zF wr_222 m0 m → zV m → (0 ≤ l2.toInt) → (l1.toInt = nn.toInt) → (zW (m 94 7) (m 98) (m 101) (m 102) (m 108)) → (zG1 (m 94 56) (m 94 57) (m 106)) → ((m0 94 56).toInt ≤ (m 94 56).toInt) → ((m 94 57).toInt = (m0 94 57).toInt + l2.toInt) → zm X 2 44 222 2 [(0, .inr (.inr (some 94))), (1, .inl l1), (2, .inl l2)] m P := by
  intro n
  induction n using Nat.strongRecOn with
  | _ n IH =>
    intro m l1 l2 hmu hF hV hi0 hi1 r_W r_G1 hi4 hi5
    refine g_222_2 l1 l2 ?_
    have f1 : 0 ≤ (m0 94 56).toInt ∧ (m0 94 56).toInt ≤ 3100 := rs_94_56 (m := m0) h0
    have f2 : 0 ≤ (m 94 56).toInt ∧ (m 94 56).toInt ≤ 3100 := rs_94_56 (m := m) hV
    have f3 : 0 ≤ (m 94 57).toInt ∧ (m 94 57).toInt ≤ 3100 := rs_94_57 (m := m) hV
    have f4 : 0 ≤ (m0 94 57).toInt ∧ (m0 94 57).toInt ≤ 3100 := rs_94_57 (m := m0) h0
    have b5 := i_bd l1
    have b6 := i_bd l2
    refine zd (fun (h7 : l1 ≤ l2) => ?_) (fun (h7 : ¬ l1 ≤ l2) => ?_)
    · skip
      have g8 := i_le h7
      exact K (l2) _ hF hV r_G1 (show (m0 94 56).toInt ≤ (m 94 56).toInt from by omega) (show (m0 94 57).toInt ≤ (m 94 57).toInt ∧ ((m 94 56).toInt ≤ (m 94 57).toInt ∨ (m0 94 57).toInt + nn.toInt ≤ (m 94 57).toInt) from by omega)
    · skip
      have g9 := i_nle h7
      refine zd (fun (h10 : (m 94 56) ≤ (m 94 57)) => ?_) (fun (h10 : ¬ (m 94 56) ≤ (m 94 57)) => ?_)
      · skip
        have g11 := i_le h10
        exact K (l2) _ hF hV r_G1 (show (m0 94 56).toInt ≤ (m 94 56).toInt from by omega) (show (m0 94 57).toInt ≤ (m 94 57).toInt ∧ ((m 94 56).toInt ≤ (m 94 57).toInt ∨ (m0 94 57).toInt + nn.toInt ≤ (m 94 57).toInt) from by omega)
      · skip
        have g12 := i_nle h10
        try have gk := G1_room r_G1 (by assumption) (by omega)
        have hg13 : (0 ≤ (m 94 57) ∧ (m 94 57).toNatClampNeg < 3100) := i_ix (by omega) (by omega)
        refine ⟨hg13, ?_⟩
        first | have f14 : 0 ≤ (m 115 (m 94 57).toNatClampNeg).toInt ∧ (m 115 (m 94 57).toNatClampNeg).toInt ≤ 3099 := ra_115 (m := m) hV (k := (m 94 57).toNatClampNeg) (i_ix (n := 3100) (by omega) (by omega)).2 | have b15 := i_bd (m 115 (m 94 57).toNatClampNeg)
        have hg16 : (0 ≤ (m 115 (m 94 57).toNatClampNeg) ∧ (m 115 (m 94 57).toNatClampNeg).toNatClampNeg < 3100) := i_ix (by omega) (by omega)
        refine ⟨hg16, ?_⟩
        first | have e18 : ((m 94 57) + (1 : Int32)).toInt = (m 94 57).toInt + (1) := i_addk rfl (by omega) (by omega) | have b19 := i_bd ((m 94 57) + (1 : Int32))
        have hV17 : zV (ma_u m 94 57 ((m 94 57) + (1 : Int32))) := us_94_57 hV (by omega) (by omega)
        have hV20 : zV (ma_u (ma_u m 94 57 ((m 94 57) + (1 : Int32))) 106 (m 115 (m 94 57).toNatClampNeg).toNatClampNeg (2 : Int32)) := ua_106 hV17
        have li21 : (0 : Int32).toInt = 0 := rfl
        exact lp_222_48 (nn := nn) h0 K (fun _ _ _ z1 z2 z3 y0 y1 y2 y3 y4 y5 => IH _ z1 _ _ _ rfl z2 z3 y0 y1 y2 y3 y4 y5) _ _ (l1) (l2) ((m 115 (m 94 57).toNatClampNeg)) ((0 : Int32)) rfl (zF_u (zF_u hF rfl) rfl) hV20 (by omega) (by omega) (by omega) (by omega) (by omega) r_W (show zG1 (m 94 56) ((m 94 57) + (1 : Int32)) ((ma_u m 106 (m 115 (m 94 57).toNatClampNeg).toNatClampNeg (2 : Int32)) 106) from by first | (exact G1_dark r_G1 (by decide) (by omega)) | (exact G1_push r_G1 (by assumption) (by omega) (by decide) (by assumption)) | (exact G1_dark0 r_G1 (by decide)) | (exfalso; omega; done) | (exfalso; contradiction; done)) (show (m0 94 56).toInt ≤ (m 94 56).toInt from by omega) (show ((m 94 57) + (1 : Int32)).toInt = (m0 94 57).toInt + l2.toInt + 1 from by omega) (show (3101 - ((m 94 57) + (1 : Int32)).toInt).toNat < n from by omega)
theorem sp_222 {X : Nat × (Nat → Int32)} {P : Option ma_V → (Nat → Nat → Int32) → Prop} {m : Nat → Nat → Int32} (nn : Int32) (hV : zV m) (r_W : zW (m 94 7) (m 98) (m 101) (m 102) (m 108)) (r_G1 : zG1 (m 94 56) (m 94 57) (m 106)) (KZ : ∀ v m₉, zV (zov wr_222 m m₉) → (zG1 (m₉ 94 56) (m₉ 94 57) (m₉ 106)) → ((m 94 56).toInt ≤ (m₉ 94 56).toInt) → ((m 94 57).toInt ≤ (m₉ 94 57).toInt ∧ ((m₉ 94 56).toInt ≤ (m₉ 94 57).toInt ∨ (m 94 57).toInt + nn.toInt ≤ (m₉ 94 57).toInt)) → P (some (.inl v)) (zov wr_222 m m₉)) : zm X 2 44 222 0 [(0, .inr (.inr (some 94))), (1, .inl nn)] m P := by
  have K : ∀ v m₉, zF wr_222 m m₉ → zV m₉ → (zG1 (m₉ 94 56) (m₉ 94 57) (m₉ 106)) → ((m 94 56).toInt ≤ (m₉ 94 56).toInt) → ((m 94 57).toInt ≤ (m₉ 94 57).toInt ∧ ((m₉ 94 56).toInt ≤ (m₉ 94 57).toInt ∨ (m 94 57).toInt + nn.toInt ≤ (m₉ 94 57).toInt)) → P (some (.inl v)) m₉ := by
    intro v m₉ hf z q0 q1 q2
    have e := zov_eq hf
    rw [e] at z ⊢
    try rw [e] at q0
    try rw [e] at q1
    try rw [e] at q2
    exact KZ v m₉ z q0 q1 q2
  refine g_222_0 nn ?_
  have b1 := i_bd nn
  have li2 : (0 : Int32).toInt = 0 := rfl
  have f3 : 0 ≤ (m 94 56).toInt ∧ (m 94 56).toInt ≤ 3100 := rs_94_56 (m := m) hV
  have f4 : 0 ≤ (m 94 57).toInt ∧ (m 94 57).toInt ≤ 3100 := rs_94_57 (m := m) hV
  exact lp_222_2 (nn := nn) hV K _ _ (nn) ((0 : Int32)) rfl zF_rfl hV (by omega) (by omega) r_W r_G1 (show (m 94 56).toInt ≤ (m 94 56).toInt from by omega) (show (m 94 57).toInt = (m 94 57).toInt + (0 : Int32).toInt from by omega)

