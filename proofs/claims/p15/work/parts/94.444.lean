/-! the reference (written by wip/tools/gen94m.py) -/
set_option maxRecDepth 100000 in
theorem hm_240 : ma_md 240 = some (12, yX12_changes, cX12_changes, 3, none) := rfl
theorem dX12_changes_0 : decode cX12_changes 0 = .ok (.aload_n 0, 1) := by decide +kernel
theorem dX12_changes_4 : decode cX12_changes 4 = .ok (.iconst 5, 1) := by decide +kernel
theorem dX12_changes_20 : decode cX12_changes 20 = .ok (.return_, 1) := by decide +kernel
theorem dX12_changes_8 : decode cX12_changes 8 = .ok (.aload_n 0, 1) := by decide +kernel
theorem dX12_changes_15 : decode cX12_changes 15 = .ok (.iload_n 1, 1) := by decide +kernel
theorem dX12_changes_16 : decode cX12_changes 16 = .ok (.iload_n 2, 1) := by decide +kernel
theorem dX12_changes_21 : decode cX12_changes 21 = .ok (.aload_n 0, 1) := by decide +kernel
theorem dX12_changes_22 : decode cX12_changes 22 = .ok (.aload_n 0, 1) := by decide +kernel
theorem dX12_changes_33 : decode cX12_changes 33 = .ok (.iload_n 2, 1) := by decide +kernel
theorem dX12_changes_34 : decode cX12_changes 34 = .ok (.invokevirtual 396, 3) := by decide +kernel
theorem dX12_changes_37 : decode cX12_changes 37 = .ok (.return_, 1) := by decide +kernel
theorem dX12_changes_29 : decode cX12_changes 29 = .ok (.iload_n 1, 1) := by decide +kernel
theorem dX12_changes_30 : decode cX12_changes 30 = .ok (.goto 4, 3) := by decide +kernel
theorem dX12_changes_26 : decode cX12_changes 26 = .ok (.ifCond .eq 7, 3) := by decide +kernel
theorem dX12_changes_23 : decode cX12_changes 23 = .ok (.getfield 228, 3) := by decide +kernel
theorem dX12_changes_17 : decode cX12_changes 17 = .ok (.if_icmp .ne 4, 3) := by decide +kernel
theorem dX12_changes_12 : decode cX12_changes 12 = .ok (.ifCond .eq 8, 3) := by decide +kernel
theorem dX12_changes_9 : decode cX12_changes 9 = .ok (.getfield 270, 3) := by decide +kernel
theorem dX12_changes_5 : decode cX12_changes 5 = .ok (.if_icmp .ne 15, 3) := by decide +kernel
theorem dX12_changes_1 : decode cX12_changes 1 = .ok (.getfield 199, 3) := by decide +kernel
def wr_240 (c k : Nat) : Bool := Nat.beq c 106 || Nat.beq c 115 || (Nat.beq c 94 && (Nat.beq k 56))
theorem g_240_0 {X : Nat × (Nat → Int32)} {m : Nat → Nat → Int32} {P : Option ma_V → (Nat → Nat → Int32) → Prop} (wa : Int32) (is : Int32) (h : if (m 94 10) = (5 : Int32) then (if (m 94 58) = 0 then (P none m) else (if wa = is then (P none m) else (if (m 94 9) = 0 then (if is < 0 then (P none m) else ((0 ≤ is ∧ is.toNatClampNeg < 3100) ∧ (if (m 106 is.toNatClampNeg) = 0 then ((0 ≤ is ∧ is.toNatClampNeg < 3100) ∧ ((0 ≤ (m 94 56) ∧ (m 94 56).toNatClampNeg < 3100) ∧ (P none (ma_u (ma_u (ma_u m 106 is.toNatClampNeg (1 : Int32)) 115 (m 94 56).toNatClampNeg is) 94 56 ((m 94 56) + (1 : Int32)))))) else (P none m)))) else (if wa < 0 then (P none m) else ((0 ≤ wa ∧ wa.toNatClampNeg < 3100) ∧ (if (m 106 wa.toNatClampNeg) = 0 then ((0 ≤ wa ∧ wa.toNatClampNeg < 3100) ∧ ((0 ≤ (m 94 56) ∧ (m 94 56).toNatClampNeg < 3100) ∧ (P none (ma_u (ma_u (ma_u m 106 wa.toNatClampNeg (1 : Int32)) 115 (m 94 56).toNatClampNeg wa) 94 56 ((m 94 56) + (1 : Int32)))))) else (P none m))))))) else (P none m)) : zm X 1 21 240 0 [(0, .inr (.inr (some 94))), (1, .inl wa), (2, .inl is)] m P := by
  intro d w S Q hd hw hS hm HQ
  subst hm
  refine zw_push hm_240 dX12_changes_0 (v := .inr (.inr (some 94))) rfl ?_
  refine zw_gf hm_240 dX12_changes_1 (v := .inl ((mI S) 94 10)) (zT_is hS s_94) (zT_t hS s_94) rfl f_12_199_12 rfl ?_
  refine zw_push hm_240 dX12_changes_4 (v := .inl (5 : Int32)) rfl ?_
  refine zw_if2 hm_240 dX12_changes_5 (t := 20) rfl zc2_ne ?_ ?_
  · intro hc
    rw [if_neg hc] at h
    exact zw_vret hm_240 dX12_changes_20 (HQ _ _ h)
  · intro hc
    rw [if_pos (Classical.not_not.mp hc)] at h
    refine zw_push hm_240 dX12_changes_8 (v := .inr (.inr (some 94))) rfl ?_
    refine zw_gf hm_240 dX12_changes_9 (v := .inl ((mI S) 94 58)) (zT_is hS s_94) (zT_t hS s_94) rfl f_12_270_12 rfl ?_
    refine zw_if0 hm_240 dX12_changes_12 (t := 20) rfl zc0_eq ?_ ?_
    · intro hc
      rw [if_pos hc] at h
      exact zw_vret hm_240 dX12_changes_20 (HQ _ _ h)
    · intro hc
      rw [if_neg hc] at h
      refine zw_push hm_240 dX12_changes_15 (v := .inl wa) rfl ?_
      refine zw_push hm_240 dX12_changes_16 (v := .inl is) rfl ?_
      refine zw_if2 hm_240 dX12_changes_17 (t := 21) rfl zc2_ne ?_ ?_
      · intro hc
        rw [if_neg hc] at h
        refine zw_push hm_240 dX12_changes_21 (v := .inr (.inr (some 94))) rfl ?_
        refine zw_push hm_240 dX12_changes_22 (v := .inr (.inr (some 94))) rfl ?_
        refine zw_gf hm_240 dX12_changes_23 (v := .inl ((mI S) 94 9)) (zT_is hS s_94) (zT_t hS s_94) rfl f_12_228_12 rfl ?_
        refine zw_if0 hm_240 dX12_changes_26 (t := 33) rfl zc0_eq ?_ ?_
        · intro hc
          rw [if_pos hc] at h
          refine zw_push hm_240 dX12_changes_33 (v := .inl is) rfl ?_
          refine zw_cv hm_240 dX12_changes_34 v_12_396_12 hm_221 [.inl is] [] rfl (zT_rt hS s_94 rfl) ⟨by omega, by omega⟩ rfl ?_
          show ma_wp X (d - 1) (w - 21) 221 0 [(0, .inr (.inr (some 94))), (1, .inl is)] [] S _
          refine zw_push hm_221 dX12_toGrey_0 (v := .inl is) rfl ?_
          refine zw_if0 hm_221 dX12_toGrey_1 (t := 13) rfl zc0_lt ?_ ?_
          · intro hc
            rw [if_pos hc] at h
            refine zw_vret hm_221 dX12_toGrey_13 ?_
            show ma_wp X d w 240 37 [(0, .inr (.inr (some 94))), (1, .inl wa), (2, .inl is)] [] S _
            exact zw_vret hm_240 dX12_changes_37 (HQ _ _ h)
          · intro hc
            rw [if_neg hc] at h
            refine zw_push hm_221 dX12_toGrey_4 (v := .inr (.inr (some 94))) rfl ?_
            refine zw_gf hm_221 dX12_toGrey_5 (v := .inr (.inr (some 106))) (zT_is hS s_94) (zT_t hS s_94) rfl f_12_49_12 (zT_f hS r_94_38) ?_
            refine zw_push hm_221 dX12_toGrey_8 (v := .inl is) rfl ?_
            obtain ⟨hg, h⟩ := h
            refine zw_ia hm_221 dX12_toGrey_9 (zT_is hS s_106) (zT_h hS s_106) rfl hg ?_
            show ma_wp X (d - 1) (w - 21) 221 10 [(0, .inr (.inr (some 94))), (1, .inl is)] [.inl ((mI S) 106 is.toNatClampNeg)] S _
            refine zw_if0 hm_221 dX12_toGrey_10 (t := 14) rfl zc0_eq ?_ ?_
            · intro hc
              rw [if_pos hc] at h
              refine zw_push hm_221 dX12_toGrey_14 (v := .inr (.inr (some 94))) rfl ?_
              refine zw_gf hm_221 dX12_toGrey_15 (v := .inr (.inr (some 106))) (zT_is hS s_94) (zT_t hS s_94) rfl f_12_49_12 (zT_f hS r_94_38) ?_
              refine zw_push hm_221 dX12_toGrey_18 (v := .inl is) rfl ?_
              refine zw_push hm_221 dX12_toGrey_19 (v := .inl (1 : Int32)) rfl ?_
              obtain ⟨hg, h⟩ := h
              refine zw_ias hm_221 dX12_toGrey_20 (zT_is hS s_106) (zT_h hS s_106) rfl hg ?_
              refine zw_push hm_221 dX12_toGrey_21 (v := .inr (.inr (some 94))) rfl ?_
              refine zw_gf hm_221 dX12_toGrey_22 (v := .inr (.inr (some 115))) (zT_is (zT_pi hS) s_94) (zT_t (zT_pi hS) s_94) rfl f_12_77_12 (zT_f (zT_pi hS) r_94_54) ?_
              refine zw_push hm_221 dX12_toGrey_25 (v := .inr (.inr (some 94))) rfl ?_
              refine zw_gf hm_221 dX12_toGrey_26 (v := .inl ((mI S) 94 56)) (zT_is (zT_pi hS) s_94) (zT_t (zT_pi hS) s_94) rfl f_12_264_12 rfl ?_
              refine zw_push hm_221 dX12_toGrey_29 (v := .inl is) rfl ?_
              obtain ⟨hg, h⟩ := h
              refine zw_ias hm_221 dX12_toGrey_30 (zT_is (zT_pi hS) s_115) (zT_h (zT_pi hS) s_115) rfl hg ?_
              refine zw_push hm_221 dX12_toGrey_31 (v := .inr (.inr (some 94))) rfl ?_
              refine zw_stk hm_221 dX12_toGrey_32 (st' := [.inr (.inr (some 94)), .inr (.inr (some 94))]) rfl rfl ?_
              refine zw_gf hm_221 dX12_toGrey_33 (v := .inl ((mI S) 94 56)) (zT_is (zT_pi (zT_pi hS)) s_94) (zT_t (zT_pi (zT_pi hS)) s_94) rfl f_12_264_12 rfl ?_
              refine zw_push hm_221 dX12_toGrey_36 (v := .inl (1 : Int32)) rfl ?_
              refine zw_stk hm_221 dX12_toGrey_37 (st' := [.inl (((mI S) 94 56) + (1 : Int32)), .inr (.inr (some 94))]) rfl rfl ?_
              refine zw_pf hm_221 dX12_toGrey_38 (zT_is (zT_pi (zT_pi hS)) s_94) (zT_t (zT_pi (zT_pi hS)) s_94) p_12_264_12 zk_int ?_
              refine zw_vret hm_221 dX12_toGrey_41 ?_
              show ma_wp X d w 240 37 [(0, .inr (.inr (some 94))), (1, .inl wa), (2, .inl is)] [] (ma_put (ma_put (ma_put S 106 is.toNatClampNeg (.inl (1 : Int32))) 115 ((mI S) 94 56).toNatClampNeg (.inl is)) 94 56 (.inl (((mI S) 94 56) + (1 : Int32)))) _
              exact zw_vret hm_240 dX12_changes_37 (HQ _ _ h)
            · intro hc
              rw [if_neg hc] at h
              refine zw_vret hm_221 dX12_toGrey_13 ?_
              show ma_wp X d w 240 37 [(0, .inr (.inr (some 94))), (1, .inl wa), (2, .inl is)] [] S _
              exact zw_vret hm_240 dX12_changes_37 (HQ _ _ h)
        · intro hc
          rw [if_neg hc] at h
          refine zw_push hm_240 dX12_changes_29 (v := .inl wa) rfl ?_
          refine zw_goto hm_240 dX12_changes_30 (t := 34) rfl ?_
          refine zw_cv hm_240 dX12_changes_34 v_12_396_12 hm_221 [.inl wa] [] rfl (zT_rt hS s_94 rfl) ⟨by omega, by omega⟩ rfl ?_
          show ma_wp X (d - 1) (w - 21) 221 0 [(0, .inr (.inr (some 94))), (1, .inl wa)] [] S _
          refine zw_push hm_221 dX12_toGrey_0 (v := .inl wa) rfl ?_
          refine zw_if0 hm_221 dX12_toGrey_1 (t := 13) rfl zc0_lt ?_ ?_
          · intro hc
            rw [if_pos hc] at h
            refine zw_vret hm_221 dX12_toGrey_13 ?_
            show ma_wp X d w 240 37 [(0, .inr (.inr (some 94))), (1, .inl wa), (2, .inl is)] [] S _
            exact zw_vret hm_240 dX12_changes_37 (HQ _ _ h)
          · intro hc
            rw [if_neg hc] at h
            refine zw_push hm_221 dX12_toGrey_4 (v := .inr (.inr (some 94))) rfl ?_
            refine zw_gf hm_221 dX12_toGrey_5 (v := .inr (.inr (some 106))) (zT_is hS s_94) (zT_t hS s_94) rfl f_12_49_12 (zT_f hS r_94_38) ?_
            refine zw_push hm_221 dX12_toGrey_8 (v := .inl wa) rfl ?_
            obtain ⟨hg, h⟩ := h
            refine zw_ia hm_221 dX12_toGrey_9 (zT_is hS s_106) (zT_h hS s_106) rfl hg ?_
            show ma_wp X (d - 1) (w - 21) 221 10 [(0, .inr (.inr (some 94))), (1, .inl wa)] [.inl ((mI S) 106 wa.toNatClampNeg)] S _
            refine zw_if0 hm_221 dX12_toGrey_10 (t := 14) rfl zc0_eq ?_ ?_
            · intro hc
              rw [if_pos hc] at h
              refine zw_push hm_221 dX12_toGrey_14 (v := .inr (.inr (some 94))) rfl ?_
              refine zw_gf hm_221 dX12_toGrey_15 (v := .inr (.inr (some 106))) (zT_is hS s_94) (zT_t hS s_94) rfl f_12_49_12 (zT_f hS r_94_38) ?_
              refine zw_push hm_221 dX12_toGrey_18 (v := .inl wa) rfl ?_
              refine zw_push hm_221 dX12_toGrey_19 (v := .inl (1 : Int32)) rfl ?_
              obtain ⟨hg, h⟩ := h
              refine zw_ias hm_221 dX12_toGrey_20 (zT_is hS s_106) (zT_h hS s_106) rfl hg ?_
              refine zw_push hm_221 dX12_toGrey_21 (v := .inr (.inr (some 94))) rfl ?_
              refine zw_gf hm_221 dX12_toGrey_22 (v := .inr (.inr (some 115))) (zT_is (zT_pi hS) s_94) (zT_t (zT_pi hS) s_94) rfl f_12_77_12 (zT_f (zT_pi hS) r_94_54) ?_
              refine zw_push hm_221 dX12_toGrey_25 (v := .inr (.inr (some 94))) rfl ?_
              refine zw_gf hm_221 dX12_toGrey_26 (v := .inl ((mI S) 94 56)) (zT_is (zT_pi hS) s_94) (zT_t (zT_pi hS) s_94) rfl f_12_264_12 rfl ?_
              refine zw_push hm_221 dX12_toGrey_29 (v := .inl wa) rfl ?_
              obtain ⟨hg, h⟩ := h
              refine zw_ias hm_221 dX12_toGrey_30 (zT_is (zT_pi hS) s_115) (zT_h (zT_pi hS) s_115) rfl hg ?_
              refine zw_push hm_221 dX12_toGrey_31 (v := .inr (.inr (some 94))) rfl ?_
              refine zw_stk hm_221 dX12_toGrey_32 (st' := [.inr (.inr (some 94)), .inr (.inr (some 94))]) rfl rfl ?_
              refine zw_gf hm_221 dX12_toGrey_33 (v := .inl ((mI S) 94 56)) (zT_is (zT_pi (zT_pi hS)) s_94) (zT_t (zT_pi (zT_pi hS)) s_94) rfl f_12_264_12 rfl ?_
              refine zw_push hm_221 dX12_toGrey_36 (v := .inl (1 : Int32)) rfl ?_
              refine zw_stk hm_221 dX12_toGrey_37 (st' := [.inl (((mI S) 94 56) + (1 : Int32)), .inr (.inr (some 94))]) rfl rfl ?_
              refine zw_pf hm_221 dX12_toGrey_38 (zT_is (zT_pi (zT_pi hS)) s_94) (zT_t (zT_pi (zT_pi hS)) s_94) p_12_264_12 zk_int ?_
              refine zw_vret hm_221 dX12_toGrey_41 ?_
              show ma_wp X d w 240 37 [(0, .inr (.inr (some 94))), (1, .inl wa), (2, .inl is)] [] (ma_put (ma_put (ma_put S 106 wa.toNatClampNeg (.inl (1 : Int32))) 115 ((mI S) 94 56).toNatClampNeg (.inl wa)) 94 56 (.inl (((mI S) 94 56) + (1 : Int32)))) _
              exact zw_vret hm_240 dX12_changes_37 (HQ _ _ h)
            · intro hc
              rw [if_neg hc] at h
              refine zw_vret hm_221 dX12_toGrey_13 ?_
              show ma_wp X d w 240 37 [(0, .inr (.inr (some 94))), (1, .inl wa), (2, .inl is)] [] S _
              exact zw_vret hm_240 dX12_changes_37 (HQ _ _ h)
      · intro hc
        rw [if_pos (Classical.not_not.mp hc)] at h
        exact zw_vret hm_240 dX12_changes_20 (HQ _ _ h)
theorem sp_240 {X : Nat × (Nat → Int32)} {P : Option ma_V → (Nat → Nat → Int32) → Prop} {m : Nat → Nat → Int32} (wa : Int32) (is : Int32) (hV : zV m) (hpre0 : wa.toInt ≤ 3099) (hpre1 : is.toInt ≤ 3099) (r_GG : zGG (m 94 58) (m 94 56) (m 94 57) (m 106)) (hpre3 : (m 94 58).toInt = 0 ∨ (m 94 10).toInt = 5) (KZ : ∀ m', zV (zov wr_240 m m') → (zGG (m 94 58) (m' 94 56) (m 94 57) (m' 106)) → P none (zov wr_240 m m')) : zm X 1 21 240 0 [(0, .inr (.inr (some 94))), (1, .inl wa), (2, .inl is)] m P := by
  have K : ∀ m', zF wr_240 m m' → zV m' → (zGG (m' 94 58) (m' 94 56) (m' 94 57) (m' 106)) → P none m' := by
    intro m' hf z q0
    have e := zov_eq hf
    rw [e] at z ⊢
    try rw [e] at q0
    exact KZ m' z q0
  refine g_240_0 wa is ?_
  have f1 : 0 ≤ (m 94 58).toInt ∧ (m 94 58).toInt ≤ 1 := rs_94_58 (m := m) hV
  have f2 : 0 ≤ (m 94 10).toInt ∧ (m 94 10).toInt ≤ 6 := rs_94_10 (m := m) hV
  have li3 : (5 : Int32).toInt = 5 := rfl
  refine zd (fun (h4 : (m 94 10) = (5 : Int32)) => ?_) (fun (h4 : ¬ (m 94 10) = (5 : Int32)) => ?_)
  · skip
    have g5 := i_eq h4
    have li6 : (0 : Int32).toInt = 0 := rfl
    refine zd (fun (h7 : (m 94 58) = (0 : Int32)) => ?_) (fun (h7 : ¬ (m 94 58) = (0 : Int32)) => ?_)
    · skip
      have g8 := i_eq h7
      exact K _ zF_rfl hV r_GG
    · skip
      have g9 := i_ne h7
      have b10 := i_bd wa
      have b11 := i_bd is
      refine zd (fun (h12 : wa = is) => ?_) (fun (h12 : ¬ wa = is) => ?_)
      · skip
        have g13 := i_eq h12
        exact K _ zF_rfl hV r_GG
      · skip
        have g14 := i_ne h12
        have f15 : 0 ≤ (m 94 9).toInt ∧ (m 94 9).toInt ≤ 1 := rs_94_9 (m := m) hV
        refine zd (fun (h16 : (m 94 9) = (0 : Int32)) => ?_) (fun (h16 : ¬ (m 94 9) = (0 : Int32)) => ?_)
        · skip
          have g17 := i_eq h16
          refine zd (fun (h18 : is < (0 : Int32)) => ?_) (fun (h18 : ¬ is < (0 : Int32)) => ?_)
          · skip
            have g19 := i_lt h18
            exact K _ zF_rfl hV r_GG
          · skip
            have g20 := i_nlt h18
            have hg21 : (0 ≤ is ∧ is.toNatClampNeg < 3100) := i_ix (by omega) (by omega)
            refine ⟨hg21, ?_⟩
            have b22 := i_bd (m 106 is.toNatClampNeg)
            refine zd (fun (h23 : (m 106 is.toNatClampNeg) = (0 : Int32)) => ?_) (fun (h23 : ¬ (m 106 is.toNatClampNeg) = (0 : Int32)) => ?_)
            · skip
              have g24 := i_eq h23
              have hg25 : (0 ≤ is ∧ is.toNatClampNeg < 3100) := i_ix (by omega) (by omega)
              refine ⟨hg25, ?_⟩
              have f26 : 0 ≤ (m 94 56).toInt ∧ (m 94 56).toInt ≤ 3100 := rs_94_56 (m := m) hV
              try have gk := G1_room (r_GG (by omega)) (by assumption) (by omega)
              have hg27 : (0 ≤ (m 94 56) ∧ (m 94 56).toNatClampNeg < 3100) := i_ix (by omega) (by omega)
              refine ⟨hg27, ?_⟩
              have hV28 : zV (ma_u m 106 is.toNatClampNeg (1 : Int32)) := ua_106 hV
              have hV29 : zV (ma_u (ma_u m 106 is.toNatClampNeg (1 : Int32)) 115 (m 94 56).toNatClampNeg is) := ua_115 hV28 (by omega) (by omega)
              first | have e31 : ((m 94 56) + (1 : Int32)).toInt = (m 94 56).toInt + (1) := i_addk rfl (by omega) (by omega) | have b32 := i_bd ((m 94 56) + (1 : Int32))
              have hV30 : zV (ma_u (ma_u (ma_u m 106 is.toNatClampNeg (1 : Int32)) 115 (m 94 56).toNatClampNeg is) 94 56 ((m 94 56) + (1 : Int32))) := us_94_56 hV29 (by omega) (by omega)
              exact K _ (zF_u (zF_u (zF_u zF_rfl rfl) rfl) rfl) hV30 (show zGG (m 94 58) ((m 94 56) + (1 : Int32)) (m 94 57) ((ma_u m 106 is.toNatClampNeg (1 : Int32)) 106) from by first | (exact fun z => G1_push (r_GG z) (by assumption) (by omega) (by decide) (by assumption)) | (exact fun z => absurd z (by decide)) | (exact fun z => absurd z (by omega)) | (exfalso; omega; done) | (exfalso; contradiction; done))
            · skip
              have g33 := i_ne h23
              exact K _ zF_rfl hV r_GG
        · skip
          have g34 := i_ne h16
          refine zd (fun (h35 : wa < (0 : Int32)) => ?_) (fun (h35 : ¬ wa < (0 : Int32)) => ?_)
          · skip
            have g36 := i_lt h35
            exact K _ zF_rfl hV r_GG
          · skip
            have g37 := i_nlt h35
            have hg38 : (0 ≤ wa ∧ wa.toNatClampNeg < 3100) := i_ix (by omega) (by omega)
            refine ⟨hg38, ?_⟩
            have b39 := i_bd (m 106 wa.toNatClampNeg)
            refine zd (fun (h40 : (m 106 wa.toNatClampNeg) = (0 : Int32)) => ?_) (fun (h40 : ¬ (m 106 wa.toNatClampNeg) = (0 : Int32)) => ?_)
            · skip
              have g41 := i_eq h40
              have hg42 : (0 ≤ wa ∧ wa.toNatClampNeg < 3100) := i_ix (by omega) (by omega)
              refine ⟨hg42, ?_⟩
              have f43 : 0 ≤ (m 94 56).toInt ∧ (m 94 56).toInt ≤ 3100 := rs_94_56 (m := m) hV
              try have gk := G1_room (r_GG (by omega)) (by assumption) (by omega)
              have hg44 : (0 ≤ (m 94 56) ∧ (m 94 56).toNatClampNeg < 3100) := i_ix (by omega) (by omega)
              refine ⟨hg44, ?_⟩
              have hV45 : zV (ma_u m 106 wa.toNatClampNeg (1 : Int32)) := ua_106 hV
              have hV46 : zV (ma_u (ma_u m 106 wa.toNatClampNeg (1 : Int32)) 115 (m 94 56).toNatClampNeg wa) := ua_115 hV45 (by omega) (by omega)
              first | have e48 : ((m 94 56) + (1 : Int32)).toInt = (m 94 56).toInt + (1) := i_addk rfl (by omega) (by omega) | have b49 := i_bd ((m 94 56) + (1 : Int32))
              have hV47 : zV (ma_u (ma_u (ma_u m 106 wa.toNatClampNeg (1 : Int32)) 115 (m 94 56).toNatClampNeg wa) 94 56 ((m 94 56) + (1 : Int32))) := us_94_56 hV46 (by omega) (by omega)
              exact K _ (zF_u (zF_u (zF_u zF_rfl rfl) rfl) rfl) hV47 (show zGG (m 94 58) ((m 94 56) + (1 : Int32)) (m 94 57) ((ma_u m 106 wa.toNatClampNeg (1 : Int32)) 106) from by first | (exact fun z => G1_push (r_GG z) (by assumption) (by omega) (by decide) (by assumption)) | (exact fun z => absurd z (by decide)) | (exact fun z => absurd z (by omega)) | (exfalso; omega; done) | (exfalso; contradiction; done))
            · skip
              have g50 := i_ne h40
              exact K _ zF_rfl hV r_GG
  · skip
    have g51 := i_ne h4
    exact K _ zF_rfl hV r_GG
