/-! the reference (written by wip/tools/gen94m.py) -/
set_option maxRecDepth 100000 in
theorem hm_173 : ma_md 173 = some (12, yX12_token, cX12_token, 1, (some (FieldType.boolean))) := rfl
theorem s_96 : zs 96 = some (21, 100) := rfl
theorem r_94_2 : zfi 94 2 = some 96 := rfl
theorem f_12_17_12 : ma_fld 12 17 12 = some 2 := by decide +kernel
theorem f_12_121_12 : ma_fld 12 121 12 = some 67 := by decide +kernel
theorem f_12_124_12 : ma_fld 12 124 12 = some 4 := by decide +kernel
theorem f_12_127_12 : ma_fld 12 127 12 = some 68 := by decide +kernel
theorem f_12_130_12 : ma_fld 12 130 12 = some 69 := by decide +kernel
theorem p_12_121_12 : ma_pk 12 121 12 67 = true := by decide +kernel
theorem p_12_127_12 : ma_pk 12 127 12 68 = true := by decide +kernel
theorem p_12_130_12 : ma_pk 12 130 12 69 = true := by decide +kernel
theorem dX12_token_0 : decode cX12_token 0 = .ok (.aload_n 0, 1) := by decide +kernel
theorem dX12_token_4 : decode cX12_token 4 = .ok (.aload_n 0, 1) := by decide +kernel
theorem dX12_token_38 : decode cX12_token 38 = .ok (.aload_n 0, 1) := by decide +kernel
theorem dX12_token_39 : decode cX12_token 39 = .ok (.aload_n 0, 1) := by decide +kernel
theorem dX12_token_43 : decode cX12_token 43 = .ok (.putfield 127, 3) := by decide +kernel
theorem dX12_token_40 : decode cX12_token 40 = .ok (.getfield 121, 3) := by decide +kernel
theorem dX12_token_11 : decode cX12_token 11 = .ok (.aload_n 0, 1) := by decide +kernel
theorem dX12_token_15 : decode cX12_token 15 = .ok (.aload_n 0, 1) := by decide +kernel
theorem dX12_token_20 : decode cX12_token 20 = .ok (.bipush 32, 2) := by decide +kernel
theorem dX12_token_25 : decode cX12_token 25 = .ok (.aload_n 0, 1) := by decide +kernel
theorem dX12_token_26 : decode cX12_token 26 = .ok (.dup, 1) := by decide +kernel
theorem dX12_token_30 : decode cX12_token 30 = .ok (.iconst 1, 1) := by decide +kernel
theorem dX12_token_31 : decode cX12_token 31 = .ok (.iadd, 1) := by decide +kernel
theorem dX12_token_35 : decode cX12_token 35 = .ok (.goto (-35), 3) := by decide +kernel
theorem dX12_token_32 : decode cX12_token 32 = .ok (.putfield 121, 3) := by decide +kernel
theorem dX12_token_27 : decode cX12_token 27 = .ok (.getfield 121, 3) := by decide +kernel
theorem dX12_token_22 : decode cX12_token 22 = .ok (.if_icmp .ne 16, 3) := by decide +kernel
theorem dX12_token_19 : decode cX12_token 19 = .ok (.baload, 1) := by decide +kernel
theorem dX12_token_16 : decode cX12_token 16 = .ok (.getfield 121, 3) := by decide +kernel
theorem dX12_token_12 : decode cX12_token 12 = .ok (.getfield 17, 3) := by decide +kernel
theorem dX12_token_8 : decode cX12_token 8 = .ok (.if_icmp .ge 30, 3) := by decide +kernel
theorem dX12_token_5 : decode cX12_token 5 = .ok (.getfield 124, 3) := by decide +kernel
theorem dX12_token_1 : decode cX12_token 1 = .ok (.getfield 121, 3) := by decide +kernel
theorem dX12_token_46 : decode cX12_token 46 = .ok (.aload_n 0, 1) := by decide +kernel
theorem dX12_token_50 : decode cX12_token 50 = .ok (.aload_n 0, 1) := by decide +kernel
theorem dX12_token_84 : decode cX12_token 84 = .ok (.aload_n 0, 1) := by decide +kernel
theorem dX12_token_85 : decode cX12_token 85 = .ok (.aload_n 0, 1) := by decide +kernel
theorem dX12_token_89 : decode cX12_token 89 = .ok (.aload_n 0, 1) := by decide +kernel
theorem dX12_token_93 : decode cX12_token 93 = .ok (.isub, 1) := by decide +kernel
theorem dX12_token_97 : decode cX12_token 97 = .ok (.aload_n 0, 1) := by decide +kernel
theorem dX12_token_108 : decode cX12_token 108 = .ok (.iconst 0, 1) := by decide +kernel
theorem dX12_token_109 : decode cX12_token 109 = .ok (.ireturn, 1) := by decide +kernel
theorem dX12_token_104 : decode cX12_token 104 = .ok (.iconst 1, 1) := by decide +kernel
theorem dX12_token_105 : decode cX12_token 105 = .ok (.goto 4, 3) := by decide +kernel
theorem dX12_token_101 : decode cX12_token 101 = .ok (.ifCond .le 7, 3) := by decide +kernel
theorem dX12_token_98 : decode cX12_token 98 = .ok (.getfield 130, 3) := by decide +kernel
theorem dX12_token_94 : decode cX12_token 94 = .ok (.putfield 130, 3) := by decide +kernel
theorem dX12_token_90 : decode cX12_token 90 = .ok (.getfield 127, 3) := by decide +kernel
theorem dX12_token_86 : decode cX12_token 86 = .ok (.getfield 121, 3) := by decide +kernel
theorem dX12_token_57 : decode cX12_token 57 = .ok (.aload_n 0, 1) := by decide +kernel
theorem dX12_token_61 : decode cX12_token 61 = .ok (.aload_n 0, 1) := by decide +kernel
theorem dX12_token_66 : decode cX12_token 66 = .ok (.bipush 32, 2) := by decide +kernel
theorem dX12_token_71 : decode cX12_token 71 = .ok (.aload_n 0, 1) := by decide +kernel
theorem dX12_token_72 : decode cX12_token 72 = .ok (.dup, 1) := by decide +kernel
theorem dX12_token_76 : decode cX12_token 76 = .ok (.iconst 1, 1) := by decide +kernel
theorem dX12_token_77 : decode cX12_token 77 = .ok (.iadd, 1) := by decide +kernel
theorem dX12_token_81 : decode cX12_token 81 = .ok (.goto (-35), 3) := by decide +kernel
theorem dX12_token_78 : decode cX12_token 78 = .ok (.putfield 121, 3) := by decide +kernel
theorem dX12_token_73 : decode cX12_token 73 = .ok (.getfield 121, 3) := by decide +kernel
theorem dX12_token_68 : decode cX12_token 68 = .ok (.if_icmp .eq 16, 3) := by decide +kernel
theorem dX12_token_65 : decode cX12_token 65 = .ok (.baload, 1) := by decide +kernel
theorem dX12_token_62 : decode cX12_token 62 = .ok (.getfield 121, 3) := by decide +kernel
theorem dX12_token_58 : decode cX12_token 58 = .ok (.getfield 17, 3) := by decide +kernel
theorem dX12_token_54 : decode cX12_token 54 = .ok (.if_icmp .ge 30, 3) := by decide +kernel
theorem dX12_token_51 : decode cX12_token 51 = .ok (.getfield 124, 3) := by decide +kernel
theorem dX12_token_47 : decode cX12_token 47 = .ok (.getfield 121, 3) := by decide +kernel
def wr_173 (c k : Nat) : Bool := (Nat.beq c 94 && (Nat.beq k 67 || Nat.beq k 68 || Nat.beq k 69))
theorem g_173_0 {X : Nat × (Nat → Int32)} {m : Nat → Nat → Int32} {P : Option ma_V → (Nat → Nat → Int32) → Prop}  (h : if (m 94 4) ≤ (m 94 67) then (zm X 0 0 173 46 [(0, .inr (.inr (some 94)))] (ma_u m 94 68 (m 94 67)) P) else ((0 ≤ (m 94 67) ∧ (m 94 67).toNatClampNeg < 100) ∧ (if (m 96 (m 94 67).toNatClampNeg) = (32 : Int32) then (zm X 0 0 173 0 [(0, .inr (.inr (some 94)))] (ma_u m 94 67 ((m 94 67) + (1 : Int32))) P) else (zm X 0 0 173 46 [(0, .inr (.inr (some 94)))] (ma_u m 94 68 (m 94 67)) P)))) : zm X 0 0 173 0 [(0, .inr (.inr (some 94)))] m P := by
  intro d w S Q hd hw hS hm HQ
  subst hm
  refine zw_push hm_173 dX12_token_0 (v := .inr (.inr (some 94))) rfl ?_
  refine zw_gf hm_173 dX12_token_1 (v := .inl ((mI S) 94 67)) (zT_is hS s_94) (zT_t hS s_94) rfl f_12_121_12 rfl ?_
  refine zw_push hm_173 dX12_token_4 (v := .inr (.inr (some 94))) rfl ?_
  refine zw_gf hm_173 dX12_token_5 (v := .inl ((mI S) 94 4)) (zT_is hS s_94) (zT_t hS s_94) rfl f_12_124_12 rfl ?_
  refine zw_if2 hm_173 dX12_token_8 (t := 38) rfl zc2_ge ?_ ?_
  · intro hc
    rw [if_pos hc] at h
    refine zw_push hm_173 dX12_token_38 (v := .inr (.inr (some 94))) rfl ?_
    refine zw_push hm_173 dX12_token_39 (v := .inr (.inr (some 94))) rfl ?_
    refine zw_gf hm_173 dX12_token_40 (v := .inl ((mI S) 94 67)) (zT_is hS s_94) (zT_t hS s_94) rfl f_12_121_12 rfl ?_
    refine zw_pf hm_173 dX12_token_43 (zT_is hS s_94) (zT_t hS s_94) p_12_127_12 zk_int ?_
    exact (h d w _ Q (by omega) (by omega) (zT_pi hS) rfl HQ)
  · intro hc
    rw [if_neg hc] at h
    refine zw_push hm_173 dX12_token_11 (v := .inr (.inr (some 94))) rfl ?_
    refine zw_gf hm_173 dX12_token_12 (v := .inr (.inr (some 96))) (zT_is hS s_94) (zT_t hS s_94) rfl f_12_17_12 (zT_f hS r_94_2) ?_
    refine zw_push hm_173 dX12_token_15 (v := .inr (.inr (some 94))) rfl ?_
    refine zw_gf hm_173 dX12_token_16 (v := .inl ((mI S) 94 67)) (zT_is hS s_94) (zT_t hS s_94) rfl f_12_121_12 rfl ?_
    obtain ⟨hg, h⟩ := h
    refine zw_ba hm_173 dX12_token_19 (zT_is hS s_96) (zT_h hS s_96) rfl rfl hg ?_
    show ma_wp X d w 173 20 [(0, .inr (.inr (some 94)))] [.inl ((mI S) 96 ((mI S) 94 67).toNatClampNeg)] S _
    refine zw_push hm_173 dX12_token_20 (v := .inl (32 : Int32)) rfl ?_
    refine zw_if2 hm_173 dX12_token_22 (t := 38) rfl zc2_ne ?_ ?_
    · intro hc
      rw [if_neg hc] at h
      refine zw_push hm_173 dX12_token_38 (v := .inr (.inr (some 94))) rfl ?_
      refine zw_push hm_173 dX12_token_39 (v := .inr (.inr (some 94))) rfl ?_
      refine zw_gf hm_173 dX12_token_40 (v := .inl ((mI S) 94 67)) (zT_is hS s_94) (zT_t hS s_94) rfl f_12_121_12 rfl ?_
      refine zw_pf hm_173 dX12_token_43 (zT_is hS s_94) (zT_t hS s_94) p_12_127_12 zk_int ?_
      exact (h d w _ Q (by omega) (by omega) (zT_pi hS) rfl HQ)
    · intro hc
      rw [if_pos (Classical.not_not.mp hc)] at h
      refine zw_push hm_173 dX12_token_25 (v := .inr (.inr (some 94))) rfl ?_
      refine zw_stk hm_173 dX12_token_26 (st' := [.inr (.inr (some 94)), .inr (.inr (some 94))]) rfl rfl ?_
      refine zw_gf hm_173 dX12_token_27 (v := .inl ((mI S) 94 67)) (zT_is hS s_94) (zT_t hS s_94) rfl f_12_121_12 rfl ?_
      refine zw_push hm_173 dX12_token_30 (v := .inl (1 : Int32)) rfl ?_
      refine zw_stk hm_173 dX12_token_31 (st' := [.inl (((mI S) 94 67) + (1 : Int32)), .inr (.inr (some 94))]) rfl rfl ?_
      refine zw_pf hm_173 dX12_token_32 (zT_is hS s_94) (zT_t hS s_94) p_12_121_12 zk_int ?_
      refine zw_goto hm_173 dX12_token_35 (t := 0) rfl ?_
      exact (h d w _ Q (by omega) (by omega) (zT_pi hS) rfl HQ)
theorem g_173_46 {X : Nat × (Nat → Int32)} {m : Nat → Nat → Int32} {P : Option ma_V → (Nat → Nat → Int32) → Prop}  (h : if (m 94 4) ≤ (m 94 67) then (if ((m 94 67) - (m 94 68)) ≤ 0 then (P (some (.inl (0 : Int32))) (ma_u m 94 69 ((m 94 67) - (m 94 68)))) else (P (some (.inl (1 : Int32))) (ma_u m 94 69 ((m 94 67) - (m 94 68))))) else ((0 ≤ (m 94 67) ∧ (m 94 67).toNatClampNeg < 100) ∧ (if (m 96 (m 94 67).toNatClampNeg) = (32 : Int32) then (if ((m 94 67) - (m 94 68)) ≤ 0 then (P (some (.inl (0 : Int32))) (ma_u m 94 69 ((m 94 67) - (m 94 68)))) else (P (some (.inl (1 : Int32))) (ma_u m 94 69 ((m 94 67) - (m 94 68))))) else (zm X 0 0 173 46 [(0, .inr (.inr (some 94)))] (ma_u m 94 67 ((m 94 67) + (1 : Int32))) P)))) : zm X 0 0 173 46 [(0, .inr (.inr (some 94)))] m P := by
  intro d w S Q hd hw hS hm HQ
  subst hm
  refine zw_push hm_173 dX12_token_46 (v := .inr (.inr (some 94))) rfl ?_
  refine zw_gf hm_173 dX12_token_47 (v := .inl ((mI S) 94 67)) (zT_is hS s_94) (zT_t hS s_94) rfl f_12_121_12 rfl ?_
  refine zw_push hm_173 dX12_token_50 (v := .inr (.inr (some 94))) rfl ?_
  refine zw_gf hm_173 dX12_token_51 (v := .inl ((mI S) 94 4)) (zT_is hS s_94) (zT_t hS s_94) rfl f_12_124_12 rfl ?_
  refine zw_if2 hm_173 dX12_token_54 (t := 84) rfl zc2_ge ?_ ?_
  · intro hc
    rw [if_pos hc] at h
    refine zw_push hm_173 dX12_token_84 (v := .inr (.inr (some 94))) rfl ?_
    refine zw_push hm_173 dX12_token_85 (v := .inr (.inr (some 94))) rfl ?_
    refine zw_gf hm_173 dX12_token_86 (v := .inl ((mI S) 94 67)) (zT_is hS s_94) (zT_t hS s_94) rfl f_12_121_12 rfl ?_
    refine zw_push hm_173 dX12_token_89 (v := .inr (.inr (some 94))) rfl ?_
    refine zw_gf hm_173 dX12_token_90 (v := .inl ((mI S) 94 68)) (zT_is hS s_94) (zT_t hS s_94) rfl f_12_127_12 rfl ?_
    refine zw_stk hm_173 dX12_token_93 (st' := [.inl (((mI S) 94 67) - ((mI S) 94 68)), .inr (.inr (some 94))]) rfl rfl ?_
    refine zw_pf hm_173 dX12_token_94 (zT_is hS s_94) (zT_t hS s_94) p_12_130_12 zk_int ?_
    refine zw_push hm_173 dX12_token_97 (v := .inr (.inr (some 94))) rfl ?_
    refine zw_gf hm_173 dX12_token_98 (v := .inl (((mI S) 94 67) - ((mI S) 94 68))) (zT_is (zT_pi hS) s_94) (zT_t (zT_pi hS) s_94) rfl f_12_130_12 rfl ?_
    refine zw_if0 hm_173 dX12_token_101 (t := 108) rfl zc0_le ?_ ?_
    · intro hc
      rw [if_pos hc] at h
      refine zw_push hm_173 dX12_token_108 (v := .inl (0 : Int32)) rfl ?_
      exact zw_bret hm_173 dX12_token_109 (by decide) (HQ _ _ h)
    · intro hc
      rw [if_neg hc] at h
      refine zw_push hm_173 dX12_token_104 (v := .inl (1 : Int32)) rfl ?_
      refine zw_goto hm_173 dX12_token_105 (t := 109) rfl ?_
      exact zw_bret hm_173 dX12_token_109 (by decide) (HQ _ _ h)
  · intro hc
    rw [if_neg hc] at h
    refine zw_push hm_173 dX12_token_57 (v := .inr (.inr (some 94))) rfl ?_
    refine zw_gf hm_173 dX12_token_58 (v := .inr (.inr (some 96))) (zT_is hS s_94) (zT_t hS s_94) rfl f_12_17_12 (zT_f hS r_94_2) ?_
    refine zw_push hm_173 dX12_token_61 (v := .inr (.inr (some 94))) rfl ?_
    refine zw_gf hm_173 dX12_token_62 (v := .inl ((mI S) 94 67)) (zT_is hS s_94) (zT_t hS s_94) rfl f_12_121_12 rfl ?_
    obtain ⟨hg, h⟩ := h
    refine zw_ba hm_173 dX12_token_65 (zT_is hS s_96) (zT_h hS s_96) rfl rfl hg ?_
    show ma_wp X d w 173 66 [(0, .inr (.inr (some 94)))] [.inl ((mI S) 96 ((mI S) 94 67).toNatClampNeg)] S _
    refine zw_push hm_173 dX12_token_66 (v := .inl (32 : Int32)) rfl ?_
    refine zw_if2 hm_173 dX12_token_68 (t := 84) rfl zc2_eq ?_ ?_
    · intro hc
      rw [if_pos hc] at h
      refine zw_push hm_173 dX12_token_84 (v := .inr (.inr (some 94))) rfl ?_
      refine zw_push hm_173 dX12_token_85 (v := .inr (.inr (some 94))) rfl ?_
      refine zw_gf hm_173 dX12_token_86 (v := .inl ((mI S) 94 67)) (zT_is hS s_94) (zT_t hS s_94) rfl f_12_121_12 rfl ?_
      refine zw_push hm_173 dX12_token_89 (v := .inr (.inr (some 94))) rfl ?_
      refine zw_gf hm_173 dX12_token_90 (v := .inl ((mI S) 94 68)) (zT_is hS s_94) (zT_t hS s_94) rfl f_12_127_12 rfl ?_
      refine zw_stk hm_173 dX12_token_93 (st' := [.inl (((mI S) 94 67) - ((mI S) 94 68)), .inr (.inr (some 94))]) rfl rfl ?_
      refine zw_pf hm_173 dX12_token_94 (zT_is hS s_94) (zT_t hS s_94) p_12_130_12 zk_int ?_
      refine zw_push hm_173 dX12_token_97 (v := .inr (.inr (some 94))) rfl ?_
      refine zw_gf hm_173 dX12_token_98 (v := .inl (((mI S) 94 67) - ((mI S) 94 68))) (zT_is (zT_pi hS) s_94) (zT_t (zT_pi hS) s_94) rfl f_12_130_12 rfl ?_
      refine zw_if0 hm_173 dX12_token_101 (t := 108) rfl zc0_le ?_ ?_
      · intro hc
        rw [if_pos hc] at h
        refine zw_push hm_173 dX12_token_108 (v := .inl (0 : Int32)) rfl ?_
        exact zw_bret hm_173 dX12_token_109 (by decide) (HQ _ _ h)
      · intro hc
        rw [if_neg hc] at h
        refine zw_push hm_173 dX12_token_104 (v := .inl (1 : Int32)) rfl ?_
        refine zw_goto hm_173 dX12_token_105 (t := 109) rfl ?_
        exact zw_bret hm_173 dX12_token_109 (by decide) (HQ _ _ h)
    · intro hc
      rw [if_neg hc] at h
      refine zw_push hm_173 dX12_token_71 (v := .inr (.inr (some 94))) rfl ?_
      refine zw_stk hm_173 dX12_token_72 (st' := [.inr (.inr (some 94)), .inr (.inr (some 94))]) rfl rfl ?_
      refine zw_gf hm_173 dX12_token_73 (v := .inl ((mI S) 94 67)) (zT_is hS s_94) (zT_t hS s_94) rfl f_12_121_12 rfl ?_
      refine zw_push hm_173 dX12_token_76 (v := .inl (1 : Int32)) rfl ?_
      refine zw_stk hm_173 dX12_token_77 (st' := [.inl (((mI S) 94 67) + (1 : Int32)), .inr (.inr (some 94))]) rfl rfl ?_
      refine zw_pf hm_173 dX12_token_78 (zT_is hS s_94) (zT_t hS s_94) p_12_121_12 zk_int ?_
      refine zw_goto hm_173 dX12_token_81 (t := 46) rfl ?_
      exact (h d w _ Q (by omega) (by omega) (zT_pi hS) rfl HQ)
theorem lp_173_46 {X : Nat × (Nat → Int32)} {P : Option ma_V → (Nat → Nat → Int32) → Prop} {m0 : Nat → Nat → Int32} (h0 : zV m0) (K : ∀ v m', zF wr_173 m0 m' → zV m' → (v = 0 ∨ v = 1) → ((m' 94 67).toInt ≤ (m' 94 4).toInt ∧ (m' 94 68).toInt + (m' 94 69).toInt = (m' 94 67).toInt) → P (some (.inl v)) m') : ∀ (n : Nat) (m : Nat → Nat → Int32) , ((m 94 4).toInt - (m 94 67).toInt).toNat = n → zF wr_173 m0 m → zV m → ((m 94 67).toInt ≤ (m 94 4).toInt ∧ (m 94 68).toInt ≤ (m 94 67).toInt) → zm X 0 0 173 46 [(0, .inr (.inr (some 94)))] m P := by
  intro n
  induction n using Nat.strongRecOn with
  | _ n IH =>
    intro m  hmu hF hV hi0
    refine g_173_46  ?_
    have f1 : 0 ≤ (m 94 67).toInt ∧ (m 94 67).toInt ≤ 100 := rs_94_67 (m := m) hV
    have f2 : 0 ≤ (m 94 4).toInt ∧ (m 94 4).toInt ≤ 100 := rs_94_4 (m := m) hV
    have f3 : 0 ≤ (m 94 68).toInt ∧ (m 94 68).toInt ≤ 100 := rs_94_68 (m := m) hV
    refine zd (fun (h4 : (m 94 4) ≤ (m 94 67)) => ?_) (fun (h4 : ¬ (m 94 4) ≤ (m 94 67)) => ?_)
    · skip
      have g5 := i_le h4
      first | have e6 : ((m 94 67) - (m 94 68)).toInt = (m 94 67).toInt - (m 94 68).toInt := i_sub (by omega) (by omega) | have b7 := i_bd ((m 94 67) - (m 94 68))
      have li8 : (0 : Int32).toInt = 0 := rfl
      refine zd (fun (h9 : ((m 94 67) - (m 94 68)) ≤ (0 : Int32)) => ?_) (fun (h9 : ¬ ((m 94 67) - (m 94 68)) ≤ (0 : Int32)) => ?_)
      · skip
        have g10 := i_le h9
        have hV11 : zV (ma_u m 94 69 ((m 94 67) - (m 94 68))) := us_94_69 hV (by omega) (by omega)
        exact K ((0 : Int32)) _ (zF_u hF rfl) hV11 (by decide) (show (m 94 67).toInt ≤ (m 94 4).toInt ∧ (m 94 68).toInt + ((m 94 67) - (m 94 68)).toInt = (m 94 67).toInt from by omega)
      · skip
        have g12 := i_nle h9
        have hV13 : zV (ma_u m 94 69 ((m 94 67) - (m 94 68))) := us_94_69 hV (by omega) (by omega)
        have li14 : (1 : Int32).toInt = 1 := rfl
        exact K ((1 : Int32)) _ (zF_u hF rfl) hV13 (by decide) (show (m 94 67).toInt ≤ (m 94 4).toInt ∧ (m 94 68).toInt + ((m 94 67) - (m 94 68)).toInt = (m 94 67).toInt from by omega)
    · skip
      have g15 := i_nle h4
      have hg16 : (0 ≤ (m 94 67) ∧ (m 94 67).toNatClampNeg < 100) := i_ix (by omega) (by omega)
      refine ⟨hg16, ?_⟩
      have b17 := i_bd (m 96 (m 94 67).toNatClampNeg)
      have li18 : (32 : Int32).toInt = 32 := rfl
      refine zd (fun (h19 : (m 96 (m 94 67).toNatClampNeg) = (32 : Int32)) => ?_) (fun (h19 : ¬ (m 96 (m 94 67).toNatClampNeg) = (32 : Int32)) => ?_)
      · skip
        have g20 := i_eq h19
        first | have e21 : ((m 94 67) - (m 94 68)).toInt = (m 94 67).toInt - (m 94 68).toInt := i_sub (by omega) (by omega) | have b22 := i_bd ((m 94 67) - (m 94 68))
        have li23 : (0 : Int32).toInt = 0 := rfl
        refine zd (fun (h24 : ((m 94 67) - (m 94 68)) ≤ (0 : Int32)) => ?_) (fun (h24 : ¬ ((m 94 67) - (m 94 68)) ≤ (0 : Int32)) => ?_)
        · skip
          have g25 := i_le h24
          have hV26 : zV (ma_u m 94 69 ((m 94 67) - (m 94 68))) := us_94_69 hV (by omega) (by omega)
          exact K ((0 : Int32)) _ (zF_u hF rfl) hV26 (by decide) (show (m 94 67).toInt ≤ (m 94 4).toInt ∧ (m 94 68).toInt + ((m 94 67) - (m 94 68)).toInt = (m 94 67).toInt from by omega)
        · skip
          have g27 := i_nle h24
          have hV28 : zV (ma_u m 94 69 ((m 94 67) - (m 94 68))) := us_94_69 hV (by omega) (by omega)
          have li29 : (1 : Int32).toInt = 1 := rfl
          exact K ((1 : Int32)) _ (zF_u hF rfl) hV28 (by decide) (show (m 94 67).toInt ≤ (m 94 4).toInt ∧ (m 94 68).toInt + ((m 94 67) - (m 94 68)).toInt = (m 94 67).toInt from by omega)
      · skip
        have g30 := i_ne h19
        first | have e32 : ((m 94 67) + (1 : Int32)).toInt = (m 94 67).toInt + (1) := i_addk rfl (by omega) (by omega) | have b33 := i_bd ((m 94 67) + (1 : Int32))
        have hV31 : zV (ma_u m 94 67 ((m 94 67) + (1 : Int32))) := us_94_67 hV (by omega) (by omega)
        exact IH ((m 94 4).toInt - ((m 94 67) + (1 : Int32)).toInt).toNat (by omega) _  rfl (zF_u hF rfl) hV31 (show ((m 94 67) + (1 : Int32)).toInt ≤ (m 94 4).toInt ∧ (m 94 68).toInt ≤ ((m 94 67) + (1 : Int32)).toInt from by omega)
theorem lp_173_0 {X : Nat × (Nat → Int32)} {P : Option ma_V → (Nat → Nat → Int32) → Prop} {m0 : Nat → Nat → Int32} (h0 : zV m0) (K : ∀ v m', zF wr_173 m0 m' → zV m' → (v = 0 ∨ v = 1) → ((m' 94 67).toInt ≤ (m' 94 4).toInt ∧ (m' 94 68).toInt + (m' 94 69).toInt = (m' 94 67).toInt) → P (some (.inl v)) m') : ∀ (n : Nat) (m : Nat → Nat → Int32) , ((m 94 4).toInt - (m 94 67).toInt).toNat = n → zF wr_173 m0 m → zV m → ((m 94 67).toInt ≤ (m 94 4).toInt) → zm X 0 0 173 0 [(0, .inr (.inr (some 94)))] m P := by
  intro n
  induction n using Nat.strongRecOn with
  | _ n IH =>
    intro m  hmu hF hV hi0
    refine g_173_0  ?_
    have f1 : 0 ≤ (m 94 67).toInt ∧ (m 94 67).toInt ≤ 100 := rs_94_67 (m := m) hV
    have f2 : 0 ≤ (m 94 4).toInt ∧ (m 94 4).toInt ≤ 100 := rs_94_4 (m := m) hV
    refine zd (fun (h3 : (m 94 4) ≤ (m 94 67)) => ?_) (fun (h3 : ¬ (m 94 4) ≤ (m 94 67)) => ?_)
    · skip
      have g4 := i_le h3
      have hV5 : zV (ma_u m 94 68 (m 94 67)) := us_94_68 hV (by omega) (by omega)
      exact lp_173_46 h0 K _ _  rfl (zF_u hF rfl) hV5 (show (m 94 67).toInt ≤ (m 94 4).toInt ∧ (m 94 67).toInt ≤ (m 94 67).toInt from by omega)
    · skip
      have g6 := i_nle h3
      have hg7 : (0 ≤ (m 94 67) ∧ (m 94 67).toNatClampNeg < 100) := i_ix (by omega) (by omega)
      refine ⟨hg7, ?_⟩
      have b8 := i_bd (m 96 (m 94 67).toNatClampNeg)
      have li9 : (32 : Int32).toInt = 32 := rfl
      refine zd (fun (h10 : (m 96 (m 94 67).toNatClampNeg) = (32 : Int32)) => ?_) (fun (h10 : ¬ (m 96 (m 94 67).toNatClampNeg) = (32 : Int32)) => ?_)
      · skip
        have g11 := i_eq h10
        first | have e13 : ((m 94 67) + (1 : Int32)).toInt = (m 94 67).toInt + (1) := i_addk rfl (by omega) (by omega) | have b14 := i_bd ((m 94 67) + (1 : Int32))
        have hV12 : zV (ma_u m 94 67 ((m 94 67) + (1 : Int32))) := us_94_67 hV (by omega) (by omega)
        exact IH ((m 94 4).toInt - ((m 94 67) + (1 : Int32)).toInt).toNat (by omega) _  rfl (zF_u hF rfl) hV12 (show ((m 94 67) + (1 : Int32)).toInt ≤ (m 94 4).toInt from by omega)
      · skip
        have g15 := i_ne h10
        have hV16 : zV (ma_u m 94 68 (m 94 67)) := us_94_68 hV (by omega) (by omega)
        exact lp_173_46 h0 K _ _  rfl (zF_u hF rfl) hV16 (show (m 94 67).toInt ≤ (m 94 4).toInt ∧ (m 94 67).toInt ≤ (m 94 67).toInt from by omega)
theorem sp_173 {X : Nat × (Nat → Int32)} {P : Option ma_V → (Nat → Nat → Int32) → Prop} {m : Nat → Nat → Int32}  (hV : zV m) (hpre0 : (m 94 67).toInt ≤ (m 94 4).toInt) (KZ : ∀ v m', zV (zov wr_173 m m') → (v = 0 ∨ v = 1) → ((m' 94 67).toInt ≤ (m 94 4).toInt ∧ (m' 94 68).toInt + (m' 94 69).toInt = (m' 94 67).toInt) → P (some (.inl v)) (zov wr_173 m m')) : zm X 0 0 173 0 [(0, .inr (.inr (some 94)))] m P := by
  have K : ∀ v m', zF wr_173 m m' → zV m' → (v = 0 ∨ v = 1) → ((m' 94 67).toInt ≤ (m' 94 4).toInt ∧ (m' 94 68).toInt + (m' 94 69).toInt = (m' 94 67).toInt) → P (some (.inl v)) m' := by
    intro v m' hf z q0 q1
    have e := zov_eq hf
    rw [e] at z ⊢
    try rw [e] at q0
    try rw [e] at q1
    exact KZ v m' z q0 q1
  have f1 : 0 ≤ (m 94 67).toInt ∧ (m 94 67).toInt ≤ 100 := rs_94_67 (m := m) hV
  have f2 : 0 ≤ (m 94 4).toInt ∧ (m 94 4).toInt ≤ 100 := rs_94_4 (m := m) hV
  exact lp_173_0 hV K _ _  rfl zF_rfl hV (show (m 94 67).toInt ≤ (m 94 4).toInt from by omega)
