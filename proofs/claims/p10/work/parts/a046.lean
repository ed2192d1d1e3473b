/-! from 95.s18 -/
/-! REGIONS, the class (written by wip/tools/gen15z.py) -/
theorem g_49_91_sz_0 {X : Nat × (Nat → Int32)} {d w : Nat} {S : ma_S} {Q : Option ma_V ⊕ Nat → ma_S → Prop} (r1 : Int32) (hd : 3 ≤ d) (hw : 114 ≤ w) (hS : zT S) (h : if r1 < 0 then (ma_wp X d w 49 15 [(0, .inr (.inr (some 91))), (1, .inl r1), (2, .inl (r1 * (mI S 91 2))), (3, .inl ((r1 * (mI S 91 2)) + (0 : Int32)))] [] S Q) else (if (93 : Int32) ≤ r1 then (ma_wp X d w 49 15 [(0, .inr (.inr (some 91))), (1, .inl r1), (2, .inl (r1 * (mI S 91 2))), (3, .inl ((r1 * (mI S 91 2)) + (0 : Int32)))] [] S Q) else ((0 ≤ r1 ∧ r1.toNatClampNeg < 93) ∧ (ma_wp X d w 49 15 [(0, .inr (.inr (some 91))), (1, .inl r1), (2, .inl (r1 * (mI S 91 2))), (3, .inl ((r1 * (mI S 91 2)) + (mI S 92 r1.toNatClampNeg)))] [] S Q)))) : ma_wp X d w 49 0 [(0, .inr (.inr (some 91))), (1, .inl r1)] [] S Q := by
  refine zw_push hm_49 dX4_moveAll_0 (v := .inl r1) rfl ?_
  refine zw_push hm_49 dX4_moveAll_1 (v := .inr (.inr (some 91))) rfl ?_
  refine zw_gf hm_49 dX4_moveAll_2 (v := .inl (mI S 91 2)) (zT_is hS s_91) (zT_t hS s_91) rfl f_4_18_4 rfl ?_
  refine zw_stk hm_49 dX4_moveAll_5 (st₉ := [.inl (r1 * (mI S 91 2))]) rfl rfl ?_
  refine zw_sto hm_49 dX4_moveAll_6 [(2, .inl (r1 * (mI S 91 2))), (0, .inr (.inr (some 91))), (1, .inl r1)] rfl rfl rfl ?_
  refine zw_push hm_49 dX4_moveAll_7 (v := .inl (r1 * (mI S 91 2))) rfl ?_
  refine zw_push hm_49 dX4_moveAll_8 (v := .inr (.inr (some 91))) rfl ?_
  refine zw_push hm_49 dX4_moveAll_9 (v := .inl r1) rfl ?_
  refine zw_cv hm_49 dX4_moveAll_10 v_4_93_4 hm_50 [.inl r1] [.inl (r1 * (mI S 91 2))] rfl (zT_rt hS s_91 rfl) ⟨by omega, by omega⟩ rfl ?_
  show ma_wp X (d - 1) (w - 21) 50 0 [(0, .inr (.inr (some 91))), (1, .inl r1)] [] S _
  refine zw_push hm_50 dX4_topOf_0 (v := .inl r1) rfl ?_
  refine zw_if0 hm_50 dX4_topOf_1 (t := 19) rfl zc0_lt ?_ ?_
  · intro hc
    rw [if_pos hc] at h
    refine zw_push hm_50 dX4_topOf_19 (v := .inl (0 : Int32)) rfl ?_
    refine zw_iret hm_50 dX4_topOf_20 ?_
    show ma_wp X d w 49 13 [(2, .inl (r1 * (mI S 91 2))), (0, .inr (.inr (some 91))), (1, .inl r1)] [.inl (0 : Int32), .inl (r1 * (mI S 91 2))] S _
    refine zw_stk hm_49 dX4_moveAll_13 (st₉ := [.inl ((r1 * (mI S 91 2)) + (0 : Int32))]) rfl rfl ?_
    refine zw_sto hm_49 dX4_moveAll_14 [(3, .inl ((r1 * (mI S 91 2)) + (0 : Int32))), (2, .inl (r1 * (mI S 91 2))), (0, .inr (.inr (some 91))), (1, .inl r1)] rfl rfl rfl ?_
    exact zw_sub (ma_nd_of (ks := [0, 1, 2, 3]) rfl (by decide)) (ma_nd_of (ks := [3, 2, 0, 1]) rfl (by decide)) (ma_le_cons rfl (ma_le_cons rfl (ma_le_cons rfl (ma_le_cons rfl (ma_le_nil _))))) h
  · intro hc
    rw [if_neg hc] at h
    refine zw_push hm_50 dX4_topOf_4 (v := .inl r1) rfl ?_
    refine zw_push hm_50 dX4_topOf_5 (v := .inl (93 : Int32)) rfl ?_
    refine zw_if2 hm_50 dX4_topOf_7 (t := 19) rfl zc2_ge ?_ ?_
    · intro hc
      rw [if_pos hc] at h
      refine zw_push hm_50 dX4_topOf_19 (v := .inl (0 : Int32)) rfl ?_
      refine zw_iret hm_50 dX4_topOf_20 ?_
      show ma_wp X d w 49 13 [(2, .inl (r1 * (mI S 91 2))), (0, .inr (.inr (some 91))), (1, .inl r1)] [.inl (0 : Int32), .inl (r1 * (mI S 91 2))] S _
      refine zw_stk hm_49 dX4_moveAll_13 (st₉ := [.inl ((r1 * (mI S 91 2)) + (0 : Int32))]) rfl rfl ?_
      refine zw_sto hm_49 dX4_moveAll_14 [(3, .inl ((r1 * (mI S 91 2)) + (0 : Int32))), (2, .inl (r1 * (mI S 91 2))), (0, .inr (.inr (some 91))), (1, .inl r1)] rfl rfl rfl ?_
      exact zw_sub (ma_nd_of (ks := [0, 1, 2, 3]) rfl (by decide)) (ma_nd_of (ks := [3, 2, 0, 1]) rfl (by decide)) (ma_le_cons rfl (ma_le_cons rfl (ma_le_cons rfl (ma_le_cons rfl (ma_le_nil _))))) h
    · intro hc
      rw [if_neg hc] at h
      refine zw_push hm_50 dX4_topOf_10 (v := .inr (.inr (some 91))) rfl ?_
      refine zw_gf hm_50 dX4_topOf_11 (v := .inr (.inr (some 92))) (zT_is hS s_91) (zT_t hS s_91) rfl f_4_9_4 (zT_f hS r_91_7) ?_
      refine zw_push hm_50 dX4_topOf_14 (v := .inl r1) rfl ?_
      obtain ⟨hg, h⟩ := h
      refine zw_ia hm_50 dX4_topOf_15 (zT_is hS s_92) (zT_h hS s_92) rfl hg ?_
      show ma_wp X (d - 1) (w - 21) 50 16 [(0, .inr (.inr (some 91))), (1, .inl r1)] [.inl (mI S 92 r1.toNatClampNeg)] S _
      refine zw_goto hm_50 dX4_topOf_16 (t := 20) rfl ?_
      refine zw_iret hm_50 dX4_topOf_20 ?_
      show ma_wp X d w 49 13 [(2, .inl (r1 * (mI S 91 2))), (0, .inr (.inr (some 91))), (1, .inl r1)] [.inl (mI S 92 r1.toNatClampNeg), .inl (r1 * (mI S 91 2))] S _
      refine zw_stk hm_49 dX4_moveAll_13 (st₉ := [.inl ((r1 * (mI S 91 2)) + (mI S 92 r1.toNatClampNeg))]) rfl rfl ?_
      refine zw_sto hm_49 dX4_moveAll_14 [(3, .inl ((r1 * (mI S 91 2)) + (mI S 92 r1.toNatClampNeg))), (2, .inl (r1 * (mI S 91 2))), (0, .inr (.inr (some 91))), (1, .inl r1)] rfl rfl rfl ?_
      exact zw_sub (ma_nd_of (ks := [0, 1, 2, 3]) rfl (by decide)) (ma_nd_of (ks := [3, 2, 0, 1]) rfl (by decide)) (ma_le_cons rfl (ma_le_cons rfl (ma_le_cons rfl (ma_le_cons rfl (ma_le_nil _))))) h
theorem g_49_91_sz_15 {X : Nat × (Nat → Int32)} {d w : Nat} {S : ma_S} {Q : Option ma_V ⊕ Nat → ma_S → Prop} (l1 : Int32) (l2 : Int32) (l3 : Int32) (hd : 3 ≤ d) (hw : 136 ≤ w) (hS : zT S) (h : if l3 ≤ l2 then (if l1 < 0 then (Q (.inl (some (.inl (1 : Int32)))) S) else (if (93 : Int32) ≤ l1 then (Q (.inl (some (.inl (1 : Int32)))) S) else ((0 ≤ l1 ∧ l1.toNatClampNeg < 93) ∧ ((0 ≤ l1 ∧ l1.toNatClampNeg < 93) ∧ (Q (.inl (some (.inl (1 : Int32)))) (ma_put (ma_put S 93 l1.toNatClampNeg (.inl (0 : Int32))) 92 l1.toNatClampNeg (.inl (0 : Int32)))))))) else (if l2 < 0 then (ma_wp X d w 49 15 [(0, .inr (.inr (some 91))), (1, .inl l1), (2, .inl (l2 + (1 : Int32))), (3, .inl l3)] [] S Q) else (if (4500 : Int32) ≤ l2 then (ma_wp X d w 49 15 [(0, .inr (.inr (some 91))), (1, .inl l1), (2, .inl (l2 + (1 : Int32))), (3, .inl l3)] [] S Q) else ((0 ≤ l2 ∧ l2.toNatClampNeg < 4500) ∧ (if (mI S 71 l2.toNatClampNeg) < 0 then (ma_wp X d w 49 15 [(0, .inr (.inr (some 91))), (1, .inl l1), (2, .inl (l2 + (1 : Int32))), (3, .inl l3)] [] S Q) else (if (512 : Int32) ≤ (mI S 71 l2.toNatClampNeg) then (ma_wp X d w 49 15 [(0, .inr (.inr (some 91))), (1, .inl l1), (2, .inl (l2 + (1 : Int32))), (3, .inl l3)] [] S Q) else ((0 ≤ (mI S 71 l2.toNatClampNeg) ∧ (mI S 71 l2.toNatClampNeg).toNatClampNeg < 512) ∧ (((mR S 70 (mI S 71 l2.toNatClampNeg).toNatClampNeg) = none → ma_wp X d w 49 15 [(0, .inr (.inr (some 91))), (1, .inl l1), (2, .inl (l2 + (1 : Int32))), (3, .inl l3)] [] S Q) ∧ (∀ c1, (mR S 70 (mI S 71 l2.toNatClampNeg).toNatClampNeg) = some c1 → (126 ≤ c1 ∧ c1 < mN S) ∧ (ma_wp X (d - 1) (w - 22) 51 0 [(0, .inr (.inr (some 91))), (1, .inr (.inr (some c1)))] [] S (zi (fun v3 S2 => zT S2 ∧ (if v3 = 0 then (Q (.inl (some (.inl (0 : Int32)))) S2) else (ma_wp X d w 49 15 [(0, .inr (.inr (some 91))), (1, .inl l1), (2, .inl (l2 + (mI S c1 2))), (3, .inl l3)] [] S2 Q))) (fun x S9 => Q (.inr x) S9)))))))))))) : ma_wp X d w 49 15 [(0, .inr (.inr (some 91))), (1, .inl l1), (2, .inl l2), (3, .inl l3)] [] S Q := by
  refine zw_push hm_49 dX4_moveAll_15 (v := .inl l2) rfl ?_
  refine zw_push hm_49 dX4_moveAll_16 (v := .inl l3) rfl ?_
  refine zw_if2 hm_49 dX4_moveAll_17 (t := 63) rfl zc2_ge ?_ ?_
  · intro hc
    rw [if_pos hc] at h
    refine zw_push hm_49 dX4_moveAll_63 (v := .inl l1) rfl ?_
    refine zw_if0 hm_49 dX4_moveAll_64 (t := 87) rfl zc0_lt ?_ ?_
    · intro hc
      rw [if_pos hc] at h
      refine zw_push hm_49 dX4_moveAll_87 (v := .inl (1 : Int32)) rfl ?_
      exact zw_bret hm_49 dX4_moveAll_88 (by decide) h
    · intro hc
      rw [if_neg hc] at h
      refine zw_push hm_49 dX4_moveAll_67 (v := .inl l1) rfl ?_
      refine zw_push hm_49 dX4_moveAll_68 (v := .inl (93 : Int32)) rfl ?_
      refine zw_if2 hm_49 dX4_moveAll_70 (t := 87) rfl zc2_ge ?_ ?_
      · intro hc
        rw [if_pos hc] at h
        refine zw_push hm_49 dX4_moveAll_87 (v := .inl (1 : Int32)) rfl ?_
        exact zw_bret hm_49 dX4_moveAll_88 (by decide) h
      · intro hc
        rw [if_neg hc] at h
        refine zw_push hm_49 dX4_moveAll_73 (v := .inr (.inr (some 91))) rfl ?_
        refine zw_gf hm_49 dX4_moveAll_74 (v := .inr (.inr (some 93))) (zT_is hS s_91) (zT_t hS s_91) rfl f_4_15_4 (zT_f hS r_91_8) ?_
        refine zw_push hm_49 dX4_moveAll_77 (v := .inl l1) rfl ?_
        refine zw_push hm_49 dX4_moveAll_78 (v := .inl (0 : Int32)) rfl ?_
        obtain ⟨hg, h⟩ := h
        refine zw_ias hm_49 dX4_moveAll_79 (zT_is hS s_93) (zT_h hS s_93) rfl hg ?_
        refine zw_push hm_49 dX4_moveAll_80 (v := .inr (.inr (some 91))) rfl ?_
        refine zw_gf hm_49 dX4_moveAll_81 (v := .inr (.inr (some 92))) (zT_is (zT_pi hS) s_91) (zT_t (zT_pi hS) s_91) rfl f_4_9_4 (zT_f (zT_pi hS) r_91_7) ?_
        refine zw_push hm_49 dX4_moveAll_84 (v := .inl l1) rfl ?_
        refine zw_push hm_49 dX4_moveAll_85 (v := .inl (0 : Int32)) rfl ?_
        obtain ⟨hg, h⟩ := h
        refine zw_ias hm_49 dX4_moveAll_86 (zT_is (zT_pi hS) s_92) (zT_h (zT_pi hS) s_92) rfl hg ?_
        refine zw_push hm_49 dX4_moveAll_87 (v := .inl (1 : Int32)) rfl ?_
        exact zw_bret hm_49 dX4_moveAll_88 (by decide) h
  · intro hc
    rw [if_neg hc] at h
    refine zw_push hm_49 dX4_moveAll_20 (v := .inr (.inr (some 91))) rfl ?_
    refine zw_gf hm_49 dX4_moveAll_21 (v := .inr (.inr (some 69))) (zT_is hS s_91) (zT_t hS s_91) rfl f_4_100_4 (zT_f hS r_91_0) ?_
    refine zw_push hm_49 dX4_moveAll_24 (v := .inl l2) rfl ?_
    refine zw_cv hm_49 dX4_moveAll_25 v_4_120_7 hm_89 [.inl l2] [] rfl (zT_rt hS s_69 rfl) ⟨by omega, by omega⟩ rfl ?_
    show ma_wp X (d - 1) (w - 22) 89 0 [(0, .inr (.inr (some 69))), (1, .inl l2)] [] S _
    refine zw_push hm_89 dX7_thingFrom_0 (v := .inl l2) rfl ?_
    refine zw_if0 hm_89 dX7_thingFrom_1 (t := 20) rfl zc0_lt ?_ ?_
    · intro hc
      rw [if_pos hc] at h
      refine zw_push hm_89 dX7_thingFrom_20 (v := .inl (-1 : Int32)) rfl ?_
      refine zw_sto hm_89 dX7_thingFrom_21 [(2, .inl (-1 : Int32)), (0, .inr (.inr (some 69))), (1, .inl l2)] rfl rfl rfl ?_
      refine zw_push hm_89 dX7_thingFrom_22 (v := .inl (-1 : Int32)) rfl ?_
      refine zw_if0 hm_89 dX7_thingFrom_23 (t := 42) rfl zc0_lt (fun _ => ?_) (fun hc => absurd (by decide) hc)
      refine zw_push hm_89 dX7_thingFrom_42 (v := .inr (.inr none)) rfl ?_
      refine zw_aret hm_89 dX7_thingFrom_43 ?_
      show ma_wp X d w 49 28 [(0, .inr (.inr (some 91))), (1, .inl l1), (2, .inl l2), (3, .inl l3)] [.inr (.inr none)] S _
      refine zw_sto hm_49 dX4_moveAll_28 [(4, .inr (.inr none)), (0, .inr (.inr (some 91))), (1, .inl l1), (2, .inl l2), (3, .inl l3)] rfl rfl rfl ?_
      refine zw_push hm_49 dX4_moveAll_30 (v := .inr (.inr none)) rfl ?_
      refine zw_ifnonnull hm_49 dX4_moveAll_32 (t := 41) rfl (fun _ => ?_) (fun _ z => by cases z)
      refine zw_sto hm_49 dX4_moveAll_35 [(2, .inl (l2 + (1 : Int32))), (4, .inr (.inr none)), (0, .inr (.inr (some 91))), (1, .inl l1), (3, .inl l3)] rfl rfl rfl ?_
      refine zw_goto hm_49 dX4_moveAll_38 (t := 60) rfl ?_
      refine zw_goto hm_49 dX4_moveAll_60 (t := 15) rfl ?_
      exact zw_sub (ma_nd_of (ks := [0, 1, 2, 3]) rfl (by decide)) (ma_nd_of (ks := [2, 4, 0, 1, 3]) rfl (by decide)) (ma_le_cons rfl (ma_le_cons rfl (ma_le_cons rfl (ma_le_cons rfl (ma_le_nil _))))) h
    · intro hc
      rw [if_neg hc] at h
      refine zw_push hm_89 dX7_thingFrom_4 (v := .inl l2) rfl ?_
      refine zw_push hm_89 dX7_thingFrom_5 (v := .inl (4500 : Int32)) rfl ?_
      refine zw_if2 hm_89 dX7_thingFrom_8 (t := 20) rfl zc2_ge ?_ ?_
      · intro hc
        rw [if_pos hc] at h
        refine zw_push hm_89 dX7_thingFrom_20 (v := .inl (-1 : Int32)) rfl ?_
        refine zw_sto hm_89 dX7_thingFrom_21 [(2, .inl (-1 : Int32)), (0, .inr (.inr (some 69))), (1, .inl l2)] rfl rfl rfl ?_
        refine zw_push hm_89 dX7_thingFrom_22 (v := .inl (-1 : Int32)) rfl ?_
        refine zw_if0 hm_89 dX7_thingFrom_23 (t := 42) rfl zc0_lt (fun _ => ?_) (fun hc => absurd (by decide) hc)
        refine zw_push hm_89 dX7_thingFrom_42 (v := .inr (.inr none)) rfl ?_
        refine zw_aret hm_89 dX7_thingFrom_43 ?_
        show ma_wp X d w 49 28 [(0, .inr (.inr (some 91))), (1, .inl l1), (2, .inl l2), (3, .inl l3)] [.inr (.inr none)] S _
        refine zw_sto hm_49 dX4_moveAll_28 [(4, .inr (.inr none)), (0, .inr (.inr (some 91))), (1, .inl l1), (2, .inl l2), (3, .inl l3)] rfl rfl rfl ?_
        refine zw_push hm_49 dX4_moveAll_30 (v := .inr (.inr none)) rfl ?_
        refine zw_ifnonnull hm_49 dX4_moveAll_32 (t := 41) rfl (fun _ => ?_) (fun _ z => by cases z)
        refine zw_sto hm_49 dX4_moveAll_35 [(2, .inl (l2 + (1 : Int32))), (4, .inr (.inr none)), (0, .inr (.inr (some 91))), (1, .inl l1), (3, .inl l3)] rfl rfl rfl ?_
        refine zw_goto hm_49 dX4_moveAll_38 (t := 60) rfl ?_
        refine zw_goto hm_49 dX4_moveAll_60 (t := 15) rfl ?_
        exact zw_sub (ma_nd_of (ks := [0, 1, 2, 3]) rfl (by decide)) (ma_nd_of (ks := [2, 4, 0, 1, 3]) rfl (by decide)) (ma_le_cons rfl (ma_le_cons rfl (ma_le_cons rfl (ma_le_cons rfl (ma_le_nil _))))) h
      · intro hc
        rw [if_neg hc] at h
        refine zw_push hm_89 dX7_thingFrom_11 (v := .inr (.inr (some 69))) rfl ?_
        refine zw_gf hm_89 dX7_thingFrom_12 (v := .inr (.inr (some 71))) (zT_is hS s_69) (zT_t hS s_69) rfl f_7_17_7 (zT_f hS r_69_1) ?_
        refine zw_push hm_89 dX7_thingFrom_15 (v := .inl l2) rfl ?_
        obtain ⟨hg, h⟩ := h
        refine zw_ia hm_89 dX7_thingFrom_16 (zT_is hS s_71) (zT_h hS s_71) rfl hg ?_
        show ma_wp X (d - 1) (w - 22) 89 17 [(0, .inr (.inr (some 69))), (1, .inl l2)] [.inl (mI S 71 l2.toNatClampNeg)] S _
        refine zw_goto hm_89 dX7_thingFrom_17 (t := 21) rfl ?_
        refine zw_sto hm_89 dX7_thingFrom_21 [(2, .inl (mI S 71 l2.toNatClampNeg)), (0, .inr (.inr (some 69))), (1, .inl l2)] rfl rfl rfl ?_
        refine zw_push hm_89 dX7_thingFrom_22 (v := .inl (mI S 71 l2.toNatClampNeg)) rfl ?_
        refine zw_if0 hm_89 dX7_thingFrom_23 (t := 42) rfl zc0_lt ?_ ?_
        · intro hc
          rw [if_pos hc] at h
          refine zw_push hm_89 dX7_thingFrom_42 (v := .inr (.inr none)) rfl ?_
          refine zw_aret hm_89 dX7_thingFrom_43 ?_
          show ma_wp X d w 49 28 [(0, .inr (.inr (some 91))), (1, .inl l1), (2, .inl l2), (3, .inl l3)] [.inr (.inr none)] S _
          refine zw_sto hm_49 dX4_moveAll_28 [(4, .inr (.inr none)), (0, .inr (.inr (some 91))), (1, .inl l1), (2, .inl l2), (3, .inl l3)] rfl rfl rfl ?_
          refine zw_push hm_49 dX4_moveAll_30 (v := .inr (.inr none)) rfl ?_
          refine zw_ifnonnull hm_49 dX4_moveAll_32 (t := 41) rfl (fun _ => ?_) (fun _ z => by cases z)
          refine zw_sto hm_49 dX4_moveAll_35 [(2, .inl (l2 + (1 : Int32))), (4, .inr (.inr none)), (0, .inr (.inr (some 91))), (1, .inl l1), (3, .inl l3)] rfl rfl rfl ?_
          refine zw_goto hm_49 dX4_moveAll_38 (t := 60) rfl ?_
          refine zw_goto hm_49 dX4_moveAll_60 (t := 15) rfl ?_
          exact zw_sub (ma_nd_of (ks := [0, 1, 2, 3]) rfl (by decide)) (ma_nd_of (ks := [2, 4, 0, 1, 3]) rfl (by decide)) (ma_le_cons rfl (ma_le_cons rfl (ma_le_cons rfl (ma_le_cons rfl (ma_le_nil _))))) h
        · intro hc
          rw [if_neg hc] at h
          refine zw_push hm_89 dX7_thingFrom_26 (v := .inl (mI S 71 l2.toNatClampNeg)) rfl ?_
          refine zw_push hm_89 dX7_thingFrom_27 (v := .inl (512 : Int32)) rfl ?_
          refine zw_if2 hm_89 dX7_thingFrom_30 (t := 42) rfl zc2_ge ?_ ?_
          · intro hc
            rw [if_pos hc] at h
            refine zw_push hm_89 dX7_thingFrom_42 (v := .inr (.inr none)) rfl ?_
            refine zw_aret hm_89 dX7_thingFrom_43 ?_
            show ma_wp X d w 49 28 [(0, .inr (.inr (some 91))), (1, .inl l1), (2, .inl l2), (3, .inl l3)] [.inr (.inr none)] S _
            refine zw_sto hm_49 dX4_moveAll_28 [(4, .inr (.inr none)), (0, .inr (.inr (some 91))), (1, .inl l1), (2, .inl l2), (3, .inl l3)] rfl rfl rfl ?_
            refine zw_push hm_49 dX4_moveAll_30 (v := .inr (.inr none)) rfl ?_
            refine zw_ifnonnull hm_49 dX4_moveAll_32 (t := 41) rfl (fun _ => ?_) (fun _ z => by cases z)
            refine zw_sto hm_49 dX4_moveAll_35 [(2, .inl (l2 + (1 : Int32))), (4, .inr (.inr none)), (0, .inr (.inr (some 91))), (1, .inl l1), (3, .inl l3)] rfl rfl rfl ?_
            refine zw_goto hm_49 dX4_moveAll_38 (t := 60) rfl ?_
            refine zw_goto hm_49 dX4_moveAll_60 (t := 15) rfl ?_
            exact zw_sub (ma_nd_of (ks := [0, 1, 2, 3]) rfl (by decide)) (ma_nd_of (ks := [2, 4, 0, 1, 3]) rfl (by decide)) (ma_le_cons rfl (ma_le_cons rfl (ma_le_cons rfl (ma_le_cons rfl (ma_le_nil _))))) h
          · intro hc
            rw [if_neg hc] at h
            refine zw_push hm_89 dX7_thingFrom_33 (v := .inr (.inr (some 69))) rfl ?_
            refine zw_gf hm_89 dX7_thingFrom_34 (v := .inr (.inr (some 70))) (zT_is hS s_69) (zT_t hS s_69) rfl f_7_11_7 (zT_f hS r_69_0) ?_
            refine zw_push hm_89 dX7_thingFrom_37 (v := .inl (mI S 71 l2.toNatClampNeg)) rfl ?_
            obtain ⟨hg, h⟩ := h
            refine zw_aa hm_89 dX7_thingFrom_38 (zT_is hS s_70) (zT_h hS s_70) rfl rfl hg rfl ?_
            show ma_wp X (d - 1) (w - 22) 89 39 [(2, .inl (mI S 71 l2.toNatClampNeg)), (0, .inr (.inr (some 69))), (1, .inl l2)] [.inr (.inr (mR S 70 (mI S 71 l2.toNatClampNeg).toNatClampNeg))] S _
            refine zw_goto hm_89 dX7_thingFrom_39 (t := 43) rfl ?_
            refine zw_aret hm_89 dX7_thingFrom_43 ?_
            show ma_wp X d w 49 28 [(0, .inr (.inr (some 91))), (1, .inl l1), (2, .inl l2), (3, .inl l3)] [.inr (.inr (mR S 70 (mI S 71 l2.toNatClampNeg).toNatClampNeg))] S _
            refine zw_sto hm_49 dX4_moveAll_28 [(4, .inr (.inr (mR S 70 (mI S 71 l2.toNatClampNeg).toNatClampNeg))), (0, .inr (.inr (some 91))), (1, .inl l1), (2, .inl l2), (3, .inl l3)] rfl rfl rfl ?_
            refine zw_push hm_49 dX4_moveAll_30 (v := .inr (.inr (mR S 70 (mI S 71 l2.toNatClampNeg).toNatClampNeg))) rfl ?_
            refine zw_ifnonnull hm_49 dX4_moveAll_32 (t := 41) rfl ?_ ?_
            · intro hc
              have h := h.1 hc
              (try rw [hc])
              show ma_wp X d w 49 35 [(4, .inr (.inr none)), (0, .inr (.inr (some 91))), (1, .inl l1), (2, .inl l2), (3, .inl l3)] [] S _
              refine zw_sto hm_49 dX4_moveAll_35 [(2, .inl (l2 + (1 : Int32))), (4, .inr (.inr none)), (0, .inr (.inr (some 91))), (1, .inl l1), (3, .inl l3)] rfl rfl rfl ?_
              refine zw_goto hm_49 dX4_moveAll_38 (t := 60) rfl ?_
              refine zw_goto hm_49 dX4_moveAll_60 (t := 15) rfl ?_
              exact zw_sub (ma_nd_of (ks := [0, 1, 2, 3]) rfl (by decide)) (ma_nd_of (ks := [2, 4, 0, 1, 3]) rfl (by decide)) (ma_le_cons rfl (ma_le_cons rfl (ma_le_cons rfl (ma_le_cons rfl (ma_le_nil _))))) h
            · intro c1 hc
              have h := h.2 c1 hc
              (try rw [hc])
              show ma_wp X d w 49 41 [(4, .inr (.inr (some c1))), (0, .inr (.inr (some 91))), (1, .inl l1), (2, .inl l2), (3, .inl l3)] [] S _
              refine zw_push hm_49 dX4_moveAll_41 (v := .inl l2) rfl ?_
              refine zw_push hm_49 dX4_moveAll_42 (v := .inr (.inr (some c1))) rfl ?_
              obtain ⟨hg, h⟩ := h
              refine zw_gf hm_49 dX4_moveAll_44 (v := .inl (mI S c1 2)) (zT_tis hS hg) (zT_tt hS hg) rfl f_4_63_9 rfl ?_
              refine zw_stk hm_49 dX4_moveAll_47 (st₉ := [.inl (l2 + (mI S c1 2))]) rfl rfl ?_
              refine zw_sto hm_49 dX4_moveAll_48 [(2, .inl (l2 + (mI S c1 2))), (4, .inr (.inr (some c1))), (0, .inr (.inr (some 91))), (1, .inl l1), (3, .inl l3)] rfl rfl rfl ?_
              refine zw_push hm_49 dX4_moveAll_49 (v := .inr (.inr (some 91))) rfl ?_
              refine zw_push hm_49 dX4_moveAll_50 (v := .inr (.inr (some c1))) rfl ?_
              refine zw_cv hm_49 dX4_moveAll_52 v_4_123_4 hm_51 [.inr (.inr (some c1))] [] rfl (zT_rt hS s_91 rfl) ⟨by omega, by omega⟩ rfl (zw_mono h (zi_go ?_ ?_))
              · intro v3 S2 hv
                obtain ⟨hS2, h⟩ := hv
                refine zw_if0 hm_49 dX4_moveAll_55 (t := 60) rfl zc0_ne ?_ ?_
                · intro hc
                  rw [if_neg hc] at h
                  refine zw_goto hm_49 dX4_moveAll_60 (t := 15) rfl ?_
                  exact zw_sub (ma_nd_of (ks := [0, 1, 2, 3]) rfl (by decide)) (ma_nd_of (ks := [2, 4, 0, 1, 3]) rfl (by decide)) (ma_le_cons rfl (ma_le_cons rfl (ma_le_cons rfl (ma_le_cons rfl (ma_le_nil _))))) h
                · intro hc
                  rw [if_pos (Classical.not_not.mp hc)] at h
                  refine zw_push hm_49 dX4_moveAll_58 (v := .inl (0 : Int32)) rfl ?_
                  exact zw_bret hm_49 dX4_moveAll_59 (by decide) h
              · intro x S9 hx
                exact ⟨by decide, hx⟩
theorem lp_49_91_sz_15 {X : Nat × (Nat → Int32)} {d w : Nat} {f : Nat → Nat → Int32} {r : Nat → Nat → Option Nat} {C Z N : Nat} {Q : Option ma_V ⊕ Nat → ma_S → Prop} {ab : Nat→Nat→Int32} {tg : Int} {r1 : Int32} (hd : 3 ≤ d) (hw : 136 ≤ w) (K : ∀ v S₉, zL91 f r C Z N S₉ → (v = 0 ∨ v = 1) → (xB S₉ (mR S₉ 70)) → ((v = 1 ∧ (rM2 ab r1.toInt tg).2.2 = true ∧ aZ S₉ = ma_u (ma_u (rM2 ab r1.toInt tg).1 93 r1.toInt.toNat 0) 92 r1.toInt.toNat 0 ∧ (mI S₉ 91 6).toInt = (rM2 ab r1.toInt tg).2.1 ∧ qRv (aZ S₉) ∧ qLv (aZ S₉) (mI S₉ 91 6).toInt) ∨ (v = 0 ∧ (rM2 ab r1.toInt tg).2.2 = false ∧ aZ S₉ = (rM2 ab r1.toInt tg).1 ∧ (mI S₉ 91 6).toInt = (rM2 ab r1.toInt tg).2.1 ∧ qRv (aZ S₉) ∧ qLv (aZ S₉) (mI S₉ 91 6).toInt)) → Q (.inl (some (.inl v))) S₉) : ∀ (n : Nat) (S : ma_S) (l1 : Int32) (l2 : Int32) (l3 : Int32), (l3.toInt - l2.toInt).toNat = n → zL91 f r C Z N S → (0 ≤ l1.toInt) → (l1.toInt ≤ 92) → (l1.toInt = r1.toInt) → (0 ≤ l2.toInt) → (l3.toInt ≤ 280000) → (l2.toInt ≤ 300000) → (l1 = r1) → (xB S (mR S 70)) → (rMv (aZ S) l3.toInt l2.toInt (mI S 91 6).toInt = rM2 ab r1.toInt tg) → (qJr (aZ S) r1.toInt l2.toInt (mI S 91 6).toInt) → (qLv (aZ S) (mI S 91 6).toInt) → (l3.toInt = r1.toInt * (aZ S 87 3).toInt + (aZ S 92 r1.toInt.toNat).toInt) → ma_wp X d w 49 15 [(0, .inr (.inr (some 91))), (1, .inl l1), (2, .inl l2), (3, .inl l3)] [] S Q := by
  intro n
  induction n using Nat.strongRecOn with
  | _ n IH =>
    intro S l1 l2 l3 hmu hI  hi0 hi1 hi2 hi3 hi4 hi5 hi6 hi7 hi8 hi9 hi10 hi11
    refine g_49_91_sz_15 l1 l2 l3 (by omega) (by omega) (zG_T hI) ?_
    have f1 := zG_s hI (-1) (92) (c := 91) (k := 6) (by decide)
    have jl2 := hi9.2.2.1
    have jb := hi9.1.2.2.1
    have b2 := i_bd l3
    have b3 := i_bd l2
    refine zd (fun h4 => ?_) (fun h4 => ?_)
    · skip
      have g5 := i_le h4
      have b6 := i_bd l1
      have li7 : (0 : Int32).toInt = 0 := rfl
      refine zd (fun h8 => ?_) (fun h8 => ?_)
      · skip
        have g9 := i_lt h8
        have li10 : (1 : Int32).toInt = 1 := rfl
        exact K ((1 : Int32)) _ hI (by decide) (show xB S (mR S 70) from by first | (exact xB_x (xC_o (W := 75) hi7).2)) (show ((1 : Int32) = 1 ∧ (rM2 ab r1.toInt tg).2.2 = true ∧ aZ S = ma_u (ma_u (rM2 ab r1.toInt tg).1 93 r1.toInt.toNat 0) 92 r1.toInt.toNat 0 ∧ (mI S 91 6).toInt = (rM2 ab r1.toInt tg).2.1 ∧ qRv (aZ S) ∧ qLv (aZ S) (mI S 91 6).toInt) ∨ ((1 : Int32) = 0 ∧ (rM2 ab r1.toInt tg).2.2 = false ∧ aZ S = (rM2 ab r1.toInt tg).1 ∧ (mI S 91 6).toInt = (rM2 ab r1.toInt tg).2.1 ∧ qRv (aZ S) ∧ qLv (aZ S) (mI S 91 6).toInt) from by first | (exfalso; omega))
      · skip
        have g11 := i_nlt h8
        have li12 : (93 : Int32).toInt = 93 := rfl
        refine zd (fun h13 => ?_) (fun h13 => ?_)
        · skip
          have g14 := i_le h13
          have li15 : (1 : Int32).toInt = 1 := rfl
          exact K ((1 : Int32)) _ hI (by decide) (show xB S (mR S 70) from by first | (exact xB_x (xC_o (W := 75) hi7).2)) (show ((1 : Int32) = 1 ∧ (rM2 ab r1.toInt tg).2.2 = true ∧ aZ S = ma_u (ma_u (rM2 ab r1.toInt tg).1 93 r1.toInt.toNat 0) 92 r1.toInt.toNat 0 ∧ (mI S 91 6).toInt = (rM2 ab r1.toInt tg).2.1 ∧ qRv (aZ S) ∧ qLv (aZ S) (mI S 91 6).toInt) ∨ ((1 : Int32) = 0 ∧ (rM2 ab r1.toInt tg).2.2 = false ∧ aZ S = (rM2 ab r1.toInt tg).1 ∧ (mI S 91 6).toInt = (rM2 ab r1.toInt tg).2.1 ∧ qRv (aZ S) ∧ qLv (aZ S) (mI S 91 6).toInt) from by first | (exfalso; omega))
        · skip
          have g16 := i_nle h13
          refine ⟨i_ix (by omega) (by omega), ?_⟩
          refine ⟨i_ix (by omega) (by omega), ?_⟩
          have hI17 : zL91 f r C Z N (ma_put S 93 l1.toNatClampNeg (.inl (0 : Int32))) := zG_fa hI rfl (by decide) (by decide) (by decide) trivial
          have hI18 : zL91 f r C Z N (ma_put (ma_put S 93 l1.toNatClampNeg (.inl (0 : Int32))) 92 l1.toNatClampNeg (.inl (0 : Int32))) := zG_sa hI17 (0) (3000) rfl (by decide) (by decide) (by decide) trivial (by omega) (by omega)
          have li19 : (1 : Int32).toInt = 1 := rfl
          exact K ((1 : Int32)) _ hI18 (by decide) (show xB (ma_put (ma_put S 93 l1.toNatClampNeg (.inl (0 : Int32))) 92 l1.toNatClampNeg (.inl (0 : Int32))) (mR (ma_put (ma_put S 93 l1.toNatClampNeg (.inl (0 : Int32))) 92 l1.toNatClampNeg (.inl (0 : Int32))) 70) from by first | (exact xB_x (xC_n (c := 92) (k := l1.toNatClampNeg) (x := (0 : Int32)) (xC_n (c := 93) (k := l1.toNatClampNeg) (x := (0 : Int32)) (xC_o (W := 75) hi7) ⟨by decide, Or.inl ⟨rfl, rfl⟩⟩) ⟨by decide, Or.inl ⟨rfl, rfl⟩⟩).2)) (show ((1 : Int32) = 1 ∧ (rM2 ab r1.toInt tg).2.2 = true ∧ aZ (ma_put (ma_put S 93 l1.toNatClampNeg (.inl (0 : Int32))) 92 l1.toNatClampNeg (.inl (0 : Int32))) = ma_u (ma_u (rM2 ab r1.toInt tg).1 93 r1.toInt.toNat 0) 92 r1.toInt.toNat 0 ∧ (mI S 91 6).toInt = (rM2 ab r1.toInt tg).2.1 ∧ qRv (aZ (ma_put (ma_put S 93 l1.toNatClampNeg (.inl (0 : Int32))) 92 l1.toNatClampNeg (.inl (0 : Int32)))) ∧ qLv (aZ (ma_put (ma_put S 93 l1.toNatClampNeg (.inl (0 : Int32))) 92 l1.toNatClampNeg (.inl (0 : Int32)))) (mI S 91 6).toInt) ∨ ((1 : Int32) = 0 ∧ (rM2 ab r1.toInt tg).2.2 = false ∧ aZ (ma_put (ma_put S 93 l1.toNatClampNeg (.inl (0 : Int32))) 92 l1.toNatClampNeg (.inl (0 : Int32))) = (rM2 ab r1.toInt tg).1 ∧ (mI S 91 6).toInt = (rM2 ab r1.toInt tg).2.1 ∧ qRv (aZ (ma_put (ma_put S 93 l1.toNatClampNeg (.inl (0 : Int32))) 92 l1.toNatClampNeg (.inl (0 : Int32)))) ∧ qLv (aZ (ma_put (ma_put S 93 l1.toNatClampNeg (.inl (0 : Int32))) 92 l1.toNatClampNeg (.inl (0 : Int32)))) (mI S 91 6).toInt) from by first | (have e3 := hi11; have z := (Mv_e (a := aZ S) (e := l3.toInt) (p := l2.toInt) (t := (mI S 91 6).toInt) (by omega)).symm.trans hi8; have rn : r1.toInt.toNat = l1.toNatClampNeg := (by rw [hi6]; rfl); refine Or.inl ⟨rfl, by rw [← z], by rw [← z, ((Z_p9 (c := 92) (n := l1.toNatClampNeg) (x := (0 : Int32)) (xC_n (c := 93) (k := l1.toNatClampNeg) (x := (0 : Int32)) (xC_o (W := 75) hi7) ⟨by decide, Or.inl ⟨rfl, rfl⟩⟩).2 (by decide)).trans (congrArg (fun q => ma_u q 92 l1.toNatClampNeg (0 : Int32)) ((Z_p9 (c := 93) (n := l1.toNatClampNeg) (x := (0 : Int32)) (xC_o (W := 75) hi7).2 (by decide)).trans (congrArg (fun q => ma_u q 93 l1.toNatClampNeg (0 : Int32)) (show aZ S = aZ S from rfl))))), rn], by rw [← z], ?_, ?_⟩; (rw [((Z_p9 (c := 92) (n := l1.toNatClampNeg) (x := (0 : Int32)) (xC_n (c := 93) (k := l1.toNatClampNeg) (x := (0 : Int32)) (xC_o (W := 75) hi7) ⟨by decide, Or.inl ⟨rfl, rfl⟩⟩).2 (by decide)).trans (congrArg (fun q => ma_u q 92 l1.toNatClampNeg (0 : Int32)) ((Z_p9 (c := 93) (n := l1.toNatClampNeg) (x := (0 : Int32)) (xC_o (W := 75) hi7).2 (by decide)).trans (congrArg (fun q => ma_u q 93 l1.toNatClampNeg (0 : Int32)) (show aZ S = aZ S from rfl))))), ← rn]; exact Jr_en2 hi9 (by omega)); (rw [((Z_p9 (c := 92) (n := l1.toNatClampNeg) (x := (0 : Int32)) (xC_n (c := 93) (k := l1.toNatClampNeg) (x := (0 : Int32)) (xC_o (W := 75) hi7) ⟨by decide, Or.inl ⟨rfl, rfl⟩⟩).2 (by decide)).trans (congrArg (fun q => ma_u q 92 l1.toNatClampNeg (0 : Int32)) ((Z_p9 (c := 93) (n := l1.toNatClampNeg) (x := (0 : Int32)) (xC_o (W := 75) hi7).2 (by decide)).trans (congrArg (fun q => ma_u q 93 l1.toNatClampNeg (0 : Int32)) (show aZ S = aZ S from rfl))))), ← rn]; exact Lv_end hi10 (by omega))))
    · skip
      have g20 := i_nle h4
      have li21 : (0 : Int32).toInt = 0 := rfl
      refine zd (fun h22 => ?_) (fun h22 => ?_)
      · skip
        have g23 := i_lt h22
        have b24 := i_bd l1
        first | have e25 : (l2 + (1 : Int32)).toInt = l2.toInt + (1) := i_addk rfl (by omega) (by omega) | have b26 := i_bd (l2 + (1 : Int32))
        exact IH _ (by omega) _ (l1) ((l2 + (1 : Int32))) (l3) rfl hI (by omega) (by omega) (by omega) (by omega) (by omega) (by omega) (show (l1) = r1 from by first | (exact rfl) | (exact hi6)) (show xB S (mR S 70) from by first | (exact xB_x (xC_o (W := 75) hi7).2)) (show rMv (aZ S) (l3).toInt ((l2 + (1 : Int32))).toInt (mI S 91 6).toInt = rM2 ab r1.toInt tg from by first | (have e3 := hi11; have o := (ob_n1 (a := aZ S) (p := l2.toInt) (by omega)); rw [show (l2 + (1 : Int32)).toInt = l2.toInt + 1 from by omega]; exact (Mv_fr (S1_I hi9.1.1) (by omega) (ob_neg o)).symm.trans hi8) | (have e3 := hi11; have o := (zz_n2 (S := S) (x := l2) (by omega)); rw [show (l2 + (1 : Int32)).toInt = l2.toInt + 1 from by omega]; exact (Mv_fr (S1_I hi9.1.1) (by omega) (ob_neg o)).symm.trans hi8)) (show qJr (aZ S) r1.toInt ((l2 + (1 : Int32))).toInt (mI S 91 6).toInt from by first | (have e3 := hi11; have o := (ob_n1 (a := aZ S) (p := l2.toInt) (by omega)); rw [show (l2 + (1 : Int32)).toInt = l2.toInt + 1 from by omega]; exact Jr_fr hi9 (by omega) (ob_neg o)) | (have e3 := hi11; have o := (zz_n2 (S := S) (x := l2) (by omega)); rw [show (l2 + (1 : Int32)).toInt = l2.toInt + 1 from by omega]; exact Jr_fr hi9 (by omega) (ob_neg o))) (show qLv (aZ S) (mI S 91 6).toInt from by first | (exact hi10)) (show (l3).toInt = r1.toInt * (aZ S 87 3).toInt + (aZ S 92 r1.toInt.toNat).toInt from by first | (exact hi11))
      · skip
        have g27 := i_nlt h22
        have li28 : (4500 : Int32).toInt = 4500 := rfl
        refine zd (fun h29 => ?_) (fun h29 => ?_)
        · skip
          have g30 := i_le h29
          have b31 := i_bd l1
          first | have e32 : (l2 + (1 : Int32)).toInt = l2.toInt + (1) := i_addk rfl (by omega) (by omega) | have b33 := i_bd (l2 + (1 : Int32))
          exact IH _ (by omega) _ (l1) ((l2 + (1 : Int32))) (l3) rfl hI (by omega) (by omega) (by omega) (by omega) (by omega) (by omega) (show (l1) = r1 from by first | (exact rfl) | (exact hi6)) (show xB S (mR S 70) from by first | (exact xB_x (xC_o (W := 75) hi7).2)) (show rMv (aZ S) (l3).toInt ((l2 + (1 : Int32))).toInt (mI S 91 6).toInt = rM2 ab r1.toInt tg from by first | (have e3 := hi11; have o := (ob_n1 (a := aZ S) (p := l2.toInt) (by omega)); rw [show (l2 + (1 : Int32)).toInt = l2.toInt + 1 from by omega]; exact (Mv_fr (S1_I hi9.1.1) (by omega) (ob_neg o)).symm.trans hi8) | (have e3 := hi11; have o := (zz_n2 (S := S) (x := l2) (by omega)); rw [show (l2 + (1 : Int32)).toInt = l2.toInt + 1 from by omega]; exact (Mv_fr (S1_I hi9.1.1) (by omega) (ob_neg o)).symm.trans hi8)) (show qJr (aZ S) r1.toInt ((l2 + (1 : Int32))).toInt (mI S 91 6).toInt from by first | (have e3 := hi11; have o := (ob_n1 (a := aZ S) (p := l2.toInt) (by omega)); rw [show (l2 + (1 : Int32)).toInt = l2.toInt + 1 from by omega]; exact Jr_fr hi9 (by omega) (ob_neg o)) | (have e3 := hi11; have o := (zz_n2 (S := S) (x := l2) (by omega)); rw [show (l2 + (1 : Int32)).toInt = l2.toInt + 1 from by omega]; exact Jr_fr hi9 (by omega) (ob_neg o))) (show qLv (aZ S) (mI S 91 6).toInt from by first | (exact hi10)) (show (l3).toInt = r1.toInt * (aZ S 87 3).toInt + (aZ S 92 r1.toInt.toNat).toInt from by first | (exact hi11))
        · skip
          have g34 := i_nle h29
          refine ⟨i_ix (by omega) (by omega), ?_⟩
          have b35 := i_bd (mI S 71 l2.toNatClampNeg)
          refine zd (fun h36 => ?_) (fun h36 => ?_)
          · skip
            have g37 := i_lt h36
            have b38 := i_bd l1
            first | have e39 : (l2 + (1 : Int32)).toInt = l2.toInt + (1) := i_addk rfl (by omega) (by omega) | have b40 := i_bd (l2 + (1 : Int32))
            exact IH _ (by omega) _ (l1) ((l2 + (1 : Int32))) (l3) rfl hI (by omega) (by omega) (by omega) (by omega) (by omega) (by omega) (show (l1) = r1 from by first | (exact rfl) | (exact hi6)) (show xB S (mR S 70) from by first | (exact xB_x (xC_o (W := 75) hi7).2)) (show rMv (aZ S) (l3).toInt ((l2 + (1 : Int32))).toInt (mI S 91 6).toInt = rM2 ab r1.toInt tg from by first | (have e3 := hi11; have o := (ob_n1 (a := aZ S) (p := l2.toInt) (by omega)); rw [show (l2 + (1 : Int32)).toInt = l2.toInt + 1 from by omega]; exact (Mv_fr (S1_I hi9.1.1) (by omega) (ob_neg o)).symm.trans hi8) | (have e3 := hi11; have o := (zz_n2 (S := S) (x := l2) (by omega)); rw [show (l2 + (1 : Int32)).toInt = l2.toInt + 1 from by omega]; exact (Mv_fr (S1_I hi9.1.1) (by omega) (ob_neg o)).symm.trans hi8)) (show qJr (aZ S) r1.toInt ((l2 + (1 : Int32))).toInt (mI S 91 6).toInt from by first | (have e3 := hi11; have o := (ob_n1 (a := aZ S) (p := l2.toInt) (by omega)); rw [show (l2 + (1 : Int32)).toInt = l2.toInt + 1 from by omega]; exact Jr_fr hi9 (by omega) (ob_neg o)) | (have e3 := hi11; have o := (zz_n2 (S := S) (x := l2) (by omega)); rw [show (l2 + (1 : Int32)).toInt = l2.toInt + 1 from by omega]; exact Jr_fr hi9 (by omega) (ob_neg o))) (show qLv (aZ S) (mI S 91 6).toInt from by first | (exact hi10)) (show (l3).toInt = r1.toInt * (aZ S 87 3).toInt + (aZ S 92 r1.toInt.toNat).toInt from by first | (exact hi11))
          · skip
            have g41 := i_nlt h36
            have li42 : (512 : Int32).toInt = 512 := rfl
            refine zd (fun h43 => ?_) (fun h43 => ?_)
            · skip
              have g44 := i_le h43
              have b45 := i_bd l1
              first | have e46 : (l2 + (1 : Int32)).toInt = l2.toInt + (1) := i_addk rfl (by omega) (by omega) | have b47 := i_bd (l2 + (1 : Int32))
              exact IH _ (by omega) _ (l1) ((l2 + (1 : Int32))) (l3) rfl hI (by omega) (by omega) (by omega) (by omega) (by omega) (by omega) (show (l1) = r1 from by first | (exact rfl) | (exact hi6)) (show xB S (mR S 70) from by first | (exact xB_x (xC_o (W := 75) hi7).2)) (show rMv (aZ S) (l3).toInt ((l2 + (1 : Int32))).toInt (mI S 91 6).toInt = rM2 ab r1.toInt tg from by first | (have e3 := hi11; have o := (ob_n1 (a := aZ S) (p := l2.toInt) (by omega)); rw [show (l2 + (1 : Int32)).toInt = l2.toInt + 1 from by omega]; exact (Mv_fr (S1_I hi9.1.1) (by omega) (ob_neg o)).symm.trans hi8) | (have e3 := hi11; have o := (zz_n2 (S := S) (x := l2) (by omega)); rw [show (l2 + (1 : Int32)).toInt = l2.toInt + 1 from by omega]; exact (Mv_fr (S1_I hi9.1.1) (by omega) (ob_neg o)).symm.trans hi8)) (show qJr (aZ S) r1.toInt ((l2 + (1 : Int32))).toInt (mI S 91 6).toInt from by first | (have e3 := hi11; have o := (ob_n1 (a := aZ S) (p := l2.toInt) (by omega)); rw [show (l2 + (1 : Int32)).toInt = l2.toInt + 1 from by omega]; exact Jr_fr hi9 (by omega) (ob_neg o)) | (have e3 := hi11; have o := (zz_n2 (S := S) (x := l2) (by omega)); rw [show (l2 + (1 : Int32)).toInt = l2.toInt + 1 from by omega]; exact Jr_fr hi9 (by omega) (ob_neg o))) (show qLv (aZ S) (mI S 91 6).toInt from by first | (exact hi10)) (show (l3).toInt = r1.toInt * (aZ S 87 3).toInt + (aZ S 92 r1.toInt.toNat).toInt from by first | (exact hi11))
            · skip
              have g48 := i_nle h43
              refine ⟨i_ix (by omega) (by omega), ?_⟩
              refine ⟨fun hc => ?_, fun c1 hc => ?_⟩
              · skip
                have rn_c1 : zTa (mR S 70) (mI S 71 l2.toNatClampNeg) = none := (ta_rd (y := (mI S 71 l2.toNatClampNeg)) hi7 (by omega) (by omega)).symm.trans hc
                have b49 := i_bd l1
                first | have e50 : (l2 + (1 : Int32)).toInt = l2.toInt + (1) := i_addk rfl (by omega) (by omega) | have b51 := i_bd (l2 + (1 : Int32))
                exact IH _ (by omega) _ (l1) ((l2 + (1 : Int32))) (l3) rfl hI (by omega) (by omega) (by omega) (by omega) (by omega) (by omega) (show (l1) = r1 from by first | (exact rfl) | (exact hi6)) (show xB S (mR S 70) from by first | (exact xB_x (xC_o (W := 75) hi7).2)) (show rMv (aZ S) (l3).toInt ((l2 + (1 : Int32))).toInt (mI S 91 6).toInt = rM2 ab r1.toInt tg from by first | (have e3 := hi11; have o := (zz_n3 (x := l2) hi7 rn_c1); rw [show (l2 + (1 : Int32)).toInt = l2.toInt + 1 from by omega]; exact (Mv_fr (S1_I hi9.1.1) (by omega) (ob_neg o)).symm.trans hi8)) (show qJr (aZ S) r1.toInt ((l2 + (1 : Int32))).toInt (mI S 91 6).toInt from by first | (have e3 := hi11; have o := (zz_n3 (x := l2) hi7 rn_c1); rw [show (l2 + (1 : Int32)).toInt = l2.toInt + 1 from by omega]; exact Jr_fr hi9 (by omega) (ob_neg o))) (show qLv (aZ S) (mI S 91 6).toInt from by first | (exact hi10)) (show (l3).toInt = r1.toInt * (aZ S 87 3).toInt + (aZ S 92 r1.toInt.toNat).toInt from by first | (exact hi11))
              · skip
                have th_c1 := (fun _ z => zG_70 hI (c := 70) (by decide) z) c1 hc
                have rg_c1 : zTa (mR S 70) (mI S 71 l2.toNatClampNeg) = some c1 := (ta_rd (y := (mI S 71 l2.toNatClampNeg)) hi7 (by omega) (by omega)).symm.trans hc
                refine ⟨zG_n hI th_c1, ?_⟩
                refine sp_51_91_sz (ab := (aZ S)) (y := ((mI S 71 l2.toNatClampNeg))) (qq := r1.toInt) (pp := l2.toInt) (tg := (mI S 91 6).toInt) c1 (by omega) (by omega) hI th_c1 (show xB S (mR S 70) from by first | (exact xB_x (xC_o (W := 75) hi7).2)) (show aZ S = (aZ S) from by first | (exact rfl)) (show zTa (mR S 70) ((mI S 71 l2.toNatClampNeg)) = some c1 from by first | (exact rg_c1)) (show qMo (aZ S) r1.toInt l2.toInt (mI S 91 6).toInt ((mI S 71 l2.toNatClampNeg)) from by first | (have o := zz_y (x := l2) hi7 rg_c1 (by omega) (by omega); have ty := xB_th (W := 75) hi7 rg_c1; have ob0 : 0 ≤ (zOb (aZ S) l2.toInt).toInt := (by rw [o.1]; exact ty.1); have e3 := hi11; exact ⟨hi9, by omega, o.1, ty.1⟩)) (show (mI S 91 6).toInt = (mI S 91 6).toInt from by first | (exact rfl)) (fun v3 S2 hI_S2 hp_v3 rp0_S2 rp1_S2 => zi_n ⟨zG_T hI_S2, ?_⟩)
                have rp0_S2 : xB S2 (mR S2 70) := rp0_S2
                have f52 := zG_s hI_S2 (-1) (92) (c := 91) (k := 6) (by decide)
                have rp1_S2 : (v3 = 0 ∧ aZ S2 = (aZ S) ∧ (mI S2 91 6).toInt = (mI S 91 6).toInt ∧ rTo (aZ S) (mI S 91 6).toInt ((aZ S) 128 ((mI S 71 l2.toNatClampNeg)).toNatClampNeg).toInt = -1) ∨ (v3 = 1 ∧ rTo (aZ S) (mI S 91 6).toInt ((aZ S) 128 ((mI S 71 l2.toNatClampNeg)).toNatClampNeg).toInt ≠ -1 ∧ aZ S2 = rM1 (aZ S) ((mI S 71 l2.toNatClampNeg)).toNatClampNeg (rTo (aZ S) (mI S 91 6).toInt ((aZ S) 128 ((mI S 71 l2.toNatClampNeg)).toNatClampNeg).toInt) ∧ (mI S2 91 6).toInt = rTo (aZ S) (mI S 91 6).toInt ((aZ S) 128 ((mI S 71 l2.toNatClampNeg)).toNatClampNeg).toInt) := rp1_S2
                have b53 := i_bd v3
                refine zd (fun h54 => ?_) (fun h54 => ?_)
                · skip
                  have g55 := i_eq h54
                  exact K ((0 : Int32)) _ hI_S2 (by decide) (show xB S2 (mR S2 70) from by first | (exact xB_x (xC_o (W := 75) rp0_S2).2)) (show ((0 : Int32) = 1 ∧ (rM2 ab r1.toInt tg).2.2 = true ∧ aZ S2 = ma_u (ma_u (rM2 ab r1.toInt tg).1 93 r1.toInt.toNat 0) 92 r1.toInt.toNat 0 ∧ (mI S2 91 6).toInt = (rM2 ab r1.toInt tg).2.1 ∧ qRv (aZ S2) ∧ qLv (aZ S2) (mI S2 91 6).toInt) ∨ ((0 : Int32) = 0 ∧ (rM2 ab r1.toInt tg).2.2 = false ∧ aZ S2 = (rM2 ab r1.toInt tg).1 ∧ (mI S2 91 6).toInt = (rM2 ab r1.toInt tg).2.1 ∧ qRv (aZ S2) ∧ qLv (aZ S2) (mI S2 91 6).toInt) from by first | (have o := zz_y (x := l2) hi7 rg_c1 (by omega) (by omega); have ty := xB_th (W := 75) hi7 rg_c1; have ob0 : 0 ≤ (zOb (aZ S) l2.toInt).toInt := (by rw [o.1]; exact ty.1); have e3 := hi11; rcases rp1_S2 with w | w; (have z := Mv_no (e := l3.toInt) (t := (mI S 91 6).toInt) (by omega) ob0 (by rw [o.1]; exact w.2.2.2); rw [hi8] at z; refine Or.inr ⟨by first | rfl | assumption | exact w.1, by rw [z], by rw [z]; exact w.2.1, by rw [z]; exact w.2.2.1, ?_, ?_⟩; (rw [w.2.1]; exact hi9.1); (rw [w.2.1, w.2.2.1]; exact hi10)); (exfalso; first | exact absurd w.1 (by decide) | (have w1 := congrArg Int32.toInt w.1; have o1 : (1 : Int32).toInt = 1 := rfl; have o0 : (0 : Int32).toInt = 0 := rfl; omega))))
                · skip
                  have g56 := i_ne h54
                  have b57 := i_bd l1
                  have f58 := zG_th hI th_c1
                  first | have e59 : (l2 + (mI S c1 2)).toInt = l2.toInt + (mI S c1 2).toInt := i_add (by omega) (by omega) | have b60 := i_bd (l2 + (mI S c1 2))
                  exact IH _ (by omega) _ (l1) ((l2 + (mI S c1 2))) (l3) rfl hI_S2 (by omega) (by omega) (by omega) (by omega) (by omega) (by omega) (show (l1) = r1 from by first | (exact rfl) | (exact hi6)) (show xB S2 (mR S2 70) from by first | (exact xB_x (xC_o (W := 75) rp0_S2).2)) (show rMv (aZ S2) (l3).toInt ((l2 + (mI S c1 2))).toInt (mI S2 91 6).toInt = rM2 ab r1.toInt tg from by first | (have o := zz_y (x := l2) hi7 rg_c1 (by omega) (by omega); have ty := xB_th (W := 75) hi7 rg_c1; have ob0 : 0 ≤ (zOb (aZ S) l2.toInt).toInt := (by rw [o.1]; exact ty.1); have e3 := hi11; rcases rp1_S2 with w | w; (exfalso; have w1 := congrArg Int32.toInt w.1; have o1 : (1 : Int32).toInt = 1 := rfl; have o0 : (0 : Int32).toInt = 0 := rfl; omega); (have z := Mv_go (S1_I hi9.1.1) (e := l3.toInt) (t := (mI S 91 6).toInt) (by omega) ob0 (by rw [o.1]; exact w.2.1); rw [o.1] at z; rw [w.2.2.1, w.2.2.2]; refine Eq.trans ?_ (z.symm.trans hi8); rw [o.2]; congr 1 <;> omega))) (show qJr (aZ S2) r1.toInt ((l2 + (mI S c1 2))).toInt (mI S2 91 6).toInt from by first | (have o := zz_y (x := l2) hi7 rg_c1 (by omega) (by omega); have ty := xB_th (W := 75) hi7 rg_c1; have ob0 : 0 ≤ (zOb (aZ S) l2.toInt).toInt := (by rw [o.1]; exact ty.1); have e3 := hi11; rcases rp1_S2 with w | w; (exfalso; have w1 := congrArg Int32.toInt w.1; have o1 : (1 : Int32).toInt = 1 := rfl; have o0 : (0 : Int32).toInt = 0 := rfl; omega); (have z := Jr_go hi9 (by omega) ob0 (by rw [o.1]; exact w.2.1); rw [o.1, o.2] at z; rw [w.2.2.1, w.2.2.2, o.2]; refine (show ∀ {b : Nat → Nat → Int32} {p p2 t : Int}, qJr b r1.toInt p t → p = p2 → qJr b r1.toInt p2 t from fun h h1 => h1 ▸ h) z ?_; omega))) (show qLv (aZ S2) (mI S2 91 6).toInt from by first | (have o := zz_y (x := l2) hi7 rg_c1 (by omega) (by omega); have ty := xB_th (W := 75) hi7 rg_c1; have ob0 : 0 ≤ (zOb (aZ S) l2.toInt).toInt := (by rw [o.1]; exact ty.1); have e3 := hi11; rcases rp1_S2 with w | w; (exfalso; have w1 := congrArg Int32.toInt w.1; have o1 : (1 : Int32).toInt = 1 := rfl; have o0 : (0 : Int32).toInt = 0 := rfl; omega); (have z := Lv_go hi9 hi10 (by omega) ob0 (by rw [o.1]; exact w.2.1); rw [o.1] at z; rw [w.2.2.1, w.2.2.2]; exact z))) (show (l3).toInt = r1.toInt * (aZ S2 87 3).toInt + (aZ S2 92 r1.toInt.toNat).toInt from by first | (have o := zz_y (x := l2) hi7 rg_c1 (by omega) (by omega); have ty := xB_th (W := 75) hi7 rg_c1; have ob0 : 0 ≤ (zOb (aZ S) l2.toInt).toInt := (by rw [o.1]; exact ty.1); have e3 := hi11; rcases rp1_S2 with w | w; (exfalso; have w1 := congrArg Int32.toInt w.1; have o1 : (1 : Int32).toInt = 1 := rfl; have o0 : (0 : Int32).toInt = 0 := rfl; omega); (have z := Jr_e3 hi9 (by omega) ob0 (by rw [o.1]; exact w.2.1); rw [o.1] at z; rw [w.2.2.1]; exact e3.trans z.symm)))
theorem sp_49_91_sz {X : Nat × (Nat → Int32)} {d w : Nat} {f : Nat → Nat → Int32} {r : Nat → Nat → Option Nat} {C Z N : Nat} {Q : Option ma_V ⊕ Nat → ma_S → Prop} {ab : Nat→Nat→Int32} {tg : Int} {S : ma_S} (r1 : Int32) (hd : 3 ≤ d) (hw : 136 ≤ w) (hI : zL91 f r C Z N S) (hpre0 : 0 ≤ r1.toInt) (hpre1 : r1.toInt ≤ 92) (hpre2 : xB S (mR S 70)) (hpre3 : aZ S = ab) (hpre4 : (mI S 91 6).toInt = tg) (hpre5 : qJr ab r1.toInt (r1.toInt * (ab 87 3).toInt) tg) (hpre6 : qLv ab tg) (K : ∀ v S₉, zL91 f r C Z N S₉ → (v = 0 ∨ v = 1) → (xB S₉ (mR S₉ 70)) → ((v = 1 ∧ (rM2 ab r1.toInt tg).2.2 = true ∧ aZ S₉ = ma_u (ma_u (rM2 ab r1.toInt tg).1 93 r1.toInt.toNat 0) 92 r1.toInt.toNat 0 ∧ (mI S₉ 91 6).toInt = (rM2 ab r1.toInt tg).2.1 ∧ qRv (aZ S₉) ∧ qLv (aZ S₉) (mI S₉ 91 6).toInt) ∨ (v = 0 ∧ (rM2 ab r1.toInt tg).2.2 = false ∧ aZ S₉ = (rM2 ab r1.toInt tg).1 ∧ (mI S₉ 91 6).toInt = (rM2 ab r1.toInt tg).2.1 ∧ qRv (aZ S₉) ∧ qLv (aZ S₉) (mI S₉ 91 6).toInt)) → Q (.inl (some (.inl v))) S₉) : ma_wp X d w 49 0 [(0, .inr (.inr (some 91))), (1, .inl r1)] [] S Q := by
  refine g_49_91_sz_0 r1 (by omega) (by omega) (zG_T hI) ?_
  have b1 := i_bd r1
  have li2 : (0 : Int32).toInt = 0 := rfl
  refine zd (fun h3 => ?_) (fun h3 => ?_)
  · skip
    have g4 := i_lt h3
    have f5 := zG_s hI (0) (1500) (c := 91) (k := 2) (by decide)
    first | have f6 := i_muln (x := r1) (y := (mI S 91 2)) (by omega) (by omega) (by omega) (by omega) | have b7 := i_bd (r1 * (mI S 91 2))
    first | have e8 : ((r1 * (mI S 91 2)) + (0 : Int32)).toInt = (r1 * (mI S 91 2)).toInt + (0) := i_addk rfl (by omega) (by omega) | have b9 := i_bd ((r1 * (mI S 91 2)) + (0 : Int32))
    have f10 := zG_s hI (-1) (92) (c := 91) (k := 6) (by decide)
    exact lp_49_91_sz_15 (by omega) (by omega) K _ _ (r1) ((r1 * (mI S 91 2))) (((r1 * (mI S 91 2)) + (0 : Int32))) rfl hI (by omega) (by omega) (by omega) (by omega) (by omega) (by omega) (show (r1) = r1 from by first | (exact rfl)) (show xB S (mR S 70) from by first | (exact xB_x (xC_o (W := 75) hpre2).2)) (show rMv (aZ S) (((r1 * (mI S 91 2)) + (0 : Int32))).toInt ((r1 * (mI S 91 2))).toInt (mI S 91 6).toInt = rM2 ab r1.toInt tg from by first | (have s3 : mI S 91 2 = ab 87 3 := (by rw [← hpre3]; rfl); have i3 := congrArg Int32.toInt s3; have js := hpre5.1.2.2.1; have jr := hpre5.2.1; have mm := i_muln (x := r1) (y := mI S 91 2) (by omega) (by omega) (by omega) (by omega); have e2 : (r1 * mI S 91 2).toInt = r1.toInt * (ab 87 3).toInt := (by rw [mm.2.2, i3]); have t9 := congrArg Int32.toInt (show mI S 92 r1.toNatClampNeg = ab 92 r1.toInt.toNat from (aZ_9 (Or.inl rfl)).symm.trans (congrFun (congrFun hpre3 92) _)); have tp := (hpre5.1.2.2.2.1 r1.toInt.toNat (by omega)).1; rw [hpre3, hpre4]; exact M2_e (by omega) (by omega))) (show qJr (aZ S) r1.toInt ((r1 * (mI S 91 2))).toInt (mI S 91 6).toInt from by first | (have s3 : mI S 91 2 = ab 87 3 := (by rw [← hpre3]; rfl); have i3 := congrArg Int32.toInt s3; have js := hpre5.1.2.2.1; have jr := hpre5.2.1; have mm := i_muln (x := r1) (y := mI S 91 2) (by omega) (by omega) (by omega) (by omega); have e2 : (r1 * mI S 91 2).toInt = r1.toInt * (ab 87 3).toInt := (by rw [mm.2.2, i3]); have t9 := congrArg Int32.toInt (show mI S 92 r1.toNatClampNeg = ab 92 r1.toInt.toNat from (aZ_9 (Or.inl rfl)).symm.trans (congrFun (congrFun hpre3 92) _)); have tp := (hpre5.1.2.2.2.1 r1.toInt.toNat (by omega)).1; rw [hpre3, hpre4, e2]; exact hpre5)) (show qLv (aZ S) (mI S 91 6).toInt from by first | (rw [hpre3, hpre4]; exact hpre6)) (show (((r1 * (mI S 91 2)) + (0 : Int32))).toInt = r1.toInt * (aZ S 87 3).toInt + (aZ S 92 r1.toInt.toNat).toInt from by first | (have s3 : mI S 91 2 = ab 87 3 := (by rw [← hpre3]; rfl); have i3 := congrArg Int32.toInt s3; have js := hpre5.1.2.2.1; have jr := hpre5.2.1; have mm := i_muln (x := r1) (y := mI S 91 2) (by omega) (by omega) (by omega) (by omega); have e2 : (r1 * mI S 91 2).toInt = r1.toInt * (ab 87 3).toInt := (by rw [mm.2.2, i3]); have t9 := congrArg Int32.toInt (show mI S 92 r1.toNatClampNeg = ab 92 r1.toInt.toNat from (aZ_9 (Or.inl rfl)).symm.trans (congrFun (congrFun hpre3 92) _)); have tp := (hpre5.1.2.2.2.1 r1.toInt.toNat (by omega)).1; rw [hpre3]; omega))
  · skip
    have g11 := i_nlt h3
    have li12 : (93 : Int32).toInt = 93 := rfl
    refine zd (fun h13 => ?_) (fun h13 => ?_)
    · skip
      have g14 := i_le h13
      have f15 := zG_s hI (0) (1500) (c := 91) (k := 2) (by decide)
      first | have f16 := i_muln (x := r1) (y := (mI S 91 2)) (by omega) (by omega) (by omega) (by omega) | have b17 := i_bd (r1 * (mI S 91 2))
      first | have e18 : ((r1 * (mI S 91 2)) + (0 : Int32)).toInt = (r1 * (mI S 91 2)).toInt + (0) := i_addk rfl (by omega) (by omega) | have b19 := i_bd ((r1 * (mI S 91 2)) + (0 : Int32))
      have f20 := zG_s hI (-1) (92) (c := 91) (k := 6) (by decide)
      exact lp_49_91_sz_15 (by omega) (by omega) K _ _ (r1) ((r1 * (mI S 91 2))) (((r1 * (mI S 91 2)) + (0 : Int32))) rfl hI (by omega) (by omega) (by omega) (by omega) (by omega) (by omega) (show (r1) = r1 from by first | (exact rfl)) (show xB S (mR S 70) from by first | (exact xB_x (xC_o (W := 75) hpre2).2)) (show rMv (aZ S) (((r1 * (mI S 91 2)) + (0 : Int32))).toInt ((r1 * (mI S 91 2))).toInt (mI S 91 6).toInt = rM2 ab r1.toInt tg from by first | (have s3 : mI S 91 2 = ab 87 3 := (by rw [← hpre3]; rfl); have i3 := congrArg Int32.toInt s3; have js := hpre5.1.2.2.1; have jr := hpre5.2.1; have mm := i_muln (x := r1) (y := mI S 91 2) (by omega) (by omega) (by omega) (by omega); have e2 : (r1 * mI S 91 2).toInt = r1.toInt * (ab 87 3).toInt := (by rw [mm.2.2, i3]); have t9 := congrArg Int32.toInt (show mI S 92 r1.toNatClampNeg = ab 92 r1.toInt.toNat from (aZ_9 (Or.inl rfl)).symm.trans (congrFun (congrFun hpre3 92) _)); have tp := (hpre5.1.2.2.2.1 r1.toInt.toNat (by omega)).1; rw [hpre3, hpre4]; exact M2_e (by omega) (by omega))) (show qJr (aZ S) r1.toInt ((r1 * (mI S 91 2))).toInt (mI S 91 6).toInt from by first | (have s3 : mI S 91 2 = ab 87 3 := (by rw [← hpre3]; rfl); have i3 := congrArg Int32.toInt s3; have js := hpre5.1.2.2.1; have jr := hpre5.2.1; have mm := i_muln (x := r1) (y := mI S 91 2) (by omega) (by omega) (by omega) (by omega); have e2 : (r1 * mI S 91 2).toInt = r1.toInt * (ab 87 3).toInt := (by rw [mm.2.2, i3]); have t9 := congrArg Int32.toInt (show mI S 92 r1.toNatClampNeg = ab 92 r1.toInt.toNat from (aZ_9 (Or.inl rfl)).symm.trans (congrFun (congrFun hpre3 92) _)); have tp := (hpre5.1.2.2.2.1 r1.toInt.toNat (by omega)).1; rw [hpre3, hpre4, e2]; exact hpre5)) (show qLv (aZ S) (mI S 91 6).toInt from by first | (rw [hpre3, hpre4]; exact hpre6)) (show (((r1 * (mI S 91 2)) + (0 : Int32))).toInt = r1.toInt * (aZ S 87 3).toInt + (aZ S 92 r1.toInt.toNat).toInt from by first | (have s3 : mI S 91 2 = ab 87 3 := (by rw [← hpre3]; rfl); have i3 := congrArg Int32.toInt s3; have js := hpre5.1.2.2.1; have jr := hpre5.2.1; have mm := i_muln (x := r1) (y := mI S 91 2) (by omega) (by omega) (by omega) (by omega); have e2 : (r1 * mI S 91 2).toInt = r1.toInt * (ab 87 3).toInt := (by rw [mm.2.2, i3]); have t9 := congrArg Int32.toInt (show mI S 92 r1.toNatClampNeg = ab 92 r1.toInt.toNat from (aZ_9 (Or.inl rfl)).symm.trans (congrFun (congrFun hpre3 92) _)); have tp := (hpre5.1.2.2.2.1 r1.toInt.toNat (by omega)).1; rw [hpre3]; omega))
    · skip
      have g21 := i_nle h13
      refine ⟨i_ix (by omega) (by omega), ?_⟩
      have f22 := zG_s hI (0) (1500) (c := 91) (k := 2) (by decide)
      first | have f23 := i_muln (x := r1) (y := (mI S 91 2)) (by omega) (by omega) (by omega) (by omega) | have b24 := i_bd (r1 * (mI S 91 2))
      first | have f25 := zG_a hI 93 (0) (3000) (c := 92) (k := r1.toNatClampNeg) (by decide) (i_ix (n := 93) (by omega) (by omega)).2 | have b26 := i_bd (mI S 92 r1.toNatClampNeg)
      first | have e27 : ((r1 * (mI S 91 2)) + (mI S 92 r1.toNatClampNeg)).toInt = (r1 * (mI S 91 2)).toInt + (mI S 92 r1.toNatClampNeg).toInt := i_add (by omega) (by omega) | have b28 := i_bd ((r1 * (mI S 91 2)) + (mI S 92 r1.toNatClampNeg))
      have f29 := zG_s hI (-1) (92) (c := 91) (k := 6) (by decide)
      exact lp_49_91_sz_15 (by omega) (by omega) K _ _ (r1) ((r1 * (mI S 91 2))) (((r1 * (mI S 91 2)) + (mI S 92 r1.toNatClampNeg))) rfl hI (by omega) (by omega) (by omega) (by omega) (by omega) (by omega) (show (r1) = r1 from by first | (exact rfl)) (show xB S (mR S 70) from by first | (exact xB_x (xC_o (W := 75) hpre2).2)) (show rMv (aZ S) (((r1 * (mI S 91 2)) + (mI S 92 r1.toNatClampNeg))).toInt ((r1 * (mI S 91 2))).toInt (mI S 91 6).toInt = rM2 ab r1.toInt tg from by first | (have s3 : mI S 91 2 = ab 87 3 := (by rw [← hpre3]; rfl); have i3 := congrArg Int32.toInt s3; have js := hpre5.1.2.2.1; have jr := hpre5.2.1; have mm := i_muln (x := r1) (y := mI S 91 2) (by omega) (by omega) (by omega) (by omega); have e2 : (r1 * mI S 91 2).toInt = r1.toInt * (ab 87 3).toInt := (by rw [mm.2.2, i3]); have t9 := congrArg Int32.toInt (show mI S 92 r1.toNatClampNeg = ab 92 r1.toInt.toNat from (aZ_9 (Or.inl rfl)).symm.trans (congrFun (congrFun hpre3 92) _)); have tp := (hpre5.1.2.2.2.1 r1.toInt.toNat (by omega)).1; rw [hpre3, hpre4]; exact M2_e (by omega) (by omega))) (show qJr (aZ S) r1.toInt ((r1 * (mI S 91 2))).toInt (mI S 91 6).toInt from by first | (have s3 : mI S 91 2 = ab 87 3 := (by rw [← hpre3]; rfl); have i3 := congrArg Int32.toInt s3; have js := hpre5.1.2.2.1; have jr := hpre5.2.1; have mm := i_muln (x := r1) (y := mI S 91 2) (by omega) (by omega) (by omega) (by omega); have e2 : (r1 * mI S 91 2).toInt = r1.toInt * (ab 87 3).toInt := (by rw [mm.2.2, i3]); have t9 := congrArg Int32.toInt (show mI S 92 r1.toNatClampNeg = ab 92 r1.toInt.toNat from (aZ_9 (Or.inl rfl)).symm.trans (congrFun (congrFun hpre3 92) _)); have tp := (hpre5.1.2.2.2.1 r1.toInt.toNat (by omega)).1; rw [hpre3, hpre4, e2]; exact hpre5)) (show qLv (aZ S) (mI S 91 6).toInt from by first | (rw [hpre3, hpre4]; exact hpre6)) (show (((r1 * (mI S 91 2)) + (mI S 92 r1.toNatClampNeg))).toInt = r1.toInt * (aZ S 87 3).toInt + (aZ S 92 r1.toInt.toNat).toInt from by first | (have s3 : mI S 91 2 = ab 87 3 := (by rw [← hpre3]; rfl); have i3 := congrArg Int32.toInt s3; have js := hpre5.1.2.2.1; have jr := hpre5.2.1; have mm := i_muln (x := r1) (y := mI S 91 2) (by omega) (by omega) (by omega) (by omega); have e2 : (r1 * mI S 91 2).toInt = r1.toInt * (ab 87 3).toInt := (by rw [mm.2.2, i3]); have t9 := congrArg Int32.toInt (show mI S 92 r1.toNatClampNeg = ab 92 r1.toInt.toNat from (aZ_9 (Or.inl rfl)).symm.trans (congrFun (congrFun hpre3 92) _)); have tp := (hpre5.1.2.2.2.1 r1.toInt.toNat (by omega)).1; rw [hpre3]; omega))

/-! from 95.s19 -/
/-! REGIONS, the class (written by wip/tools/gen15z.py) -/
/-! THE COLLECTORS' OWN ROWS (82 to 93) ARE NO MATTER OF A CLEANING -/
section O9
variable {a b c : Nat → Nat → Int32} {x y z i : Int32} {n k m : Nat} {p q : Int}
def zO9 (a b : Nat → Nat → Int32) : Prop := ∀ c k, (c < 82 ∨ 93 < c) → a c k = b c k
theorem o9_u (h : zO9 a b) : zO9 (ma_u a n k x) (ma_u b n k x) := fun c₉ k₉ q => by
  by_cases w : c₉ = n ∧ k₉ = k
  · rw [w.1, w.2, xu_s, xu_s]
  · rw [xu_o w, xu_o w]
    exact h c₉ k₉ q
theorem o9_cm (h : zO9 a b) : zO9 (aCm a y) (aCm b y) := by
  unfold aCm
  rw [h 126 _ (by decide), h 75 5 (by decide), h 130 _ (by decide), h 75 4 (by decide), h 77 _ (by decide)]
  split
  · exact o9_u (o9_u (o9_u h))
  · exact h
theorem o9_ref (h : zO9 a b) : aRef a m i = aRef b m i := by
  unfold aRef
  rw [h (1000 + m) _ (by omega), h 130 _ (by decide), h 71 _ (by decide)]
theorem o9_cwf : ∀ (f : Nat) (i : Int32) (a b : Nat → Nat → Int32), zO9 a b → zO9 (aCwf m f i a) (aCwf m f i b) := by
  intro f
  induction f with
  | zero => intro i a b h; exact h
  | succ f ih =>
    intro i a b h
    show zO9 (aCwf m f (i + 1) (aCm a (aRef a m i))) (aCwf m f (i + 1) (aCm b (aRef b m i)))
    rw [o9_ref h]
    exact ih _ _ _ (o9_cm h)
theorem o9_pop (h : zO9 a b) : zO9 (aPop a) (aPop b) := by
  unfold aPop
  rw [h 75 3 (by decide), h 76 _ (by decide), h 126 _ (by decide)]
  have s : ∀ z, zO9 (ma_u (ma_u a 75 3 (b 75 3 + 1)) 77 z 2) (ma_u (ma_u b 75 3 (b 75 3 + 1)) 77 z 2) := fun z => o9_u (o9_u h)
  split
  · unfold aCw
    rw [s _ 128 _ (by decide)]
    exact o9_cwf _ _ _ _ (s _)
  · exact o9_u h
theorem o9_sp : ∀ (f : Nat) (a b : Nat → Nat → Int32), zO9 a b → zO9 (aSp f a) (aSp f b) := by
  intro f
  induction f with
  | zero => intro a b h; exact h
  | succ f ih =>
    intro a b h
    show zO9 (if (a 75 3).toInt < (a 75 4).toInt then aSp f (aPop a) else a) (if (b 75 3).toInt < (b 75 4).toInt then aSp f (aPop b) else b)
    rw [h 75 3 (by decide), h 75 4 (by decide)]
    split
    · exact ih _ _ (o9_pop h)
    · exact h
theorem o9_hf : ∀ (f : Nat) (n : Int32) (a b : Nat → Nat → Int32), zO9 a b → zO9 (aHf f n a) (aHf f n b) := by
  intro f
  induction f with
  | zero => intro n a b h; exact h
  | succ f ih =>
    intro n a b h
    show zO9 (aHf f (n + 1) (if 0 ≤ n.toInt ∧ n.toInt < 512 ∧ a 126 n.toNatClampNeg ≠ 0 ∧ 0 < (a 133 n.toNatClampNeg).toInt then aCm a n else a)) (aHf f (n + 1) (if 0 ≤ n.toInt ∧ n.toInt < 512 ∧ b 126 n.toNatClampNeg ≠ 0 ∧ 0 < (b 133 n.toNatClampNeg).toInt then aCm b n else b))
    rw [h 126 _ (by decide), h 133 _ (by decide)]
    split
    · exact ih _ _ _ (o9_cm h)
    · exact ih _ _ _ h
theorem o9_wf : ∀ (f : Nat) (n : Int32) (a b : Nat → Nat → Int32), zO9 a b → zO9 (aWf f n a) (aWf f n b) := by
  intro f
  induction f with
  | zero =>
    intro n a b h
    show zO9 (aHo a 0) (aHo b 0)
    unfold aHo
    rw [h 69 6 (by decide)]
    exact o9_hf _ _ _ _ h
  | succ f ih =>
    intro n a b h
    show zO9 (aWf f (n + 1) (aCm a (a 74 n.toNatClampNeg))) (aWf f (n + 1) (aCm b (b 74 n.toNatClampNeg)))
    rw [h 74 _ (by decide)]
    exact ih _ _ _ (o9_cm h)
theorem o9_rf : ∀ (f : Nat) (n : Int32) (a b : Nat → Nat → Int32), zO9 a b → zO9 (aRf f n a) (aRf f n b) := by
  intro f
  induction f with
  | zero =>
    intro n a b h
    show zO9 (aWi a 0) (aWi b 0)
    unfold aWi
    rw [h 69 5 (by decide)]
    exact o9_wf _ _ _ _ h
  | succ f ih =>
    intro n a b h
    show zO9 (aRf f (n + 1) (aCm a (a 72 n.toNatClampNeg))) (aRf f (n + 1) (aCm b (b 72 n.toNatClampNeg)))
    rw [h 72 _ (by decide)]
    exact ih _ _ _ (o9_cm h)
theorem o9_ra (h : zO9 a b) : zO9 (aRA a) (aRA b) := by
  have w : zO9 (aWh a 0) (aWh b 0) := by
    unfold aWh
    refine o9_u (o9_u (o9_u (fun c₉ k₉ q => ?_)))
    unfold zFl
    rw [h c₉ k₉ q]
  exact o9_sp 512 _ _ (o9_rf _ _ _ _ w)
theorem o9_uw (h : zO9 a b) : zO9 (zUw a y p) (zUw b y p) := fun c₉ k₉ q => by
  unfold zUw
  rw [h 73 k₉ (by decide), h c₉ k₉ q]
theorem o9_gr (h : zO9 a b) : zO9 (aGr a y) (aGr b y) := by
  unfold aGr
  rw [h 69 5 (by decide)]
  split
  · exact o9_u (o9_u (o9_u (o9_uw h)))
  · exact o9_u (o9_uw h)
theorem o9_gf : ∀ (f : Nat) (n : Int32) (a b : Nat → Nat → Int32), zO9 a b → zO9 (aGf f n a) (aGf f n b) := by
  intro f
  induction f with
  | zero => intro n a b h; exact h
  | succ f ih =>
    intro n a b h
    have e : aGc a n ↔ aGc b n := by
      unfold aGc
      rw [h 126 _ (by decide), h 134 _ (by decide), h 75 5 (by decide), h 130 _ (by decide), h 77 _ (by decide)]
    by_cases w : aGc b n
    · rw [aGf_y w, aGf_y (e.mpr w)]
      exact ih _ _ _ (o9_sp 512 _ _ (o9_cm (o9_gr h)))
    · rw [aGf_n w, aGf_n (fun z => w (e.mp z))]
      exact ih _ _ _ h
theorem o9_rm (h : zO9 a b) : zO9 (aRm a y) (aRm b y) := by
  have f : ∀ p e : Int, zO9 (zFr (zUw a y 16) p e) (zFr (zUw b y 16) p e) := fun p e c₉ k₉ q => by
    unfold zFr
    rw [o9_uw h c₉ k₉ q]
  have g : ∀ (p e : Int) (m : Nat), zO9 (zNo (zFr (zUw a y 16) p e) m) (zNo (zFr (zUw b y 16) p e) m) := fun p e m c₉ k₉ q => by
    unfold zNo
    rw [f p e c₉ k₉ q]
  unfold aRm
  rw [h 130 _ (by decide), h 128 _ (by decide), h 69 8 (by decide), h 69 11 (by decide)]
  exact o9_u (o9_u (g _ _ _))
theorem o9_mf : ∀ (f : Nat) (n : Int32) (a b : Nat → Nat → Int32), zO9 a b → zO9 (aMf f n a) (aMf f n b) := by
  intro f
  induction f with
  | zero => intro n a b h; exact h
  | succ f ih =>
    intro n a b h
    have e : aMc a n ↔ aMc b n := by
      unfold aMc
      rw [h 126 _ (by decide), h 75 5 (by decide), h 130 _ (by decide), h 77 _ (by decide)]
    by_cases w : aMc b n
    · rw [aMf_y w, aMf_y (e.mpr w)]
      exact ih _ _ _ (o9_rm h)
    · rw [aMf_n w, aMf_n (fun z => w (e.mp z))]
      exact ih _ _ _ h
theorem o9_gw (h : zO9 a b) : zO9 (aGw a 0) (aGw b 0) := by
  unfold aGw
  rw [h 69 6 (by decide)]
  exact o9_gf _ _ _ _ h
theorem o9_sw (h : zO9 a b) : zO9 (aSw a) (aSw b) := by
  have g := o9_gw (o9_ra h)
  unfold aSw
  generalize aGw (aRA a) 0 = A at *
  generalize aGw (aRA b) 0 = B at *
  unfold aMv
  rw [g 69 6 (by decide)]
  exact o9_mf _ _ _ _ g
theorem gf_9 {c : Nat} (h : 82 ≤ c ∧ c ≤ 93) : ∀ (f : Nat) (n : Int32) (a : Nat → Nat → Int32), aGf f n a c k = a c k := by
  intro f
  induction f with
  | zero => intro n a; rfl
  | succ f ih =>
    intro n a
    show aGf f (n + 1) (if _ then aSp 512 (aCm (aGr a n) n) else a) c k = a c k
    rw [ih]
    split
    · rw [aSp_o ⟨by omega, by omega, by omega⟩, aCm_o ⟨by omega, by omega, by omega⟩, aGr_o ⟨by omega, by omega, by omega, fun w => absurd w.1 (by omega)⟩]
    · rfl
theorem mf_9 {c : Nat} (h : 82 ≤ c ∧ c ≤ 93) : ∀ (f : Nat) (n : Int32) (a : Nat → Nat → Int32), aMf f n a c k = a c k := by
  intro f
  induction f with
  | zero => intro n a; rfl
  | succ f ih =>
    intro n a
    show aMf f (n + 1) (if _ then aRm a n else a) c k = a c k
    rw [ih]
    split
    · rw [aRm_o (by omega) ⟨by omega, by omega, fun w => absurd w.1 (by omega), fun w => absurd w.1 (by omega)⟩]
    · rfl
theorem sw_9 {c : Nat} (h : 82 ≤ c ∧ c ≤ 93) : aSw a c k = a c k := by
  unfold aSw aMv
  rw [mf_9 h]
  unfold aGw
  rw [gf_9 h]
  unfold aRA
  rw [aSp_o ⟨by omega, by omega, by omega⟩, aRo_o ⟨by omega, by omega, by omega⟩]
  unfold aWh
  rw [xu_o (by omega), xu_o (by omega), xu_o (by omega)]
  unfold zFl
  rw [if_neg (by omega)]
theorem sv_9 (h : zO9 a b) : aSv a = aSv b := by
  unfold aSv
  rw [o9_sw h 69 11 (by decide), o9_gw (o9_ra h) 69 11 (by decide)]
end O9
/-! REGIONS: a cleaning -/
section F15
variable {a b ab : Nat → Nat → Int32} {S S₉ S1 S2 S3 S4 : ma_S} {R : Nat → Option Nat} {x y i tg : Int32} {c k n m f : Nat} {p e t q u r z : Int} {T : (Nat → Nat → Int32) × Int}
theorem Z_o9 : zO9 (aS 75 S) (aZ S) := fun c k w => (aZ_o (by omega) (by omega) (by omega)).symm
theorem Z_sw (h : aS 75 S₉ = aSw (aS 75 S)) (e1 : mI S₉ 91 = mI S 91) (e2 : mI S₉ 92 = mI S 92) (e3 : mI S₉ 93 = mI S 93) : aZ S₉ = aSw (aZ S) := by
  refine Z_g (f := aSw) (fun c k h1 h2 h3 => ?_) (fun k => sw_87) (fun c k hc => sw_9 (by omega)) e1 e2 e3
  rw [h]
  by_cases w : c < 82 ∨ 93 < c
  · exact o9_sw Z_o9 c k w
  · rw [sw_9 (by omega), sw_9 (by omega), aZ_o h1 h2 h3]
theorem Z_sv : aSv (aS 75 S) = aSv (aZ S) := sv_9 Z_o9
theorem Rv_sw (h : qRv a) : qRv (aSw a) := by
  obtain ⟨hI, h2, h3, h4, h5⟩ := h
  have e7 : aSw a 87 = a 87 := funext (fun _ => sw_87)
  have e9 : aSw a 92 = a 92 := funext (fun _ => sw_9 (by decide))
  refine ⟨I_sw hI, by rw [e7]; exact h2, by rw [e7]; exact h3, by rw [e7, e9]; exact h4, fun n hn => ?_⟩
  have q := Al_sw hI hn
  rw [q.2.1, q.2.2.1, e7, e9]
  exact h5 n q.1
theorem Kf_ge (hI : qI a) : ∀ m : Nat, m ≤ 512 → ∀ n, n < m → a 126 n ≠ 0 → (a 130 n).toInt / (a 87 3).toInt = r → (a 128 n).toInt ≤ rKf a r m := by
  intro m
  induction m with
  | zero => intro _ n hn; omega
  | succ m ih =>
    intro hm n hn h6 hr
    have b := Kf_b (r := r) hI m (by omega)
    rw [Kf_s]
    by_cases w : n = m
    · rw [← w, if_pos ⟨h6, hr⟩, w]
      omega
    · have g := ih (by omega) n (by omega) h6 hr
      split
      · next z =>
        have i := (hI.1 m ⟨by omega, z.1⟩).2.1
        omega
      · omega
theorem Kf_ex : ∀ m : Nat, 0 < rKf a r m → ∃ n, n < m ∧ a 126 n ≠ 0 ∧ (a 130 n).toInt / (a 87 3).toInt = r := by
  intro m
  induction m with
  | zero => intro h; exact absurd h (by show ¬ (0 : Int) < 0; decide)
  | succ m ih =>
    intro h
    rw [Kf_s] at h
    by_cases w : a 126 m ≠ 0 ∧ (a 130 m).toInt / (a 87 3).toInt = r
    · exact ⟨m, by omega, w.1, w.2⟩
    · rw [if_neg w, Int.add_zero] at h
      obtain ⟨n, h1, h2⟩ := ih h
      exact ⟨n, by omega, h2⟩
theorem Kf_i (hI : qI a) : (Int32.ofInt (rKf a r 512)).toInt = rKf a r 512 := by
  have b := Kf_b (r := r) hI 512 (by omega)
  exact Int32.toInt_ofInt_of_le (by omega) (by omega)
theorem Cb_93 : ∀ n, rCb a n 93 k = 0 ∨ rCb a n 93 k = a 93 k := by
  intro n
  induction n with
  | zero => exact Or.inr rfl
  | succ n ih =>
    by_cases w : a 126 n ≠ 0 ∧ 0 < (a 133 n).toInt
    · rw [Cb_y w]
      by_cases z : k = ((a 130 n).toInt / (a 87 3).toInt).toNat
      · rw [z, xu_s]
        exact Or.inl rfl
      · rw [xu_o (fun q => z q.2)]
        exact ih
    · rw [Cb_n w]
      exact ih
theorem Cb_h : ∀ n m, m < n → a 126 m ≠ 0 → 0 < (a 133 m).toInt → rCb a n 93 ((a 130 m).toInt / (a 87 3).toInt).toNat = 0 := by
  intro n
  induction n with
  | zero => intro m h; omega
  | succ n ih =>
    intro m h h1 h2
    by_cases w : a 126 n ≠ 0 ∧ 0 < (a 133 n).toInt
    · rw [Cb_y w]
      by_cases z : ((a 130 m).toInt / (a 87 3).toInt).toNat = ((a 130 n).toInt / (a 87 3).toInt).toNat
      · rw [z, xu_s]
      · rw [xu_o (fun q => z q.2)]
        exact ih m (by
          by_cases y : m = n
          · rw [y] at z
            exact absurd rfl z
          · omega) h1 h2
    · rw [Cb_n w]
      exact ih m (by
        by_cases y : m = n
        · rw [y] at h1 h2
          exact absurd ⟨h1, h2⟩ w
        · omega) h1 h2
theorem Ca_93 : rCa a n 93 k = 0 ∨ rCa a n 93 k = a 93 k := by
  unfold rCa
  split
  · exact Or.inl rfl
  · exact Or.inr rfl
theorem T0_o (h2 : c ≠ 92) (h3 : c ≠ 93) : rEm (rSk a n) m c k = a c k := by
  unfold rEm
  rw [if_neg (fun w => h2 w.1)]
  exact if_neg (fun w => h3 w.1)
theorem B0_o (h2 : c ≠ 92) (h3 : c ≠ 93) : rB0 a c = aSw a c := funext (fun k => by
  unfold rB0
  rw [Cb_o h3, Ca_o h3, T0_o h2 h3])
theorem T0_93 (hk : k < 93) : rEm (rSk a 512) 93 93 k = Int32.ofInt (rKf a (k : Int) 512) := by
  unfold rEm
  rw [if_neg (by omega)]
  exact if_pos ⟨rfl, hk⟩
theorem B0_92 (hk : k < 93) : rB0 a 92 k = if (Int32.ofInt (rKf (aSw a) (k : Int) 512)).toInt = 0 then 0 else aSw a 92 k := by
  have e : rSk (aSw a) 512 93 k = Int32.ofInt (rKf (aSw a) (k : Int) 512) := if_pos ⟨rfl, hk⟩
  have e2 : rSk (aSw a) 512 92 k = aSw a 92 k := if_neg (by omega)
  unfold rB0
  rw [Cb_o (by decide), Ca_o (by decide)]
  unfold rEm
  rw [e, e2]
  by_cases w : (Int32.ofInt (rKf (aSw a) (k : Int) 512)).toInt = 0
  · rw [if_pos ⟨rfl, hk, w⟩, if_pos w]
  · rw [if_neg (fun z => w z.2.2), if_neg w]
theorem B0_93 (hk : k < 93) : rB0 a 93 k = 0 ∨ rB0 a 93 k = Int32.ofInt (rKf (aSw a) (k : Int) 512) := by
  unfold rB0
  rcases Cb_93 (a := rCa (rEm (rSk (aSw a) 512) 93) 93) (k := k) 512 with w | w
  · exact Or.inl w
  · rw [w]
    rcases Ca_93 (a := rEm (rSk (aSw a) 512) 93) (n := 93) (k := k) with z | z
    · exact Or.inl z
    · rw [z, T0_93 hk]
      exact Or.inr rfl
theorem Rv_b0 (h : qRv a) : qRv (rB0 a) ∧ qLv (rB0 a) (-1) := by
  obtain ⟨hI, h2, h3, h4, h5⟩ := Rv_sw h
  have e7 : rB0 a 87 = aSw a 87 := B0_o (by decide) (by decide)
  have e126 : rB0 a 126 = aSw a 126 := B0_o (by decide) (by decide)
  have e128 : rB0 a 128 = aSw a 128 := B0_o (by decide) (by decide)
  have e130 : rB0 a 130 = aSw a 130 := B0_o (by decide) (by decide)
  have e133 : rB0 a 133 = aSw a 133 := B0_o (by decide) (by decide)
  have z0 : (0 : Int32).toInt = 0 := rfl
  have al : ∀ n, xAl (rB0 a) n → xAl (aSw a) n := fun n hn => by
    unfold xAl at hn ⊢
    rw [e126] at hn
    exact hn
  have kp : ∀ n, xAl (aSw a) n → rB0 a 92 ((aSw a 130 n).toInt / (aSw a 87 3).toInt).toNat = aSw a 92 ((aSw a 130 n).toInt / (aSw a 87 3).toInt).toNat := fun n hn => by
    have g := h5 n hn
    have d0 : 0 ≤ (aSw a 130 n).toInt / (aSw a 87 3).toInt := Int.ediv_nonneg (hI.1 n hn).1.2 (by have := h3.1; omega)
    have k9 : ((aSw a 130 n).toInt / (aSw a 87 3).toInt).toNat < 93 := by have := h3.2.1; omega
    have kc : ((((aSw a 130 n).toInt / (aSw a 87 3).toInt).toNat : Nat) : Int) = (aSw a 130 n).toInt / (aSw a 87 3).toInt := by omega
    have ge := Kf_ge hI 512 (by omega) n hn.1 hn.2 kc.symm
    have s1 := (hI.1 n hn).2.1.1
    rw [B0_92 k9, Kf_i hI, if_neg (by omega)]
  refine ⟨⟨I_cg hI e126 e128 e130 (B0_o (by decide) (by decide)) (B0_o (by decide) (by decide)) e7 (fun j => B0_o (by omega) (by omega)), by rw [e7]; exact h2, by rw [e7]; exact h3, fun r hr => ?_, fun n hn => ?_⟩, fun r hr => ?_, fun r hr w => ?_, fun n hn w => ?_, Or.inl rfl⟩
  · have g := h4 r hr
    rw [e7, B0_92 hr]
    split
    · exact ⟨⟨by omega, by have := h3.1; omega⟩, fun _ => rfl⟩
    · exact g
  · have hn₉ := al n hn
    rw [e130, e128, e7, kp n hn₉]
    exact h5 n hn₉
  · rcases B0_93 (a := a) hr with w | w
    · rw [w]
      omega
    · rw [w, Kf_i hI]
      exact (Kf_b hI 512 (by omega)).1
  · rcases B0_93 (a := a) hr with w2 | w2
    · rw [w2] at w
      omega
    · rw [w2, Kf_i hI] at w
      obtain ⟨n, h1, h6, hr2⟩ := Kf_ex 512 w
      have hn : xAl (aSw a) n := ⟨h1, h6⟩
      have g := h5 n hn
      have kk := kp n hn
      have s1 := (hI.1 n hn).2.1.1
      have db := dv_b (p := (aSw a 130 n).toInt) (s := (aSw a 87 3).toInt) (by have := h3.1; omega)
      rw [hr2] at g kk db
      rw [Int.toNat_natCast] at g kk
      rw [e7, kk]
      exact ⟨g.1, by omega⟩
  · have hn₉ := al n hn
    rw [e133] at w
    rw [e130, e7]
    have z := Cb_h (a := rCa (rEm (rSk (aSw a) 512) 93) 93) 512 n hn₉.1 (by rw [Ca_o (by decide), T0_o (by decide) (by decide)]; exact hn₉.2) (by rw [Ca_o (by decide), T0_o (by decide) (by decide)]; exact w)
    rw [Ca_o (by decide), T0_o (by decide) (by decide), Ca_o (by decide), T0_o (by decide) (by decide)] at z
    unfold rB0
    rw [z]
    exact z0
theorem HS_t0 (h : qRv a) : (0 ≤ (rEm (rSk a 512) 93 87 5).toInt ∧ (rEm (rSk a 512) 93 87 5).toInt ≤ 100) ∧ (1 ≤ (rEm (rSk a 512) 93 87 3).toInt ∧ (rEm (rSk a 512) 93 87 3).toInt ≤ 256) ∧ (∀ n, xAl (rEm (rSk a 512) 93) n → (rEm (rSk a 512) 93 130 n).toInt / (rEm (rSk a 512) 93 87 3).toInt < 93) ∧ qI (rEm (rSk a 512) 93) := by
  obtain ⟨hI, h2, h3, h4, h5⟩ := h
  have o : ∀ c, c ≠ 92 → c ≠ 93 → rEm (rSk a 512) 93 c = a c := fun c w w2 => funext (fun k => T0_o w w2)
  unfold xAl
  rw [o 87 (by decide) (by decide), o 126 (by decide) (by decide), o 130 (by decide) (by decide)]
  refine ⟨h3.2.2.2.1, ⟨by have := h3.1; omega, h3.1.2⟩, fun n hn => ?_, I_cg hI (o _ (by decide) (by decide)) (o _ (by decide) (by decide)) (o _ (by decide) (by decide)) (o _ (by decide) (by decide)) (o _ (by decide) (by decide)) (o _ (by decide) (by decide)) (fun j => o _ (by omega) (by omega))⟩
  have g := (h5 n hn).1
  have := h3.2.1
  omega
theorem B0_e (h1 : aZ S1 = aSw a) (h2 : aZ S2 = rSk (aZ S1) 512) (h3 : aZ S3 = rEm (aZ S2) 93) (h4 : aZ S4 = rCb (rCa (aZ S3) 93) 512) : aZ S4 = rB0 a := by
  rw [h4, h3, h2, h1]
  rfl
theorem Fw_y (h : rFw a ≠ -1) : 0 ≤ rFw a ∧ rFw a < 93 ∧ 0 < (a 93 (rFw a).toNat).toInt := by
  have b := Fg_b (l := fun k => (a 93 k).toInt) 93
  have g := b.2.2 h
  unfold rFw at h ⊢
  exact ⟨by omega, by omega, g⟩
theorem Of_e (h : rFw a = -1) : rOf f a t = (a, t) := by
  cases f with
  | zero => rfl
  | succ f => exact if_pos h
theorem Of_y (h : rFw a = q) (h1 : q ≠ -1) (h2 : (rM2 a q t).2.2 = true) : rOf (f + 1) a t = rOf f (ma_u (ma_u (rM2 a q t).1 93 q.toNat 0) 92 q.toNat 0) (rM2 a q t).2.1 := by
  show (if rFw a = -1 then (a, t) else if (rM2 a (rFw a) t).2.2 = true then rOf f (ma_u (ma_u (rM2 a (rFw a) t).1 93 (rFw a).toNat 0) 92 (rFw a).toNat 0) (rM2 a (rFw a) t).2.1 else ((rM2 a (rFw a) t).1, (rM2 a (rFw a) t).2.1)) = _
  rw [h, if_neg h1, if_pos h2]
theorem Of_n (h : rFw a = q) (h1 : q ≠ -1) (h2 : (rM2 a q t).2.2 = false) : rOf (f + 1) a t = ((rM2 a q t).1, (rM2 a q t).2.1) := by
  show (if rFw a = -1 then (a, t) else if (rM2 a (rFw a) t).2.2 = true then rOf f (ma_u (ma_u (rM2 a (rFw a) t).1 93 (rFw a).toNat 0) 92 (rFw a).toNat 0) (rM2 a (rFw a) t).2.1 else ((rM2 a (rFw a) t).1, (rM2 a (rFw a) t).2.1)) = _
  rw [h, if_neg h1, if_neg (by rw [h2]; decide)]
theorem Rv_9 (h : qRv a) (h0 : 0 ≤ x.toInt) (h1 : x.toInt < (a 87 4).toInt) : qRv (ma_u a 87 9 x) := by
  obtain ⟨hI, h2, h3, h4, h5⟩ := h
  have r7 : ∀ k, k ≠ 9 → ma_u a 87 9 x 87 k = a 87 k := fun k w => xu_o (fun z => w z.2)
  have ro : ∀ c, c ≠ 87 → ma_u a 87 9 x c = a c := fun c w => ma_u_ne _ _ _ w
  have r9 : ma_u a 87 9 x 87 9 = x := xu_s
  unfold qRv xAl
  rw [r7 2 (by decide), r7 3 (by decide), r7 4 (by decide), r9, r7 5 (by decide), r7 0 (by decide), ro 92 (by decide), ro 126 (by decide), ro 130 (by decide), ro 128 (by decide)]
  exact ⟨I_87k hI (by decide) (by decide) (by decide), h2, ⟨h3.1, h3.2.1, ⟨h0, h1⟩, h3.2.2.2⟩, h4, h5⟩
theorem Cl_1 (h : b = (rC0 a).1) (ht : tg.toInt = (rC0 a).2) (hn : tg.toInt ≠ -1) : ma_u b 87 9 tg = rCl a := by
  unfold rCl rPr
  rw [← ht, if_pos hn, ← h, Int32.ofInt_toInt]
theorem Cl_2 (h : b = (rC0 a).1) (ht : tg.toInt = (rC0 a).2) (hn : tg.toInt = -1) (h0 : (b 92 (b 87 9).toNatClampNeg).toInt = 0) (hl : x.toInt = rLe b) (hx : x.toInt ≠ -1) : ma_u b 87 9 x = rCl a := by
  unfold rCl rPr
  rw [← ht, if_neg (by omega), ← h, if_pos ⟨h0, by omega⟩, ← hl, Int32.ofInt_toInt]
theorem u_sm9 : ma_u a c k (a c k) = a := by
  funext c₉ k₉
  show (if c₉ = c ∧ k₉ = k then a c k else a c₉ k₉) = a c₉ k₉
  split
  · next w => rw [w.1, w.2]
  · rfl
theorem Cl_3 (h : b = (rC0 a).1) (ht : tg.toInt = (rC0 a).2) (hn : tg.toInt = -1) (h0 : ¬ ((b 92 (b 87 9).toNatClampNeg).toInt = 0 ∧ rLe b ≠ -1)) : ma_u b 87 9 (b 87 9) = rCl a ∧ b = rCl a := by
  have e : rCl a = ma_u b 87 9 (b 87 9) := by
    unfold rCl rPr
    rw [← ht, if_neg (by omega), ← h, if_neg h0]
  exact ⟨e.symm, by rw [e, u_sm9]⟩
/-! room -/
def rFi (a : Nat → Nat → Int32) (z : Int) : Prop := (a 92 (a 87 9).toNatClampNeg).toInt + z ≤ (a 87 3).toInt
def rR1 (a : Nat → Nat → Int32) (z : Int) : Nat → Nat → Int32 := if (a 92 (a 87 9).toNatClampNeg).toInt + z ≤ (a 87 3).toInt then a else if rEf a 93 < 2 then rCl a else a
def rR2 (a : Nat → Nat → Int32) (z : Int) : Nat → Nat → Int32 := if (a 92 (a 87 9).toNatClampNeg).toInt + z ≤ (a 87 3).toInt then a else if rLe a ≠ -1 then ma_u a 87 9 (Int32.ofInt (rLe a)) else a
def rRs (a : Nat → Nat → Int32) (z : Int) : Nat → Nat → Int32 := if (a 87 3).toInt < z then a else rR2 (rR1 a z) z
def rRp (a : Nat → Nat → Int32) (z : Int) : Int := if (a 87 3).toInt < z then -1 else if (rRs a z 92 (rRs a z 87 9).toNatClampNeg).toInt + z ≤ (rRs a z 87 3).toInt then (rRs a z 87 9).toInt * (rRs a z 87 3).toInt + (rRs a z 92 (rRs a z 87 9).toNatClampNeg).toInt else -1
theorem R1_y (h : rFi a z) : rR1 a z = a := if_pos h
theorem R1_c (h : ¬ rFi a z) (h2 : rEf a 93 < 2) : rR1 a z = rCl a := (if_neg h).trans (if_pos h2)
theorem R1_n (h : ¬ rFi a z) (h2 : ¬ rEf a 93 < 2) : rR1 a z = a := (if_neg h).trans (if_neg h2)
theorem R2_y (h : rFi a z) : rR2 a z = a := if_pos h
theorem R2_l (h : ¬ rFi a z) (h2 : x.toInt = rLe a) (h3 : x.toInt ≠ -1) : rR2 a z = ma_u a 87 9 x := (if_neg h).trans ((if_pos (by omega)).trans (by rw [← h2, Int32.ofInt_toInt]))
theorem R2_n (h : ¬ rFi a z) (h2 : rLe a = -1) : rR2 a z = a := (if_neg h).trans (if_neg (fun w => w h2))
theorem Rs_s (h : (a 87 3).toInt < z) : rRs a z = a ∧ rRp a z = -1 := ⟨if_pos h, if_pos h⟩
theorem Rs_g (h : ¬ (a 87 3).toInt < z) (h1 : rR1 a z = b) (h2 : rR2 b z = ab) : rRs a z = ab ∧ (rFi ab z → rRp a z = (ab 87 9).toInt * (ab 87 3).toInt + (ab 92 (ab 87 9).toNatClampNeg).toInt) ∧ (¬ rFi ab z → rRp a z = -1) := by
  have e : rRs a z = ab := by
    unfold rRs
    rw [if_neg h, h1, h2]
  refine ⟨e, fun w => ?_, fun w => ?_⟩
  · unfold rRp
    rw [if_neg h, e]
    exact if_pos w
  · unfold rRp
    rw [if_neg h, e]
    exact if_neg w
theorem Ef_s9 : rEf a (n + 1) = rEf a n + (if (n : Int) < (a 87 4).toInt ∧ (a 92 n).toInt = 0 then 1 else 0) := rfl
theorem Ef_g : ∀ n m : Nat, (a 87 4).toInt ≤ (n : Int) → n ≤ m → rEf a m = rEf a n := by
  intro n m hn hm
  induction m with
  | zero => rw [show n = 0 by omega]
  | succ m ih =>
    by_cases w : n = m + 1
    · rw [w]
    · rw [Ef_s9, ih (by omega), if_neg (by omega), Int.add_zero]
theorem Ef_y (h : x.toInt = rEf a y.toNatClampNeg) (h0 : 0 ≤ y.toInt) (h1 : y.toInt < (a 87 4).toInt) (ht : (a 92 y.toNatClampNeg).toInt = 0) {x₉ y₉ : Int32} (hx : x₉.toInt = x.toInt + 1) (hy : y₉.toInt = y.toInt + 1) : x₉.toInt = rEf a y₉.toNatClampNeg := by
  have t := tn_cast h0
  have t2 := tn_cast (x := y₉) (by omega)
  rw [show y₉.toNatClampNeg = y.toNatClampNeg + 1 from by omega, Ef_s9, if_pos ⟨by omega, ht⟩]
  omega
theorem Ef_n (h : x.toInt = rEf a y.toNatClampNeg) (h0 : 0 ≤ y.toInt) (ht : (a 92 y.toNatClampNeg).toInt ≠ 0) {y₉ : Int32} (hy : y₉.toInt = y.toInt + 1) : x.toInt = rEf a y₉.toNatClampNeg := by
  have t := tn_cast h0
  have t2 := tn_cast (x := y₉) (by omega)
  rw [show y₉.toNatClampNeg = y.toNatClampNeg + 1 from by omega, Ef_s9, if_neg (fun w => ht w.2)]
  omega
theorem Ef_e (h : x.toInt = rEf a y.toNatClampNeg) (h0 : 0 ≤ y.toInt) (h1 : (a 87 4).toInt ≤ y.toInt ∨ 93 ≤ y.toInt) (h9 : y.toInt ≤ 93) : x.toInt = rEf a 93 := by
  have t := tn_cast h0
  rcases h1 with w | w
  · rw [h]
    exact (Ef_g _ _ (by omega) (by omega)).symm
  · rw [h, show y.toNatClampNeg = 93 from by omega]
/-! a new one -/
def rMd (a : Nat → Nat → Int32) (y : Int32) : Nat → Nat → Int32 := if 0 ≤ (a 87 9).toInt ∧ (a 87 9).toInt < 93 then ma_u a 92 (a 87 9).toNatClampNeg (a 92 (a 87 9).toNatClampNeg + a 128 y.toNatClampNeg) else a
def rMk (a : Nat → Nat → Int32) (kd wd : Int32) (L : Int64) (rt : Int32) : Nat → Nat → Int32 := if (a 69 6).toInt < 512 then (if rRp a (wd + 1).toInt = -1 then rRs a (wd + 1).toInt else aR0 (rMd (aAd (rRs a (wd + 1).toInt) (rRs a (wd + 1).toInt 69 6) (zFn (rRs a (wd + 1).toInt 69 6) kd (wd + 1) (Int32.ofInt (rRp a (wd + 1).toInt))) L) (rRs a (wd + 1).toInt 69 6)) rt (rRs a (wd + 1).toInt 69 6)) else a
def rMn (a : Nat → Nat → Int32) (wd : Int32) : Int32 := if (a 69 6).toInt < 512 then (if rRp a (wd + 1).toInt = -1 then -1 else rRs a (wd + 1).toInt 69 6) else -1
theorem rMk_0 {kd wd rt : Int32} {L : Int64} (h : ¬ (a 69 6).toInt < 512) : rMk a kd wd L rt = a ∧ rMn a wd = -1 := ⟨if_neg h, if_neg h⟩
theorem rMk_1 {kd wd rt : Int32} {L : Int64} (h : (a 69 6).toInt < 512) (h1 : rRp a (wd + 1).toInt = -1) : rMk a kd wd L rt = rRs a (wd + 1).toInt ∧ rMn a wd = -1 := by
  unfold rMk rMn
  rw [if_pos h, if_pos h, if_pos h1, if_pos h1]
  exact ⟨rfl, rfl⟩
theorem rMk_2 {kd wd rt pl : Int32} {L : Int64} (h : (a 69 6).toInt < 512) (e : b = rRs a (wd + 1).toInt) (h1 : pl.toInt = rRp a (wd + 1).toInt) (h2 : ¬ pl.toInt = -1) (hy : y = b 69 6) : rMk a kd wd L rt = aR0 (rMd (aAd b y (zFn y kd (wd + 1) pl) L) y) rt y ∧ rMn a wd = y := by
  unfold rMk rMn
  rw [if_pos h, if_pos h, ← h1, if_neg h2, if_neg h2, ← e, hy, Int32.ofInt_toInt]
  exact ⟨rfl, rfl⟩
theorem ad_9 {F : Nat → Int32} {L : Int64} (h : 82 ≤ c ∧ c ≤ 93) : aAd a y F L c k = a c k := by
  unfold aAd
  rw [xu_o (by omega), xu_o (by omega)]
  unfold zIw
  rw [if_neg (by omega), xu_o (by omega)]
  unfold zNw
  rw [if_neg (by omega), if_neg (by omega), if_neg (by omega)]
theorem o9_ad {F : Nat → Int32} {L : Int64} (h : zO9 a b) : zO9 (aAd a y F L) (aAd b y F L) := by
  have n0 : ∀ m : Nat, zO9 (zNw a m F L) (zNw b m F L) := fun m c₉ k₉ q => by
    unfold zNw
    rw [h c₉ k₉ q]
  have n1 : ∀ (d e : Nat → Nat → Int32) (p j : Int), zO9 d e → zO9 (zIw d p L j) (zIw e p L j) := fun d e p j o c₉ k₉ q => by
    unfold zIw
    rw [o c₉ k₉ q]
  unfold aAd
  rw [h 69 6 (by decide), h 69 8 (by decide)]
  exact o9_u (o9_u (n1 _ _ _ _ (o9_u (n0 _))))
theorem Z_f {f : (Nat → Nat → Int32) → Nat → Nat → Int32} (ho : zO9 (f (aS 75 S)) (f (aZ S))) (hr : ∀ a c k, 82 ≤ c ∧ c ≤ 93 → f a c k = a c k) (h : aS 75 S₉ = f (aS 75 S)) (e1 : mI S₉ 91 = mI S 91) (e2 : mI S₉ 92 = mI S 92) (e3 : mI S₉ 93 = mI S 93) : aZ S₉ = f (aZ S) := by
  refine Z_g (f := f) (fun c k h1 h2 h3 => ?_) (fun k => hr _ _ _ (by omega)) (fun c k hc => hr _ _ _ (by omega)) e1 e2 e3
  rw [h]
  by_cases w : c < 82 ∨ 93 < c
  · exact ho c k w
  · rw [hr _ _ _ (by omega), hr _ _ _ (by omega), aZ_o h1 h2 h3]
theorem Z_ad {F : Nat → Int32} {L : Int64} (h : aS 75 S₉ = aAd (aS 75 S) y F L) (e1 : mI S₉ 91 = mI S 91) (e2 : mI S₉ 92 = mI S 92) (e3 : mI S₉ 93 = mI S 93) : aZ S₉ = aAd (aZ S) y F L :=
  Z_f (f := fun a => aAd a y F L) (o9_ad Z_o9) (fun _ _ _ w => ad_9 w) h e1 e2 e3
theorem o9_r0 (h : zO9 a b) : zO9 (aR0 a i y) (aR0 b i y) := by
  have e : aNm a y = aNm b y := by
    unfold aNm
    rw [h 126 _ (by decide)]
  unfold aR0
  rw [e]
  exact o9_u h
theorem Z_r0 (h : aS 75 S₉ = aR0 (aS 75 S) i y) (e1 : mI S₉ 91 = mI S 91) (e2 : mI S₉ 92 = mI S 92) (e3 : mI S₉ 93 = mI S 93) : aZ S₉ = aR0 (aZ S) i y :=
  Z_f (f := fun a => aR0 a i y) (o9_r0 Z_o9) (fun _ _ _ w => xu_o (by omega)) h e1 e2 e3
theorem Z_th {nu kd sz pl : Int32} {rr : Int64} (hN : 126 ≤ mN S) (hr : ∀ n c, mR S 70 n = some c → c < mN S) : aZ (zTh S nu kd sz rr pl) = aZ S :=
  Z_f (f := fun a => a) Z_o9 (fun _ _ _ _ => rfl) (mk_a (Or.inl rfl) hN hr) (funext (fun _ => zTh_lo (by decide) hN)) (funext (fun _ => zTh_lo (by decide) hN)) (funext (fun _ => zTh_lo (by decide) hN))
theorem Md_y9 (h : aZ S = ab) (f2 : x = ab 128 y.toNatClampNeg) (h0 : 0 ≤ (mI S 91 5).toInt) (h9 : (mI S 91 5).toInt < 93) : ma_u (aZ S) 92 (mI S 91 5).toNatClampNeg (mI S 92 (mI S 91 5).toNatClampNeg + x) = rMd ab y := by
  have e9 : ab 87 9 = mI S 91 5 := by
    rw [← h]
    rfl
  have e2 : ab 92 (mI S 91 5).toNatClampNeg = mI S 92 (mI S 91 5).toNatClampNeg := by
    rw [← h]
    exact aZ_9 (Or.inl rfl)
  unfold rMd
  rw [e9, if_pos ⟨h0, h9⟩, e2, ← f2, h]
theorem Md_no (h : aZ S = ab) (h0 : (mI S 91 5).toInt < 0 ∨ 93 ≤ (mI S 91 5).toInt) : aZ S = rMd ab y := by
  have e9 : ab 87 9 = mI S 91 5 := by
    rw [← h]
    rfl
  unfold rMd
  rw [e9, if_neg (by omega)]
  exact h
/-- the room that is found -/
theorem Rp_bd (h : qRv a) (hz : 1 ≤ z) (hf : rFi a z) : 0 ≤ (a 87 9).toInt * (a 87 3).toInt + (a 92 (a 87 9).toNatClampNeg).toInt ∧ (a 87 9).toInt * (a 87 3).toInt + (a 92 (a 87 9).toNatClampNeg).toInt + z ≤ 1500 := by
  obtain ⟨hI, h2, h3, h4, h5⟩ := h
  have tc := tn_cast (x := a 87 9) h3.2.2.1.1
  have t := (h4 (a 87 9).toNatClampNeg (by have := h3.2.1; have := h3.2.2.1; omega)).1
  have m := ml_le (q := (a 87 9).toInt) (t := (a 87 4).toInt) (s := (a 87 3).toInt) h3.2.2.1.2 (by have := h3.1; omega)
  have m0 : 0 ≤ (a 87 9).toInt * (a 87 3).toInt := Int.mul_nonneg h3.2.2.1.1 (by have := h3.1; omega)
  have := h3.2.2.2.2
  unfold rFi at hf
  omega
end F15

/-! from 95.s20 -/
/-! REGIONS, the class (written by wip/tools/gen15z.py) -/
theorem g_43_91_sz_0 {X : Nat × (Nat → Int32)} {d w : Nat} {S : ma_S} {Q : Option ma_V ⊕ Nat → ma_S → Prop}  (hd : 4 ≤ d) (hw : 138 ≤ w) (hS : zT S) (h : ma_wp X (d - 1) (w - 20) 264 0 [(0, .inr (.inr (some 91)))] [] S (zi (fun v2 S1 => zT S1 ∧ (ma_wp X (d - 1) (w - 22) 44 0 [(0, .inr (.inr (some 91)))] [] S1 (zv (fun S3 => zT S3 ∧ (ma_wp X (d - 1) (w - 21) 46 0 [(0, .inr (.inr (some 91)))] [] S3 (zv (fun S5 => zT S5 ∧ (ma_wp X (d - 1) (w - 22) 47 0 [(0, .inr (.inr (some 91)))] [] S5 (zv (fun S7 => zT S7 ∧ (ma_wp X (d - 1) (w - 22) 48 0 [(0, .inr (.inr (some 91)))] [] (ma_put S7 91 6 (.inl (-1 : Int32))) (zi (fun v10 S9 => zT S9 ∧ (ma_wp X d w 43 29 [(0, .inr (.inr (some 91))), (1, .inl v2), (2, .inl v10), (3, .inl (0 : Int32))] [] S9 Q)) (fun x S9 => Q (.inr x) S9)))) (fun x S9 => Q (.inr x) S9)))) (fun x S9 => Q (.inr x) S9)))) (fun x S9 => Q (.inr x) S9)))) (fun _ _ => False))) : ma_wp X d w 43 0 [(0, .inr (.inr (some 91)))] [] S Q := by
  refine zw_push hm_43 dX4_cleanAll_0 (v := .inr (.inr (some 91))) rfl ?_
  refine zw_cv hm_43 dX4_cleanAll_1 v_4_70_4 hm_264 [] [] rfl (zT_rt hS s_91 rfl) ⟨by omega, by omega⟩ rfl (zw_mono h (zi_go ?_ ?_))
  · intro v2 S1 hv
    obtain ⟨hS1, h⟩ := hv
    refine zw_sto hm_43 dX4_cleanAll_4 [(1, .inl v2), (0, .inr (.inr (some 91)))] rfl rfl rfl ?_
    refine zw_push hm_43 dX4_cleanAll_5 (v := .inr (.inr (some 91))) rfl ?_
    refine zw_cv hm_43 dX4_cleanAll_6 v_4_73_4 hm_44 [] [] rfl (zT_rt hS1 s_91 rfl) ⟨by omega, by omega⟩ rfl (zw_mono h (zv_go ?_ ?_))
    · intro S3 hv
      obtain ⟨hS3, h⟩ := hv
      refine zw_push hm_43 dX4_cleanAll_9 (v := .inr (.inr (some 91))) rfl ?_
      refine zw_cv hm_43 dX4_cleanAll_10 v_4_77_4 hm_46 [] [] rfl (zT_rt hS3 s_91 rfl) ⟨by omega, by omega⟩ rfl (zw_mono h (zv_go ?_ ?_))
      · intro S5 hv
        obtain ⟨hS5, h⟩ := hv
        refine zw_push hm_43 dX4_cleanAll_13 (v := .inr (.inr (some 91))) rfl ?_
        refine zw_cv hm_43 dX4_cleanAll_14 v_4_80_4 hm_47 [] [] rfl (zT_rt hS5 s_91 rfl) ⟨by omega, by omega⟩ rfl (zw_mono h (zv_go ?_ ?_))
        · intro S7 hv
          obtain ⟨hS7, h⟩ := hv
          refine zw_push hm_43 dX4_cleanAll_17 (v := .inr (.inr (some 91))) rfl ?_
          refine zw_push hm_43 dX4_cleanAll_18 (v := .inl (-1 : Int32)) rfl ?_
          refine zw_pf hm_43 dX4_cleanAll_19 (zT_is hS7 s_91) (zT_t hS7 s_91) p_4_83_4 zk_int ?_
          refine zw_push hm_43 dX4_cleanAll_22 (v := .inr (.inr (some 91))) rfl ?_
          refine zw_cv hm_43 dX4_cleanAll_23 v_4_86_4 hm_48 [] [] rfl (zT_rt (zT_pi hS7) s_91 rfl) ⟨by omega, by omega⟩ rfl (zw_mono h (zi_go ?_ ?_))
          · intro v10 S9 hv
            obtain ⟨hS9, h⟩ := hv
            refine zw_sto hm_43 dX4_cleanAll_26 [(2, .inl v10), (1, .inl v2), (0, .inr (.inr (some 91)))] rfl rfl rfl ?_
            refine zw_push hm_43 dX4_cleanAll_27 (v := .inl (0 : Int32)) rfl ?_
            refine zw_sto hm_43 dX4_cleanAll_28 [(3, .inl (0 : Int32)), (2, .inl v10), (1, .inl v2), (0, .inr (.inr (some 91)))] rfl rfl rfl ?_
            exact zw_sub (ma_nd_of (ks := [0, 1, 2, 3]) rfl (by decide)) (ma_nd_of (ks := [3, 2, 1, 0]) rfl (by decide)) (ma_le_cons rfl (ma_le_cons rfl (ma_le_cons rfl (ma_le_cons rfl (ma_le_nil _))))) h
          · intro x S9 hx
            exact ⟨by decide, hx⟩
        · intro x S9 hx
          exact ⟨by decide, hx⟩
      · intro x S9 hx
        exact ⟨by decide, hx⟩
    · intro x S9 hx
      exact ⟨by decide, hx⟩
  · intro x S9 hx
    exact hx.elim
theorem g_43_91_sz_29 {X : Nat × (Nat → Int32)} {d w : Nat} {S : ma_S} {Q : Option ma_V ⊕ Nat → ma_S → Prop} (l1 : Int32) (l2 : Int32) (l3 : Int32) (hd : 4 ≤ d) (hw : 160 ≤ w) (hS : zT S) (h : if (93 : Int32) ≤ l3 then (if (mI S 91 6) = (-1 : Int32) then (if (mI S 91 5) < 0 then (ma_wp X (d - 1) (w - 21) 52 0 [(0, .inr (.inr (some 91)))] [] S (zi (fun v2 S1 => zT S1 ∧ (if v2 = (-1 : Int32) then (Q (.inl (some (.inl l1))) (ma_put S1 91 5 (.inl (mI S1 91 5)))) else (Q (.inl (some (.inl l1))) (ma_put S1 91 5 (.inl v2))))) (fun x S9 => Q (.inr x) S9))) else (if (93 : Int32) ≤ (mI S 91 5) then (ma_wp X (d - 1) (w - 21) 52 0 [(0, .inr (.inr (some 91)))] [] S (zi (fun v4 S3 => zT S3 ∧ (if v4 = (-1 : Int32) then (Q (.inl (some (.inl l1))) (ma_put S3 91 5 (.inl (mI S3 91 5)))) else (Q (.inl (some (.inl l1))) (ma_put S3 91 5 (.inl v4))))) (fun x S9 => Q (.inr x) S9))) else ((0 ≤ (mI S 91 5) ∧ (mI S 91 5).toNatClampNeg < 93) ∧ (if (mI S 92 (mI S 91 5).toNatClampNeg) = 0 then (ma_wp X (d - 1) (w - 21) 52 0 [(0, .inr (.inr (some 91)))] [] S (zi (fun v6 S5 => zT S5 ∧ (if v6 = (-1 : Int32) then (Q (.inl (some (.inl l1))) (ma_put S5 91 5 (.inl (mI S5 91 5)))) else (Q (.inl (some (.inl l1))) (ma_put S5 91 5 (.inl v6))))) (fun x S9 => Q (.inr x) S9))) else (Q (.inl (some (.inl l1))) S))))) else (Q (.inl (some (.inl l1))) (ma_put S 91 5 (.inl (mI S 91 6))))) else (if l2 = (-1 : Int32) then (if (mI S 91 6) = (-1 : Int32) then (if (mI S 91 5) < 0 then (ma_wp X (d - 1) (w - 21) 52 0 [(0, .inr (.inr (some 91)))] [] S (zi (fun v8 S7 => zT S7 ∧ (if v8 = (-1 : Int32) then (Q (.inl (some (.inl l1))) (ma_put S7 91 5 (.inl (mI S7 91 5)))) else (Q (.inl (some (.inl l1))) (ma_put S7 91 5 (.inl v8))))) (fun x S9 => Q (.inr x) S9))) else (if (93 : Int32) ≤ (mI S 91 5) then (ma_wp X (d - 1) (w - 21) 52 0 [(0, .inr (.inr (some 91)))] [] S (zi (fun v10 S9 => zT S9 ∧ (if v10 = (-1 : Int32) then (Q (.inl (some (.inl l1))) (ma_put S9 91 5 (.inl (mI S9 91 5)))) else (Q (.inl (some (.inl l1))) (ma_put S9 91 5 (.inl v10))))) (fun x S9 => Q (.inr x) S9))) else ((0 ≤ (mI S 91 5) ∧ (mI S 91 5).toNatClampNeg < 93) ∧ (if (mI S 92 (mI S 91 5).toNatClampNeg) = 0 then (ma_wp X (d - 1) (w - 21) 52 0 [(0, .inr (.inr (some 91)))] [] S (zi (fun v12 S11 => zT S11 ∧ (if v12 = (-1 : Int32) then (Q (.inl (some (.inl l1))) (ma_put S11 91 5 (.inl (mI S11 91 5)))) else (Q (.inl (some (.inl l1))) (ma_put S11 91 5 (.inl v12))))) (fun x S9 => Q (.inr x) S9))) else (Q (.inl (some (.inl l1))) S))))) else (Q (.inl (some (.inl l1))) (ma_put S 91 5 (.inl (mI S 91 6))))) else (ma_wp X (d - 1) (w - 24) 49 0 [(0, .inr (.inr (some 91))), (1, .inl l2)] [] S (zi (fun v14 S13 => zT S13 ∧ (if v14 = 0 then (if (mI S13 91 6) = (-1 : Int32) then (if (mI S13 91 5) < 0 then (ma_wp X (d - 1) (w - 21) 52 0 [(0, .inr (.inr (some 91)))] [] S13 (zi (fun v16 S15 => zT S15 ∧ (if v16 = (-1 : Int32) then (Q (.inl (some (.inl l1))) (ma_put S15 91 5 (.inl (mI S15 91 5)))) else (Q (.inl (some (.inl l1))) (ma_put S15 91 5 (.inl v16))))) (fun x S9 => Q (.inr x) S9))) else (if (93 : Int32) ≤ (mI S13 91 5) then (ma_wp X (d - 1) (w - 21) 52 0 [(0, .inr (.inr (some 91)))] [] S13 (zi (fun v18 S17 => zT S17 ∧ (if v18 = (-1 : Int32) then (Q (.inl (some (.inl l1))) (ma_put S17 91 5 (.inl (mI S17 91 5)))) else (Q (.inl (some (.inl l1))) (ma_put S17 91 5 (.inl v18))))) (fun x S9 => Q (.inr x) S9))) else ((0 ≤ (mI S13 91 5) ∧ (mI S13 91 5).toNatClampNeg < 93) ∧ (if (mI S13 92 (mI S13 91 5).toNatClampNeg) = 0 then (ma_wp X (d - 1) (w - 21) 52 0 [(0, .inr (.inr (some 91)))] [] S13 (zi (fun v20 S19 => zT S19 ∧ (if v20 = (-1 : Int32) then (Q (.inl (some (.inl l1))) (ma_put S19 91 5 (.inl (mI S19 91 5)))) else (Q (.inl (some (.inl l1))) (ma_put S19 91 5 (.inl v20))))) (fun x S9 => Q (.inr x) S9))) else (Q (.inl (some (.inl l1))) S13))))) else (Q (.inl (some (.inl l1))) (ma_put S13 91 5 (.inl (mI S13 91 6))))) else (ma_wp X (d - 1) (w - 22) 48 0 [(0, .inr (.inr (some 91)))] [] S13 (zi (fun v22 S21 => zT S21 ∧ (ma_wp X d w 43 29 [(0, .inr (.inr (some 91))), (1, .inl l1), (2, .inl v22), (3, .inl (l3 + (1 : Int32)))] [] S21 Q)) (fun x S9 => Q (.inr x) S9))))) (fun x S9 => Q (.inr x) S9))))) : ma_wp X d w 43 29 [(0, .inr (.inr (some 91))), (1, .inl l1), (2, .inl l2), (3, .inl l3)] [] S Q := by
  refine zw_push hm_43 dX4_cleanAll_29 (v := .inl l3) rfl ?_
  refine zw_push hm_43 dX4_cleanAll_30 (v := .inl (93 : Int32)) rfl ?_
  refine zw_if2 hm_43 dX4_cleanAll_32 (t := 59) rfl zc2_ge ?_ ?_
  · intro hc
    rw [if_pos hc] at h
    refine zw_push hm_43 dX4_cleanAll_59 (v := .inr (.inr (some 91))) rfl ?_
    refine zw_gf hm_43 dX4_cleanAll_60 (v := .inl (mI S 91 6)) (zT_is hS s_91) (zT_t hS s_91) rfl f_4_83_4 rfl ?_
    refine zw_push hm_43 dX4_cleanAll_63 (v := .inl (-1 : Int32)) rfl ?_
    refine zw_if2 hm_43 dX4_cleanAll_64 (t := 78) rfl zc2_eq ?_ ?_
    · intro hc
      rw [if_pos hc] at h
      refine zw_push hm_43 dX4_cleanAll_78 (v := .inr (.inr (some 91))) rfl ?_
      refine zw_push hm_43 dX4_cleanAll_79 (v := .inr (.inr (some 91))) rfl ?_
      refine zw_gf hm_43 dX4_cleanAll_80 (v := .inl (mI S 91 5)) (zT_is hS s_91) (zT_t hS s_91) rfl f_4_34_4 rfl ?_
      refine zw_cv hm_43 dX4_cleanAll_83 v_4_93_4 hm_50 [.inl (mI S 91 5)] [] rfl (zT_rt hS s_91 rfl) ⟨by omega, by omega⟩ rfl ?_
      show ma_wp X (d - 1) (w - 21) 50 0 [(0, .inr (.inr (some 91))), (1, .inl (mI S 91 5))] [] S _
      refine zw_push hm_50 dX4_topOf_0 (v := .inl (mI S 91 5)) rfl ?_
      refine zw_if0 hm_50 dX4_topOf_1 (t := 19) rfl zc0_lt ?_ ?_
      · intro hc
        rw [if_pos hc] at h
        refine zw_push hm_50 dX4_topOf_19 (v := .inl (0 : Int32)) rfl ?_
        refine zw_iret hm_50 dX4_topOf_20 ?_
        show ma_wp X d w 43 86 [(0, .inr (.inr (some 91))), (1, .inl l1), (2, .inl l2), (3, .inl l3)] [.inl (0 : Int32)] S _
        refine zw_if0 hm_43 dX4_cleanAll_86 (t := 104) rfl zc0_ne (fun hc => absurd hc (by decide)) (fun _ => ?_)
        refine zw_push hm_43 dX4_cleanAll_89 (v := .inr (.inr (some 91))) rfl ?_
        refine zw_push hm_43 dX4_cleanAll_90 (v := .inr (.inr (some 91))) rfl ?_
        refine zw_cv hm_43 dX4_cleanAll_91 v_4_54_4 hm_52 [] [.inr (.inr (some 91))] rfl (zT_rt hS s_91 rfl) ⟨by omega, by omega⟩ rfl (zw_mono h (zi_go ?_ ?_))
        · intro v2 S1 hv
          obtain ⟨hS1, h⟩ := hv
          refine zw_push hm_43 dX4_cleanAll_94 (v := .inr (.inr (some 91))) rfl ?_
          refine zw_gf hm_43 dX4_cleanAll_95 (v := .inl (mI S1 91 5)) (zT_is hS1 s_91) (zT_t hS1 s_91) rfl f_4_34_4 rfl ?_
          refine zw_cs hm_43 dX4_cleanAll_98 pn_4_57 sl_4_57 hm_54 [.inl (mI S1 91 5), .inl v2] [.inr (.inr (some 91))] rfl ⟨by omega, by omega⟩ rfl ?_
          show ma_wp X (d - 1) (w - 21) 54 0 [(0, .inl v2), (1, .inl (mI S1 91 5))] [] S1 _
          refine zw_push hm_54 dX4_orElse_0 (v := .inl v2) rfl ?_
          refine zw_push hm_54 dX4_orElse_1 (v := .inl (-1 : Int32)) rfl ?_
          refine zw_if2 hm_54 dX4_orElse_2 (t := 9) rfl zc2_ne ?_ ?_
          · intro hc
            rw [if_neg hc] at h
            refine zw_push hm_54 dX4_orElse_9 (v := .inl v2) rfl ?_
            refine zw_iret hm_54 dX4_orElse_10 ?_
            show ma_wp X d w 43 101 [(0, .inr (.inr (some 91))), (1, .inl l1), (2, .inl l2), (3, .inl l3)] [.inl v2, .inr (.inr (some 91))] S1 _
            refine zw_pf hm_43 dX4_cleanAll_101 (zT_is hS1 s_91) (zT_t hS1 s_91) p_4_34_4 zk_int ?_
            refine zw_push hm_43 dX4_cleanAll_104 (v := .inl l1) rfl ?_
            exact zw_iret hm_43 dX4_cleanAll_105 h
          · intro hc
            rw [if_pos (Classical.not_not.mp hc)] at h
            refine zw_push hm_54 dX4_orElse_5 (v := .inl (mI S1 91 5)) rfl ?_
            refine zw_goto hm_54 dX4_orElse_6 (t := 10) rfl ?_
            refine zw_iret hm_54 dX4_orElse_10 ?_
            show ma_wp X d w 43 101 [(0, .inr (.inr (some 91))), (1, .inl l1), (2, .inl l2), (3, .inl l3)] [.inl (mI S1 91 5), .inr (.inr (some 91))] S1 _
            refine zw_pf hm_43 dX4_cleanAll_101 (zT_is hS1 s_91) (zT_t hS1 s_91) p_4_34_4 zk_int ?_
            refine zw_push hm_43 dX4_cleanAll_104 (v := .inl l1) rfl ?_
            exact zw_iret hm_43 dX4_cleanAll_105 h
        · intro x S9 hx
          exact ⟨by decide, hx⟩
      · intro hc
        rw [if_neg hc] at h
        refine zw_push hm_50 dX4_topOf_4 (v := .inl (mI S 91 5)) rfl ?_
        refine zw_push hm_50 dX4_topOf_5 (v := .inl (93 : Int32)) rfl ?_
        refine zw_if2 hm_50 dX4_topOf_7 (t := 19) rfl zc2_ge ?_ ?_
        · intro hc
          rw [if_pos hc] at h
          refine zw_push hm_50 dX4_topOf_19 (v := .inl (0 : Int32)) rfl ?_
          refine zw_iret hm_50 dX4_topOf_20 ?_
          show ma_wp X d w 43 86 [(0, .inr (.inr (some 91))), (1, .inl l1), (2, .inl l2), (3, .inl l3)] [.inl (0 : Int32)] S _
          refine zw_if0 hm_43 dX4_cleanAll_86 (t := 104) rfl zc0_ne (fun hc => absurd hc (by decide)) (fun _ => ?_)
          refine zw_push hm_43 dX4_cleanAll_89 (v := .inr (.inr (some 91))) rfl ?_
          refine zw_push hm_43 dX4_cleanAll_90 (v := .inr (.inr (some 91))) rfl ?_
          refine zw_cv hm_43 dX4_cleanAll_91 v_4_54_4 hm_52 [] [.inr (.inr (some 91))] rfl (zT_rt hS s_91 rfl) ⟨by omega, by omega⟩ rfl (zw_mono h (zi_go ?_ ?_))
          · intro v4 S3 hv
            obtain ⟨hS3, h⟩ := hv
            refine zw_push hm_43 dX4_cleanAll_94 (v := .inr (.inr (some 91))) rfl ?_
            refine zw_gf hm_43 dX4_cleanAll_95 (v := .inl (mI S3 91 5)) (zT_is hS3 s_91) (zT_t hS3 s_91) rfl f_4_34_4 rfl ?_
            refine zw_cs hm_43 dX4_cleanAll_98 pn_4_57 sl_4_57 hm_54 [.inl (mI S3 91 5), .inl v4] [.inr (.inr (some 91))] rfl ⟨by omega, by omega⟩ rfl ?_
            show ma_wp X (d - 1) (w - 21) 54 0 [(0, .inl v4), (1, .inl (mI S3 91 5))] [] S3 _
            refine zw_push hm_54 dX4_orElse_0 (v := .inl v4) rfl ?_
            refine zw_push hm_54 dX4_orElse_1 (v := .inl (-1 : Int32)) rfl ?_
            refine zw_if2 hm_54 dX4_orElse_2 (t := 9) rfl zc2_ne ?_ ?_
            · intro hc
              rw [if_neg hc] at h
              refine zw_push hm_54 dX4_orElse_9 (v := .inl v4) rfl ?_
              refine zw_iret hm_54 dX4_orElse_10 ?_
              show ma_wp X d w 43 101 [(0, .inr (.inr (some 91))), (1, .inl l1), (2, .inl l2), (3, .inl l3)] [.inl v4, .inr (.inr (some 91))] S3 _
              refine zw_pf hm_43 dX4_cleanAll_101 (zT_is hS3 s_91) (zT_t hS3 s_91) p_4_34_4 zk_int ?_
              refine zw_push hm_43 dX4_cleanAll_104 (v := .inl l1) rfl ?_
              exact zw_iret hm_43 dX4_cleanAll_105 h
            · intro hc
              rw [if_pos (Classical.not_not.mp hc)] at h
              refine zw_push hm_54 dX4_orElse_5 (v := .inl (mI S3 91 5)) rfl ?_
              refine zw_goto hm_54 dX4_orElse_6 (t := 10) rfl ?_
              refine zw_iret hm_54 dX4_orElse_10 ?_
              show ma_wp X d w 43 101 [(0, .inr (.inr (some 91))), (1, .inl l1), (2, .inl l2), (3, .inl l3)] [.inl (mI S3 91 5), .inr (.inr (some 91))] S3 _
              refine zw_pf hm_43 dX4_cleanAll_101 (zT_is hS3 s_91) (zT_t hS3 s_91) p_4_34_4 zk_int ?_
              refine zw_push hm_43 dX4_cleanAll_104 (v := .inl l1) rfl ?_
              exact zw_iret hm_43 dX4_cleanAll_105 h
          · intro x S9 hx
            exact ⟨by decide, hx⟩
        · intro hc
          rw [if_neg hc] at h
          refine zw_push hm_50 dX4_topOf_10 (v := .inr (.inr (some 91))) rfl ?_
          refine zw_gf hm_50 dX4_topOf_11 (v := .inr (.inr (some 92))) (zT_is hS s_91) (zT_t hS s_91) rfl f_4_9_4 (zT_f hS r_91_7) ?_
          refine zw_push hm_50 dX4_topOf_14 (v := .inl (mI S 91 5)) rfl ?_
          obtain ⟨hg, h⟩ := h
          refine zw_ia hm_50 dX4_topOf_15 (zT_is hS s_92) (zT_h hS s_92) rfl hg ?_
          show ma_wp X (d - 1) (w - 21) 50 16 [(0, .inr (.inr (some 91))), (1, .inl (mI S 91 5))] [.inl (mI S 92 (mI S 91 5).toNatClampNeg)] S _
          refine zw_goto hm_50 dX4_topOf_16 (t := 20) rfl ?_
          refine zw_iret hm_50 dX4_topOf_20 ?_
          show ma_wp X d w 43 86 [(0, .inr (.inr (some 91))), (1, .inl l1), (2, .inl l2), (3, .inl l3)] [.inl (mI S 92 (mI S 91 5).toNatClampNeg)] S _
          refine zw_if0 hm_43 dX4_cleanAll_86 (t := 104) rfl zc0_ne ?_ ?_
          · intro hc
            rw [if_neg hc] at h
            refine zw_push hm_43 dX4_cleanAll_104 (v := .inl l1) rfl ?_
            exact zw_iret hm_43 dX4_cleanAll_105 h
          · intro hc
            rw [if_pos (Classical.not_not.mp hc)] at h
            refine zw_push hm_43 dX4_cleanAll_89 (v := .inr (.inr (some 91))) rfl ?_
            refine zw_push hm_43 dX4_cleanAll_90 (v := .inr (.inr (some 91))) rfl ?_
            refine zw_cv hm_43 dX4_cleanAll_91 v_4_54_4 hm_52 [] [.inr (.inr (some 91))] rfl (zT_rt hS s_91 rfl) ⟨by omega, by omega⟩ rfl (zw_mono h (zi_go ?_ ?_))
            · intro v6 S5 hv
              obtain ⟨hS5, h⟩ := hv
              refine zw_push hm_43 dX4_cleanAll_94 (v := .inr (.inr (some 91))) rfl ?_
              refine zw_gf hm_43 dX4_cleanAll_95 (v := .inl (mI S5 91 5)) (zT_is hS5 s_91) (zT_t hS5 s_91) rfl f_4_34_4 rfl ?_
              refine zw_cs hm_43 dX4_cleanAll_98 pn_4_57 sl_4_57 hm_54 [.inl (mI S5 91 5), .inl v6] [.inr (.inr (some 91))] rfl ⟨by omega, by omega⟩ rfl ?_
              show ma_wp X (d - 1) (w - 21) 54 0 [(0, .inl v6), (1, .inl (mI S5 91 5))] [] S5 _
              refine zw_push hm_54 dX4_orElse_0 (v := .inl v6) rfl ?_
              refine zw_push hm_54 dX4_orElse_1 (v := .inl (-1 : Int32)) rfl ?_
              refine zw_if2 hm_54 dX4_orElse_2 (t := 9) rfl zc2_ne ?_ ?_
              · intro hc
                rw [if_neg hc] at h
                refine zw_push hm_54 dX4_orElse_9 (v := .inl v6) rfl ?_
                refine zw_iret hm_54 dX4_orElse_10 ?_
                show ma_wp X d w 43 101 [(0, .inr (.inr (some 91))), (1, .inl l1), (2, .inl l2), (3, .inl l3)] [.inl v6, .inr (.inr (some 91))] S5 _
                refine zw_pf hm_43 dX4_cleanAll_101 (zT_is hS5 s_91) (zT_t hS5 s_91) p_4_34_4 zk_int ?_
                refine zw_push hm_43 dX4_cleanAll_104 (v := .inl l1) rfl ?_
                exact zw_iret hm_43 dX4_cleanAll_105 h
              · intro hc
                rw [if_pos (Classical.not_not.mp hc)] at h
                refine zw_push hm_54 dX4_orElse_5 (v := .inl (mI S5 91 5)) rfl ?_
                refine zw_goto hm_54 dX4_orElse_6 (t := 10) rfl ?_
                refine zw_iret hm_54 dX4_orElse_10 ?_
                show ma_wp X d w 43 101 [(0, .inr (.inr (some 91))), (1, .inl l1), (2, .inl l2), (3, .inl l3)] [.inl (mI S5 91 5), .inr (.inr (some 91))] S5 _
                refine zw_pf hm_43 dX4_cleanAll_101 (zT_is hS5 s_91) (zT_t hS5 s_91) p_4_34_4 zk_int ?_
                refine zw_push hm_43 dX4_cleanAll_104 (v := .inl l1) rfl ?_
                exact zw_iret hm_43 dX4_cleanAll_105 h
            · intro x S9 hx
              exact ⟨by decide, hx⟩
    · intro hc
      rw [if_neg hc] at h
      refine zw_push hm_43 dX4_cleanAll_67 (v := .inr (.inr (some 91))) rfl ?_
      refine zw_push hm_43 dX4_cleanAll_68 (v := .inr (.inr (some 91))) rfl ?_
      refine zw_gf hm_43 dX4_cleanAll_69 (v := .inl (mI S 91 6)) (zT_is hS s_91) (zT_t hS s_91) rfl f_4_83_4 rfl ?_
      refine zw_pf hm_43 dX4_cleanAll_72 (zT_is hS s_91) (zT_t hS s_91) p_4_34_4 zk_int ?_
      refine zw_goto hm_43 dX4_cleanAll_75 (t := 104) rfl ?_
      refine zw_push hm_43 dX4_cleanAll_104 (v := .inl l1) rfl ?_
      exact zw_iret hm_43 dX4_cleanAll_105 h
  · intro hc
    rw [if_neg hc] at h
    refine zw_push hm_43 dX4_cleanAll_35 (v := .inl l2) rfl ?_
    refine zw_push hm_43 dX4_cleanAll_36 (v := .inl (-1 : Int32)) rfl ?_
    refine zw_if2 hm_43 dX4_cleanAll_37 (t := 59) rfl zc2_eq ?_ ?_
    · intro hc
      rw [if_pos hc] at h
      refine zw_push hm_43 dX4_cleanAll_59 (v := .inr (.inr (some 91))) rfl ?_
      refine zw_gf hm_43 dX4_cleanAll_60 (v := .inl (mI S 91 6)) (zT_is hS s_91) (zT_t hS s_91) rfl f_4_83_4 rfl ?_
      refine zw_push hm_43 dX4_cleanAll_63 (v := .inl (-1 : Int32)) rfl ?_
      refine zw_if2 hm_43 dX4_cleanAll_64 (t := 78) rfl zc2_eq ?_ ?_
      · intro hc
        rw [if_pos hc] at h
        refine zw_push hm_43 dX4_cleanAll_78 (v := .inr (.inr (some 91))) rfl ?_
        refine zw_push hm_43 dX4_cleanAll_79 (v := .inr (.inr (some 91))) rfl ?_
        refine zw_gf hm_43 dX4_cleanAll_80 (v := .inl (mI S 91 5)) (zT_is hS s_91) (zT_t hS s_91) rfl f_4_34_4 rfl ?_
        refine zw_cv hm_43 dX4_cleanAll_83 v_4_93_4 hm_50 [.inl (mI S 91 5)] [] rfl (zT_rt hS s_91 rfl) ⟨by omega, by omega⟩ rfl ?_
        show ma_wp X (d - 1) (w - 21) 50 0 [(0, .inr (.inr (some 91))), (1, .inl (mI S 91 5))] [] S _
        refine zw_push hm_50 dX4_topOf_0 (v := .inl (mI S 91 5)) rfl ?_
        refine zw_if0 hm_50 dX4_topOf_1 (t := 19) rfl zc0_lt ?_ ?_
        · intro hc
          rw [if_pos hc] at h
          refine zw_push hm_50 dX4_topOf_19 (v := .inl (0 : Int32)) rfl ?_
          refine zw_iret hm_50 dX4_topOf_20 ?_
          show ma_wp X d w 43 86 [(0, .inr (.inr (some 91))), (1, .inl l1), (2, .inl l2), (3, .inl l3)] [.inl (0 : Int32)] S _
          refine zw_if0 hm_43 dX4_cleanAll_86 (t := 104) rfl zc0_ne (fun hc => absurd hc (by decide)) (fun _ => ?_)
          refine zw_push hm_43 dX4_cleanAll_89 (v := .inr (.inr (some 91))) rfl ?_
          refine zw_push hm_43 dX4_cleanAll_90 (v := .inr (.inr (some 91))) rfl ?_
          refine zw_cv hm_43 dX4_cleanAll_91 v_4_54_4 hm_52 [] [.inr (.inr (some 91))] rfl (zT_rt hS s_91 rfl) ⟨by omega, by omega⟩ rfl (zw_mono h (zi_go ?_ ?_))
          · intro v8 S7 hv
            obtain ⟨hS7, h⟩ := hv
            refine zw_push hm_43 dX4_cleanAll_94 (v := .inr (.inr (some 91))) rfl ?_
            refine zw_gf hm_43 dX4_cleanAll_95 (v := .inl (mI S7 91 5)) (zT_is hS7 s_91) (zT_t hS7 s_91) rfl f_4_34_4 rfl ?_
            refine zw_cs hm_43 dX4_cleanAll_98 pn_4_57 sl_4_57 hm_54 [.inl (mI S7 91 5), .inl v8] [.inr (.inr (some 91))] rfl ⟨by omega, by omega⟩ rfl ?_
            show ma_wp X (d - 1) (w - 21) 54 0 [(0, .inl v8), (1, .inl (mI S7 91 5))] [] S7 _
            refine zw_push hm_54 dX4_orElse_0 (v := .inl v8) rfl ?_
            refine zw_push hm_54 dX4_orElse_1 (v := .inl (-1 : Int32)) rfl ?_
            refine zw_if2 hm_54 dX4_orElse_2 (t := 9) rfl zc2_ne ?_ ?_
            · intro hc
              rw [if_neg hc] at h
              refine zw_push hm_54 dX4_orElse_9 (v := .inl v8) rfl ?_
              refine zw_iret hm_54 dX4_orElse_10 ?_
              show ma_wp X d w 43 101 [(0, .inr (.inr (some 91))), (1, .inl l1), (2, .inl l2), (3, .inl l3)] [.inl v8, .inr (.inr (some 91))] S7 _
              refine zw_pf hm_43 dX4_cleanAll_101 (zT_is hS7 s_91) (zT_t hS7 s_91) p_4_34_4 zk_int ?_
              refine zw_push hm_43 dX4_cleanAll_104 (v := .inl l1) rfl ?_
              exact zw_iret hm_43 dX4_cleanAll_105 h
            · intro hc
              rw [if_pos (Classical.not_not.mp hc)] at h
              refine zw_push hm_54 dX4_orElse_5 (v := .inl (mI S7 91 5)) rfl ?_
              refine zw_goto hm_54 dX4_orElse_6 (t := 10) rfl ?_
              refine zw_iret hm_54 dX4_orElse_10 ?_
              show ma_wp X d w 43 101 [(0, .inr (.inr (some 91))), (1, .inl l1), (2, .inl l2), (3, .inl l3)] [.inl (mI S7 91 5), .inr (.inr (some 91))] S7 _
              refine zw_pf hm_43 dX4_cleanAll_101 (zT_is hS7 s_91) (zT_t hS7 s_91) p_4_34_4 zk_int ?_
              refine zw_push hm_43 dX4_cleanAll_104 (v := .inl l1) rfl ?_
              exact zw_iret hm_43 dX4_cleanAll_105 h
          · intro x S9 hx
            exact ⟨by decide, hx⟩
        · intro hc
          rw [if_neg hc] at h
          refine zw_push hm_50 dX4_topOf_4 (v := .inl (mI S 91 5)) rfl ?_
          refine zw_push hm_50 dX4_topOf_5 (v := .inl (93 : Int32)) rfl ?_
          refine zw_if2 hm_50 dX4_topOf_7 (t := 19) rfl zc2_ge ?_ ?_
          · intro hc
            rw [if_pos hc] at h
            refine zw_push hm_50 dX4_topOf_19 (v := .inl (0 : Int32)) rfl ?_
            refine zw_iret hm_50 dX4_topOf_20 ?_
            show ma_wp X d w 43 86 [(0, .inr (.inr (some 91))), (1, .inl l1), (2, .inl l2), (3, .inl l3)] [.inl (0 : Int32)] S _
            refine zw_if0 hm_43 dX4_cleanAll_86 (t := 104) rfl zc0_ne (fun hc => absurd hc (by decide)) (fun _ => ?_)
            refine zw_push hm_43 dX4_cleanAll_89 (v := .inr (.inr (some 91))) rfl ?_
            refine zw_push hm_43 dX4_cleanAll_90 (v := .inr (.inr (some 91))) rfl ?_
            refine zw_cv hm_43 dX4_cleanAll_91 v_4_54_4 hm_52 [] [.inr (.inr (some 91))] rfl (zT_rt hS s_91 rfl) ⟨by omega, by omega⟩ rfl (zw_mono h (zi_go ?_ ?_))
            · intro v10 S9 hv
              obtain ⟨hS9, h⟩ := hv
              refine zw_push hm_43 dX4_cleanAll_94 (v := .inr (.inr (some 91))) rfl ?_
              refine zw_gf hm_43 dX4_cleanAll_95 (v := .inl (mI S9 91 5)) (zT_is hS9 s_91) (zT_t hS9 s_91) rfl f_4_34_4 rfl ?_
              refine zw_cs hm_43 dX4_cleanAll_98 pn_4_57 sl_4_57 hm_54 [.inl (mI S9 91 5), .inl v10] [.inr (.inr (some 91))] rfl ⟨by omega, by omega⟩ rfl ?_
              show ma_wp X (d - 1) (w - 21) 54 0 [(0, .inl v10), (1, .inl (mI S9 91 5))] [] S9 _
              refine zw_push hm_54 dX4_orElse_0 (v := .inl v10) rfl ?_
              refine zw_push hm_54 dX4_orElse_1 (v := .inl (-1 : Int32)) rfl ?_
              refine zw_if2 hm_54 dX4_orElse_2 (t := 9) rfl zc2_ne ?_ ?_
              · intro hc
                rw [if_neg hc] at h
                refine zw_push hm_54 dX4_orElse_9 (v := .inl v10) rfl ?_
                refine zw_iret hm_54 dX4_orElse_10 ?_
                show ma_wp X d w 43 101 [(0, .inr (.inr (some 91))), (1, .inl l1), (2, .inl l2), (3, .inl l3)] [.inl v10, .inr (.inr (some 91))] S9 _
                refine zw_pf hm_43 dX4_cleanAll_101 (zT_is hS9 s_91) (zT_t hS9 s_91) p_4_34_4 zk_int ?_
                refine zw_push hm_43 dX4_cleanAll_104 (v := .inl l1) rfl ?_
                exact zw_iret hm_43 dX4_cleanAll_105 h
              · intro hc
                rw [if_pos (Classical.not_not.mp hc)] at h
                refine zw_push hm_54 dX4_orElse_5 (v := .inl (mI S9 91 5)) rfl ?_
                refine zw_goto hm_54 dX4_orElse_6 (t := 10) rfl ?_
                refine zw_iret hm_54 dX4_orElse_10 ?_
                show ma_wp X d w 43 101 [(0, .inr (.inr (some 91))), (1, .inl l1), (2, .inl l2), (3, .inl l3)] [.inl (mI S9 91 5), .inr (.inr (some 91))] S9 _
                refine zw_pf hm_43 dX4_cleanAll_101 (zT_is hS9 s_91) (zT_t hS9 s_91) p_4_34_4 zk_int ?_
                refine zw_push hm_43 dX4_cleanAll_104 (v := .inl l1) rfl ?_
                exact zw_iret hm_43 dX4_cleanAll_105 h
            · intro x S9 hx
              exact ⟨by decide, hx⟩
          · intro hc
            rw [if_neg hc] at h
            refine zw_push hm_50 dX4_topOf_10 (v := .inr (.inr (some 91))) rfl ?_
            refine zw_gf hm_50 dX4_topOf_11 (v := .inr (.inr (some 92))) (zT_is hS s_91) (zT_t hS s_91) rfl f_4_9_4 (zT_f hS r_91_7) ?_
            refine zw_push hm_50 dX4_topOf_14 (v := .inl (mI S 91 5)) rfl ?_
            obtain ⟨hg, h⟩ := h
            refine zw_ia hm_50 dX4_topOf_15 (zT_is hS s_92) (zT_h hS s_92) rfl hg ?_
            show ma_wp X (d - 1) (w - 21) 50 16 [(0, .inr (.inr (some 91))), (1, .inl (mI S 91 5))] [.inl (mI S 92 (mI S 91 5).toNatClampNeg)] S _
            refine zw_goto hm_50 dX4_topOf_16 (t := 20) rfl ?_
            refine zw_iret hm_50 dX4_topOf_20 ?_
            show ma_wp X d w 43 86 [(0, .inr (.inr (some 91))), (1, .inl l1), (2, .inl l2), (3, .inl l3)] [.inl (mI S 92 (mI S 91 5).toNatClampNeg)] S _
            refine zw_if0 hm_43 dX4_cleanAll_86 (t := 104) rfl zc0_ne ?_ ?_
            · intro hc
              rw [if_neg hc] at h
              refine zw_push hm_43 dX4_cleanAll_104 (v := .inl l1) rfl ?_
              exact zw_iret hm_43 dX4_cleanAll_105 h
            · intro hc
              rw [if_pos (Classical.not_not.mp hc)] at h
              refine zw_push hm_43 dX4_cleanAll_89 (v := .inr (.inr (some 91))) rfl ?_
              refine zw_push hm_43 dX4_cleanAll_90 (v := .inr (.inr (some 91))) rfl ?_
              refine zw_cv hm_43 dX4_cleanAll_91 v_4_54_4 hm_52 [] [.inr (.inr (some 91))] rfl (zT_rt hS s_91 rfl) ⟨by omega, by omega⟩ rfl (zw_mono h (zi_go ?_ ?_))
              · intro v12 S11 hv
                obtain ⟨hS11, h⟩ := hv
                refine zw_push hm_43 dX4_cleanAll_94 (v := .inr (.inr (some 91))) rfl ?_
                refine zw_gf hm_43 dX4_cleanAll_95 (v := .inl (mI S11 91 5)) (zT_is hS11 s_91) (zT_t hS11 s_91) rfl f_4_34_4 rfl ?_
                refine zw_cs hm_43 dX4_cleanAll_98 pn_4_57 sl_4_57 hm_54 [.inl (mI S11 91 5), .inl v12] [.inr (.inr (some 91))] rfl ⟨by omega, by omega⟩ rfl ?_
                show ma_wp X (d - 1) (w - 21) 54 0 [(0, .inl v12), (1, .inl (mI S11 91 5))] [] S11 _
                refine zw_push hm_54 dX4_orElse_0 (v := .inl v12) rfl ?_
                refine zw_push hm_54 dX4_orElse_1 (v := .inl (-1 : Int32)) rfl ?_
                refine zw_if2 hm_54 dX4_orElse_2 (t := 9) rfl zc2_ne ?_ ?_
                · intro hc
                  rw [if_neg hc] at h
                  refine zw_push hm_54 dX4_orElse_9 (v := .inl v12) rfl ?_
                  refine zw_iret hm_54 dX4_orElse_10 ?_
                  show ma_wp X d w 43 101 [(0, .inr (.inr (some 91))), (1, .inl l1), (2, .inl l2), (3, .inl l3)] [.inl v12, .inr (.inr (some 91))] S11 _
                  refine zw_pf hm_43 dX4_cleanAll_101 (zT_is hS11 s_91) (zT_t hS11 s_91) p_4_34_4 zk_int ?_
                  refine zw_push hm_43 dX4_cleanAll_104 (v := .inl l1) rfl ?_
                  exact zw_iret hm_43 dX4_cleanAll_105 h
                · intro hc
                  rw [if_pos (Classical.not_not.mp hc)] at h
                  refine zw_push hm_54 dX4_orElse_5 (v := .inl (mI S11 91 5)) rfl ?_
                  refine zw_goto hm_54 dX4_orElse_6 (t := 10) rfl ?_
                  refine zw_iret hm_54 dX4_orElse_10 ?_
                  show ma_wp X d w 43 101 [(0, .inr (.inr (some 91))), (1, .inl l1), (2, .inl l2), (3, .inl l3)] [.inl (mI S11 91 5), .inr (.inr (some 91))] S11 _
                  refine zw_pf hm_43 dX4_cleanAll_101 (zT_is hS11 s_91) (zT_t hS11 s_91) p_4_34_4 zk_int ?_
                  refine zw_push hm_43 dX4_cleanAll_104 (v := .inl l1) rfl ?_
                  exact zw_iret hm_43 dX4_cleanAll_105 h
              · intro x S9 hx
                exact ⟨by decide, hx⟩
      · intro hc
        rw [if_neg hc] at h
        refine zw_push hm_43 dX4_cleanAll_67 (v := .inr (.inr (some 91))) rfl ?_
        refine zw_push hm_43 dX4_cleanAll_68 (v := .inr (.inr (some 91))) rfl ?_
        refine zw_gf hm_43 dX4_cleanAll_69 (v := .inl (mI S 91 6)) (zT_is hS s_91) (zT_t hS s_91) rfl f_4_83_4 rfl ?_
        refine zw_pf hm_43 dX4_cleanAll_72 (zT_is hS s_91) (zT_t hS s_91) p_4_34_4 zk_int ?_
        refine zw_goto hm_43 dX4_cleanAll_75 (t := 104) rfl ?_
        refine zw_push hm_43 dX4_cleanAll_104 (v := .inl l1) rfl ?_
        exact zw_iret hm_43 dX4_cleanAll_105 h
    · intro hc
      rw [if_neg hc] at h
      refine zw_push hm_43 dX4_cleanAll_40 (v := .inr (.inr (some 91))) rfl ?_
      refine zw_push hm_43 dX4_cleanAll_41 (v := .inl l2) rfl ?_
      refine zw_cv hm_43 dX4_cleanAll_42 v_4_89_4 hm_49 [.inl l2] [] rfl (zT_rt hS s_91 rfl) ⟨by omega, by omega⟩ rfl (zw_mono h (zi_go ?_ ?_))
      · intro v14 S13 hv
        obtain ⟨hS13, h⟩ := hv
        refine zw_if0 hm_43 dX4_cleanAll_45 (t := 59) rfl zc0_eq ?_ ?_
        · intro hc
          rw [if_pos hc] at h
          refine zw_push hm_43 dX4_cleanAll_59 (v := .inr (.inr (some 91))) rfl ?_
          refine zw_gf hm_43 dX4_cleanAll_60 (v := .inl (mI S13 91 6)) (zT_is hS13 s_91) (zT_t hS13 s_91) rfl f_4_83_4 rfl ?_
          refine zw_push hm_43 dX4_cleanAll_63 (v := .inl (-1 : Int32)) rfl ?_
          refine zw_if2 hm_43 dX4_cleanAll_64 (t := 78) rfl zc2_eq ?_ ?_
          · intro hc
            rw [if_pos hc] at h
            refine zw_push hm_43 dX4_cleanAll_78 (v := .inr (.inr (some 91))) rfl ?_
            refine zw_push hm_43 dX4_cleanAll_79 (v := .inr (.inr (some 91))) rfl ?_
            refine zw_gf hm_43 dX4_cleanAll_80 (v := .inl (mI S13 91 5)) (zT_is hS13 s_91) (zT_t hS13 s_91) rfl f_4_34_4 rfl ?_
            refine zw_cv hm_43 dX4_cleanAll_83 v_4_93_4 hm_50 [.inl (mI S13 91 5)] [] rfl (zT_rt hS13 s_91 rfl) ⟨by omega, by omega⟩ rfl ?_
            show ma_wp X (d - 1) (w - 21) 50 0 [(0, .inr (.inr (some 91))), (1, .inl (mI S13 91 5))] [] S13 _
            refine zw_push hm_50 dX4_topOf_0 (v := .inl (mI S13 91 5)) rfl ?_
            refine zw_if0 hm_50 dX4_topOf_1 (t := 19) rfl zc0_lt ?_ ?_
            · intro hc
              rw [if_pos hc] at h
              refine zw_push hm_50 dX4_topOf_19 (v := .inl (0 : Int32)) rfl ?_
              refine zw_iret hm_50 dX4_topOf_20 ?_
              show ma_wp X d w 43 86 [(0, .inr (.inr (some 91))), (1, .inl l1), (2, .inl l2), (3, .inl l3)] [.inl (0 : Int32)] S13 _
              refine zw_if0 hm_43 dX4_cleanAll_86 (t := 104) rfl zc0_ne (fun hc => absurd hc (by decide)) (fun _ => ?_)
              refine zw_push hm_43 dX4_cleanAll_89 (v := .inr (.inr (some 91))) rfl ?_
              refine zw_push hm_43 dX4_cleanAll_90 (v := .inr (.inr (some 91))) rfl ?_
              refine zw_cv hm_43 dX4_cleanAll_91 v_4_54_4 hm_52 [] [.inr (.inr (some 91))] rfl (zT_rt hS13 s_91 rfl) ⟨by omega, by omega⟩ rfl (zw_mono h (zi_go ?_ ?_))
              · intro v16 S15 hv
                obtain ⟨hS15, h⟩ := hv
                refine zw_push hm_43 dX4_cleanAll_94 (v := .inr (.inr (some 91))) rfl ?_
                refine zw_gf hm_43 dX4_cleanAll_95 (v := .inl (mI S15 91 5)) (zT_is hS15 s_91) (zT_t hS15 s_91) rfl f_4_34_4 rfl ?_
                refine zw_cs hm_43 dX4_cleanAll_98 pn_4_57 sl_4_57 hm_54 [.inl (mI S15 91 5), .inl v16] [.inr (.inr (some 91))] rfl ⟨by omega, by omega⟩ rfl ?_
                show ma_wp X (d - 1) (w - 21) 54 0 [(0, .inl v16), (1, .inl (mI S15 91 5))] [] S15 _
                refine zw_push hm_54 dX4_orElse_0 (v := .inl v16) rfl ?_
                refine zw_push hm_54 dX4_orElse_1 (v := .inl (-1 : Int32)) rfl ?_
                refine zw_if2 hm_54 dX4_orElse_2 (t := 9) rfl zc2_ne ?_ ?_
                · intro hc
                  rw [if_neg hc] at h
                  refine zw_push hm_54 dX4_orElse_9 (v := .inl v16) rfl ?_
                  refine zw_iret hm_54 dX4_orElse_10 ?_
                  show ma_wp X d w 43 101 [(0, .inr (.inr (some 91))), (1, .inl l1), (2, .inl l2), (3, .inl l3)] [.inl v16, .inr (.inr (some 91))] S15 _
                  refine zw_pf hm_43 dX4_cleanAll_101 (zT_is hS15 s_91) (zT_t hS15 s_91) p_4_34_4 zk_int ?_
                  refine zw_push hm_43 dX4_cleanAll_104 (v := .inl l1) rfl ?_
                  exact zw_iret hm_43 dX4_cleanAll_105 h
                · intro hc
                  rw [if_pos (Classical.not_not.mp hc)] at h
                  refine zw_push hm_54 dX4_orElse_5 (v := .inl (mI S15 91 5)) rfl ?_
                  refine zw_goto hm_54 dX4_orElse_6 (t := 10) rfl ?_
                  refine zw_iret hm_54 dX4_orElse_10 ?_
                  show ma_wp X d w 43 101 [(0, .inr (.inr (some 91))), (1, .inl l1), (2, .inl l2), (3, .inl l3)] [.inl (mI S15 91 5), .inr (.inr (some 91))] S15 _
                  refine zw_pf hm_43 dX4_cleanAll_101 (zT_is hS15 s_91) (zT_t hS15 s_91) p_4_34_4 zk_int ?_
                  refine zw_push hm_43 dX4_cleanAll_104 (v := .inl l1) rfl ?_
                  exact zw_iret hm_43 dX4_cleanAll_105 h
              · intro x S9 hx
                exact ⟨by decide, hx⟩
            · intro hc
              rw [if_neg hc] at h
              refine zw_push hm_50 dX4_topOf_4 (v := .inl (mI S13 91 5)) rfl ?_
              refine zw_push hm_50 dX4_topOf_5 (v := .inl (93 : Int32)) rfl ?_
              refine zw_if2 hm_50 dX4_topOf_7 (t := 19) rfl zc2_ge ?_ ?_
              · intro hc
                rw [if_pos hc] at h
                refine zw_push hm_50 dX4_topOf_19 (v := .inl (0 : Int32)) rfl ?_
                refine zw_iret hm_50 dX4_topOf_20 ?_
                show ma_wp X d w 43 86 [(0, .inr (.inr (some 91))), (1, .inl l1), (2, .inl l2), (3, .inl l3)] [.inl (0 : Int32)] S13 _
                refine zw_if0 hm_43 dX4_cleanAll_86 (t := 104) rfl zc0_ne (fun hc => absurd hc (by decide)) (fun _ => ?_)
                refine zw_push hm_43 dX4_cleanAll_89 (v := .inr (.inr (some 91))) rfl ?_
                refine zw_push hm_43 dX4_cleanAll_90 (v := .inr (.inr (some 91))) rfl ?_
                refine zw_cv hm_43 dX4_cleanAll_91 v_4_54_4 hm_52 [] [.inr (.inr (some 91))] rfl (zT_rt hS13 s_91 rfl) ⟨by omega, by omega⟩ rfl (zw_mono h (zi_go ?_ ?_))
                · intro v18 S17 hv
                  obtain ⟨hS17, h⟩ := hv
                  refine zw_push hm_43 dX4_cleanAll_94 (v := .inr (.inr (some 91))) rfl ?_
                  refine zw_gf hm_43 dX4_cleanAll_95 (v := .inl (mI S17 91 5)) (zT_is hS17 s_91) (zT_t hS17 s_91) rfl f_4_34_4 rfl ?_
                  refine zw_cs hm_43 dX4_cleanAll_98 pn_4_57 sl_4_57 hm_54 [.inl (mI S17 91 5), .inl v18] [.inr (.inr (some 91))] rfl ⟨by omega, by omega⟩ rfl ?_
                  show ma_wp X (d - 1) (w - 21) 54 0 [(0, .inl v18), (1, .inl (mI S17 91 5))] [] S17 _
                  refine zw_push hm_54 dX4_orElse_0 (v := .inl v18) rfl ?_
                  refine zw_push hm_54 dX4_orElse_1 (v := .inl (-1 : Int32)) rfl ?_
                  refine zw_if2 hm_54 dX4_orElse_2 (t := 9) rfl zc2_ne ?_ ?_
                  · intro hc
                    rw [if_neg hc] at h
                    refine zw_push hm_54 dX4_orElse_9 (v := .inl v18) rfl ?_
                    refine zw_iret hm_54 dX4_orElse_10 ?_
                    show ma_wp X d w 43 101 [(0, .inr (.inr (some 91))), (1, .inl l1), (2, .inl l2), (3, .inl l3)] [.inl v18, .inr (.inr (some 91))] S17 _
                    refine zw_pf hm_43 dX4_cleanAll_101 (zT_is hS17 s_91) (zT_t hS17 s_91) p_4_34_4 zk_int ?_
                    refine zw_push hm_43 dX4_cleanAll_104 (v := .inl l1) rfl ?_
                    exact zw_iret hm_43 dX4_cleanAll_105 h
                  · intro hc
                    rw [if_pos (Classical.not_not.mp hc)] at h
                    refine zw_push hm_54 dX4_orElse_5 (v := .inl (mI S17 91 5)) rfl ?_
                    refine zw_goto hm_54 dX4_orElse_6 (t := 10) rfl ?_
                    refine zw_iret hm_54 dX4_orElse_10 ?_
                    show ma_wp X d w 43 101 [(0, .inr (.inr (some 91))), (1, .inl l1), (2, .inl l2), (3, .inl l3)] [.inl (mI S17 91 5), .inr (.inr (some 91))] S17 _
                    refine zw_pf hm_43 dX4_cleanAll_101 (zT_is hS17 s_91) (zT_t hS17 s_91) p_4_34_4 zk_int ?_
                    refine zw_push hm_43 dX4_cleanAll_104 (v := .inl l1) rfl ?_
                    exact zw_iret hm_43 dX4_cleanAll_105 h
                · intro x S9 hx
                  exact ⟨by decide, hx⟩
              · intro hc
                rw [if_neg hc] at h
                refine zw_push hm_50 dX4_topOf_10 (v := .inr (.inr (some 91))) rfl ?_
                refine zw_gf hm_50 dX4_topOf_11 (v := .inr (.inr (some 92))) (zT_is hS13 s_91) (zT_t hS13 s_91) rfl f_4_9_4 (zT_f hS13 r_91_7) ?_
                refine zw_push hm_50 dX4_topOf_14 (v := .inl (mI S13 91 5)) rfl ?_
                obtain ⟨hg, h⟩ := h
                refine zw_ia hm_50 dX4_topOf_15 (zT_is hS13 s_92) (zT_h hS13 s_92) rfl hg ?_
                show ma_wp X (d - 1) (w - 21) 50 16 [(0, .inr (.inr (some 91))), (1, .inl (mI S13 91 5))] [.inl (mI S13 92 (mI S13 91 5).toNatClampNeg)] S13 _
                refine zw_goto hm_50 dX4_topOf_16 (t := 20) rfl ?_
                refine zw_iret hm_50 dX4_topOf_20 ?_
                show ma_wp X d w 43 86 [(0, .inr (.inr (some 91))), (1, .inl l1), (2, .inl l2), (3, .inl l3)] [.inl (mI S13 92 (mI S13 91 5).toNatClampNeg)] S13 _
                refine zw_if0 hm_43 dX4_cleanAll_86 (t := 104) rfl zc0_ne ?_ ?_
                · intro hc
                  rw [if_neg hc] at h
                  refine zw_push hm_43 dX4_cleanAll_104 (v := .inl l1) rfl ?_
                  exact zw_iret hm_43 dX4_cleanAll_105 h
                · intro hc
                  rw [if_pos (Classical.not_not.mp hc)] at h
                  refine zw_push hm_43 dX4_cleanAll_89 (v := .inr (.inr (some 91))) rfl ?_
                  refine zw_push hm_43 dX4_cleanAll_90 (v := .inr (.inr (some 91))) rfl ?_
                  refine zw_cv hm_43 dX4_cleanAll_91 v_4_54_4 hm_52 [] [.inr (.inr (some 91))] rfl (zT_rt hS13 s_91 rfl) ⟨by omega, by omega⟩ rfl (zw_mono h (zi_go ?_ ?_))
                  · intro v20 S19 hv
                    obtain ⟨hS19, h⟩ := hv
                    refine zw_push hm_43 dX4_cleanAll_94 (v := .inr (.inr (some 91))) rfl ?_
                    refine zw_gf hm_43 dX4_cleanAll_95 (v := .inl (mI S19 91 5)) (zT_is hS19 s_91) (zT_t hS19 s_91) rfl f_4_34_4 rfl ?_
                    refine zw_cs hm_43 dX4_cleanAll_98 pn_4_57 sl_4_57 hm_54 [.inl (mI S19 91 5), .inl v20] [.inr (.inr (some 91))] rfl ⟨by omega, by omega⟩ rfl ?_
                    show ma_wp X (d - 1) (w - 21) 54 0 [(0, .inl v20), (1, .inl (mI S19 91 5))] [] S19 _
                    refine zw_push hm_54 dX4_orElse_0 (v := .inl v20) rfl ?_
                    refine zw_push hm_54 dX4_orElse_1 (v := .inl (-1 : Int32)) rfl ?_
                    refine zw_if2 hm_54 dX4_orElse_2 (t := 9) rfl zc2_ne ?_ ?_
                    · intro hc
                      rw [if_neg hc] at h
                      refine zw_push hm_54 dX4_orElse_9 (v := .inl v20) rfl ?_
                      refine zw_iret hm_54 dX4_orElse_10 ?_
                      show ma_wp X d w 43 101 [(0, .inr (.inr (some 91))), (1, .inl l1), (2, .inl l2), (3, .inl l3)] [.inl v20, .inr (.inr (some 91))] S19 _
                      refine zw_pf hm_43 dX4_cleanAll_101 (zT_is hS19 s_91) (zT_t hS19 s_91) p_4_34_4 zk_int ?_
                      refine zw_push hm_43 dX4_cleanAll_104 (v := .inl l1) rfl ?_
                      exact zw_iret hm_43 dX4_cleanAll_105 h
                    · intro hc
                      rw [if_pos (Classical.not_not.mp hc)] at h
                      refine zw_push hm_54 dX4_orElse_5 (v := .inl (mI S19 91 5)) rfl ?_
                      refine zw_goto hm_54 dX4_orElse_6 (t := 10) rfl ?_
                      refine zw_iret hm_54 dX4_orElse_10 ?_
                      show ma_wp X d w 43 101 [(0, .inr (.inr (some 91))), (1, .inl l1), (2, .inl l2), (3, .inl l3)] [.inl (mI S19 91 5), .inr (.inr (some 91))] S19 _
                      refine zw_pf hm_43 dX4_cleanAll_101 (zT_is hS19 s_91) (zT_t hS19 s_91) p_4_34_4 zk_int ?_
                      refine zw_push hm_43 dX4_cleanAll_104 (v := .inl l1) rfl ?_
                      exact zw_iret hm_43 dX4_cleanAll_105 h
                  · intro x S9 hx
                    exact ⟨by decide, hx⟩
          · intro hc
            rw [if_neg hc] at h
            refine zw_push hm_43 dX4_cleanAll_67 (v := .inr (.inr (some 91))) rfl ?_
            refine zw_push hm_43 dX4_cleanAll_68 (v := .inr (.inr (some 91))) rfl ?_
            refine zw_gf hm_43 dX4_cleanAll_69 (v := .inl (mI S13 91 6)) (zT_is hS13 s_91) (zT_t hS13 s_91) rfl f_4_83_4 rfl ?_
            refine zw_pf hm_43 dX4_cleanAll_72 (zT_is hS13 s_91) (zT_t hS13 s_91) p_4_34_4 zk_int ?_
            refine zw_goto hm_43 dX4_cleanAll_75 (t := 104) rfl ?_
            refine zw_push hm_43 dX4_cleanAll_104 (v := .inl l1) rfl ?_
            exact zw_iret hm_43 dX4_cleanAll_105 h
        · intro hc
          rw [if_neg hc] at h
          refine zw_push hm_43 dX4_cleanAll_48 (v := .inr (.inr (some 91))) rfl ?_
          refine zw_cv hm_43 dX4_cleanAll_49 v_4_86_4 hm_48 [] [] rfl (zT_rt hS13 s_91 rfl) ⟨by omega, by omega⟩ rfl (zw_mono h (zi_go ?_ ?_))
          · intro v22 S21 hv
            obtain ⟨hS21, h⟩ := hv
            refine zw_sto hm_43 dX4_cleanAll_52 [(2, .inl v22), (0, .inr (.inr (some 91))), (1, .inl l1), (3, .inl l3)] rfl rfl rfl ?_
            refine zw_sto hm_43 dX4_cleanAll_53 [(3, .inl (l3 + (1 : Int32))), (2, .inl v22), (0, .inr (.inr (some 91))), (1, .inl l1)] rfl rfl rfl ?_
            refine zw_goto hm_43 dX4_cleanAll_56 (t := 29) rfl ?_
            exact zw_sub (ma_nd_of (ks := [0, 1, 2, 3]) rfl (by decide)) (ma_nd_of (ks := [3, 2, 0, 1]) rfl (by decide)) (ma_le_cons rfl (ma_le_cons rfl (ma_le_cons rfl (ma_le_cons rfl (ma_le_nil _))))) h
          · intro x S9 hx
            exact ⟨by decide, hx⟩
      · intro x S9 hx
        exact ⟨by decide, hx⟩
theorem lp_43_91_sz_29 {X : Nat × (Nat → Int32)} {d w : Nat} {f : Nat → Nat → Int32} {r : Nat → Nat → Option Nat} {C Z N : Nat} {Q : Option ma_V ⊕ Nat → ma_S → Prop} {ab : Nat→Nat→Int32} (hd : 4 ≤ d) (hw : 160 ≤ w) (K : ∀ v S₉, zL91 f r C Z N S₉ → (True) → (xB S₉ (mR S₉ 70)) → (aZ S₉ = rCl ab ∧ v = aSv ab ∧ qRv (aZ S₉)) → Q (.inl (some (.inl v))) S₉) : ∀ (n : Nat) (S : ma_S) (l1 : Int32) (l2 : Int32) (l3 : Int32), (93 - l3.toInt).toNat = n → zL91 f r C Z N S → (0 ≤ l3.toInt) → (l3.toInt ≤ 93) → (-1 ≤ l2.toInt) → (l2.toInt ≤ 92) → (xB S (mR S 70)) → (qRv (aZ S) ∧ qLv (aZ S) (mI S 91 6).toInt) → (rOf (93 - l3.toInt).toNat (aZ S) (mI S 91 6).toInt = rC0 ab) → (l2.toInt = rFw (aZ S)) → (l1 = aSv ab) → ma_wp X d w 43 29 [(0, .inr (.inr (some 91))), (1, .inl l1), (2, .inl l2), (3, .inl l3)] [] S Q := by
  intro n
  induction n using Nat.strongRecOn with
  | _ n IH =>
    intro S l1 l2 l3 hmu hI  hi0 hi1 hi2 hi3 hi4 hi5 hi6 hi7 hi8
    refine g_43_91_sz_29 l1 l2 l3 (by omega) (by omega) (zG_T hI) ?_
    have f1 := zG_s hI (-1) (92) (c := 91) (k := 6) (by decide)
    have li2 : (93 : Int32).toInt = 93 := rfl
    have b3 := i_bd l3
    refine zd (fun h4 => ?_) (fun h4 => ?_)
    · skip
      have g5 := i_le h4
      have li6 : (-1 : Int32).toInt = -1 := rfl
      refine zd (fun h7 => ?_) (fun h7 => ?_)
      · skip
        have g8 := i_eq h7
        have f9 := zG_s hI (0) (92) (c := 91) (k := 5) (by decide)
        have li10 : (0 : Int32).toInt = 0 := rfl
        refine zd (fun h11 => ?_) (fun h11 => ?_)
        · skip
          have g12 := i_lt h11
          refine sp_52_91_sz  (by omega) (by omega) hI  (fun v2 S1 eS_S1 hp_v2 rp0_S1 => zi_n ⟨(by rw [eS_S1]; exact zG_T hI), ?_⟩)
          replace eS_S1 := eS_S1.symm; subst eS_S1
          have rp0_S1 : v2.toInt = rLe (aZ S) := rp0_S1
          have b13 := i_bd v2
          refine zd (fun h14 => ?_) (fun h14 => ?_)
          · skip
            have g15 := i_eq h14
            have hI16 : zL91 f r C Z N (ma_put S 91 5 (.inl (mI S 91 5))) := zG_sp hI (0) (92) rfl (by decide) (by decide) (by decide) trivial (by omega) (by omega)
            have b17 := i_bd l1
            exact K (l1) _ hI16 trivial (show xB (ma_put S 91 5 (.inl (mI S 91 5))) (mR (ma_put S 91 5 (.inl (mI S 91 5))) 70) from by first | (exact xB_x (xC_n (c := 91) (k := 5) (x := (mI S 91 5)) (xC_o (W := 75) hi4) ⟨by decide, Or.inl ⟨rfl, rfl⟩⟩).2)) (show aZ (ma_put S 91 5 (.inl (mI S 91 5))) = rCl ab ∧ l1 = aSv ab ∧ qRv (aZ (ma_put S 91 5 (.inl (mI S 91 5)))) from by first | (have hR := hi5.1; have hL := hi5.2; have k := hi6; rw [Of_e (by rw [← hi7]; omega)] at k; have k1 := congrArg Prod.fst k; have k2 := congrArg Prod.snd k; have hl := hL.2.2.2; have p9 : aZ S 87 9 = mI S 91 5 := rfl; have p4 := congrArg Int32.toInt (show aZ S 87 4 = mI S 91 3 from rfl); have h39 := hR.2.2.1.2.2.1; have p9i := congrArg Int32.toInt p9; have p92 : (aZ S 92 (aZ S 87 9).toNatClampNeg).toInt = (mI S 92 (mI S 91 5).toNatClampNeg).toInt := congrArg Int32.toInt (aZ_9 (Or.inl rfl)); have lz := rp0_S1; have ly := Le_y (a := aZ S) (by omega); rw [((Z_p5 (x := (mI S 91 5)) (xC_o (W := 75) hi4).2).trans (congrArg (fun q => ma_u q 87 9 (mI S 91 5)) (show aZ S = aZ S from rfl)))]; exact ⟨Cl_2 k1 k2 (by omega) (by omega) lz (by omega), hi8, Rv_9 hR (by omega) (by omega)⟩) | (have hR := hi5.1; have hL := hi5.2; have k := hi6; rw [Of_e (by rw [← hi7]; omega)] at k; have k1 := congrArg Prod.fst k; have k2 := congrArg Prod.snd k; have hl := hL.2.2.2; have p9 : aZ S 87 9 = mI S 91 5 := rfl; have p4 := congrArg Int32.toInt (show aZ S 87 4 = mI S 91 3 from rfl); have h39 := hR.2.2.1.2.2.1; have p9i := congrArg Int32.toInt p9; have p92 : (aZ S 92 (aZ S 87 9).toNatClampNeg).toInt = (mI S 92 (mI S 91 5).toNatClampNeg).toInt := congrArg Int32.toInt (aZ_9 (Or.inl rfl)); have lz := rp0_S1; rw [((Z_p5 (x := (mI S 91 5)) (xC_o (W := 75) hi4).2).trans (congrArg (fun q => ma_u q 87 9 (mI S 91 5)) (show aZ S = aZ S from rfl)))]; refine ⟨(Cl_3 (b := aZ S) (tg := mI S 91 6) k1 k2 (by omega) (by omega)).1, hi8, Rv_9 hR (by omega) (by omega)⟩) | (have hR := hi5.1; have hL := hi5.2; have k := hi6; rw [show (93 - l3.toInt).toNat = 0 from by omega] at k; have k1 := congrArg Prod.fst k; have k2 := congrArg Prod.snd k; have hl := hL.2.2.2; have p9 : aZ S 87 9 = mI S 91 5 := rfl; have p4 := congrArg Int32.toInt (show aZ S 87 4 = mI S 91 3 from rfl); have h39 := hR.2.2.1.2.2.1; have p9i := congrArg Int32.toInt p9; have p92 : (aZ S 92 (aZ S 87 9).toNatClampNeg).toInt = (mI S 92 (mI S 91 5).toNatClampNeg).toInt := congrArg Int32.toInt (aZ_9 (Or.inl rfl)); have lz := rp0_S1; have ly := Le_y (a := aZ S) (by omega); rw [((Z_p5 (x := (mI S 91 5)) (xC_o (W := 75) hi4).2).trans (congrArg (fun q => ma_u q 87 9 (mI S 91 5)) (show aZ S = aZ S from rfl)))]; exact ⟨Cl_2 k1 k2 (by omega) (by omega) lz (by omega), hi8, Rv_9 hR (by omega) (by omega)⟩) | (have hR := hi5.1; have hL := hi5.2; have k := hi6; rw [show (93 - l3.toInt).toNat = 0 from by omega] at k; have k1 := congrArg Prod.fst k; have k2 := congrArg Prod.snd k; have hl := hL.2.2.2; have p9 : aZ S 87 9 = mI S 91 5 := rfl; have p4 := congrArg Int32.toInt (show aZ S 87 4 = mI S 91 3 from rfl); have h39 := hR.2.2.1.2.2.1; have p9i := congrArg Int32.toInt p9; have p92 : (aZ S 92 (aZ S 87 9).toNatClampNeg).toInt = (mI S 92 (mI S 91 5).toNatClampNeg).toInt := congrArg Int32.toInt (aZ_9 (Or.inl rfl)); have lz := rp0_S1; rw [((Z_p5 (x := (mI S 91 5)) (xC_o (W := 75) hi4).2).trans (congrArg (fun q => ma_u q 87 9 (mI S 91 5)) (show aZ S = aZ S from rfl)))]; refine ⟨(Cl_3 (b := aZ S) (tg := mI S 91 6) k1 k2 (by omega) (by omega)).1, hi8, Rv_9 hR (by omega) (by omega)⟩) | (exfalso; have h39 := hi5.1.2.2.1.2.2.1; have h38 := hi5.1.2.2.1.2.1; have p9i := congrArg Int32.toInt (show aZ S 87 9 = mI S 91 5 from rfl); have p4 := congrArg Int32.toInt (show aZ S 87 4 = mI S 91 3 from rfl); omega))
          · skip
            have g18 := i_ne h14
            have hI19 : zL91 f r C Z N (ma_put S 91 5 (.inl v2)) := zG_sp hI (0) (92) rfl (by decide) (by decide) (by decide) trivial (by omega) (by omega)
            have b20 := i_bd l1
            exact K (l1) _ hI19 trivial (show xB (ma_put S 91 5 (.inl v2)) (mR (ma_put S 91 5 (.inl v2)) 70) from by first | (exact xB_x (xC_n (c := 91) (k := 5) (x := v2) (xC_o (W := 75) hi4) ⟨by decide, Or.inl ⟨rfl, rfl⟩⟩).2)) (show aZ (ma_put S 91 5 (.inl v2)) = rCl ab ∧ l1 = aSv ab ∧ qRv (aZ (ma_put S 91 5 (.inl v2))) from by first | (have hR := hi5.1; have hL := hi5.2; have k := hi6; rw [Of_e (by rw [← hi7]; omega)] at k; have k1 := congrArg Prod.fst k; have k2 := congrArg Prod.snd k; have hl := hL.2.2.2; have p9 : aZ S 87 9 = mI S 91 5 := rfl; have p4 := congrArg Int32.toInt (show aZ S 87 4 = mI S 91 3 from rfl); have h39 := hR.2.2.1.2.2.1; have p9i := congrArg Int32.toInt p9; have p92 : (aZ S 92 (aZ S 87 9).toNatClampNeg).toInt = (mI S 92 (mI S 91 5).toNatClampNeg).toInt := congrArg Int32.toInt (aZ_9 (Or.inl rfl)); have lz := rp0_S1; have ly := Le_y (a := aZ S) (by omega); rw [((Z_p5 (x := v2) (xC_o (W := 75) hi4).2).trans (congrArg (fun q => ma_u q 87 9 v2) (show aZ S = aZ S from rfl)))]; exact ⟨Cl_2 k1 k2 (by omega) (by omega) lz (by omega), hi8, Rv_9 hR (by omega) (by omega)⟩) | (have hR := hi5.1; have hL := hi5.2; have k := hi6; rw [Of_e (by rw [← hi7]; omega)] at k; have k1 := congrArg Prod.fst k; have k2 := congrArg Prod.snd k; have hl := hL.2.2.2; have p9 : aZ S 87 9 = mI S 91 5 := rfl; have p4 := congrArg Int32.toInt (show aZ S 87 4 = mI S 91 3 from rfl); have h39 := hR.2.2.1.2.2.1; have p9i := congrArg Int32.toInt p9; have p92 : (aZ S 92 (aZ S 87 9).toNatClampNeg).toInt = (mI S 92 (mI S 91 5).toNatClampNeg).toInt := congrArg Int32.toInt (aZ_9 (Or.inl rfl)); have lz := rp0_S1; rw [((Z_p5 (x := v2) (xC_o (W := 75) hi4).2).trans (congrArg (fun q => ma_u q 87 9 v2) (show aZ S = aZ S from rfl)))]; refine ⟨(Cl_3 (b := aZ S) (tg := mI S 91 6) k1 k2 (by omega) (by omega)).1, hi8, Rv_9 hR (by omega) (by omega)⟩) | (have hR := hi5.1; have hL := hi5.2; have k := hi6; rw [show (93 - l3.toInt).toNat = 0 from by omega] at k; have k1 := congrArg Prod.fst k; have k2 := congrArg Prod.snd k; have hl := hL.2.2.2; have p9 : aZ S 87 9 = mI S 91 5 := rfl; have p4 := congrArg Int32.toInt (show aZ S 87 4 = mI S 91 3 from rfl); have h39 := hR.2.2.1.2.2.1; have p9i := congrArg Int32.toInt p9; have p92 : (aZ S 92 (aZ S 87 9).toNatClampNeg).toInt = (mI S 92 (mI S 91 5).toNatClampNeg).toInt := congrArg Int32.toInt (aZ_9 (Or.inl rfl)); have lz := rp0_S1; have ly := Le_y (a := aZ S) (by omega); rw [((Z_p5 (x := v2) (xC_o (W := 75) hi4).2).trans (congrArg (fun q => ma_u q 87 9 v2) (show aZ S = aZ S from rfl)))]; exact ⟨Cl_2 k1 k2 (by omega) (by omega) lz (by omega), hi8, Rv_9 hR (by omega) (by omega)⟩) | (have hR := hi5.1; have hL := hi5.2; have k := hi6; rw [show (93 - l3.toInt).toNat = 0 from by omega] at k; have k1 := congrArg Prod.fst k; have k2 := congrArg Prod.snd k; have hl := hL.2.2.2; have p9 : aZ S 87 9 = mI S 91 5 := rfl; have p4 := congrArg Int32.toInt (show aZ S 87 4 = mI S 91 3 from rfl); have h39 := hR.2.2.1.2.2.1; have p9i := congrArg Int32.toInt p9; have p92 : (aZ S 92 (aZ S 87 9).toNatClampNeg).toInt = (mI S 92 (mI S 91 5).toNatClampNeg).toInt := congrArg Int32.toInt (aZ_9 (Or.inl rfl)); have lz := rp0_S1; rw [((Z_p5 (x := v2) (xC_o (W := 75) hi4).2).trans (congrArg (fun q => ma_u q 87 9 v2) (show aZ S = aZ S from rfl)))]; refine ⟨(Cl_3 (b := aZ S) (tg := mI S 91 6) k1 k2 (by omega) (by omega)).1, hi8, Rv_9 hR (by omega) (by omega)⟩) | (exfalso; have h39 := hi5.1.2.2.1.2.2.1; have h38 := hi5.1.2.2.1.2.1; have p9i := congrArg Int32.toInt (show aZ S 87 9 = mI S 91 5 from rfl); have p4 := congrArg Int32.toInt (show aZ S 87 4 = mI S 91 3 from rfl); omega))
        · skip
          have g21 := i_nlt h11
          refine zd (fun h22 => ?_) (fun h22 => ?_)
          · skip
            have g23 := i_le h22
            refine sp_52_91_sz  (by omega) (by omega) hI  (fun v4 S3 eS_S3 hp_v4 rp0_S3 => zi_n ⟨(by rw [eS_S3]; exact zG_T hI), ?_⟩)
            replace eS_S3 := eS_S3.symm; subst eS_S3
            have rp0_S3 : v4.toInt = rLe (aZ S) := rp0_S3
            have b24 := i_bd v4
            refine zd (fun h25 => ?_) (fun h25 => ?_)
            · skip
              have g26 := i_eq h25
              have hI27 : zL91 f r C Z N (ma_put S 91 5 (.inl (mI S 91 5))) := zG_sp hI (0) (92) rfl (by decide) (by decide) (by decide) trivial (by omega) (by omega)
              have b28 := i_bd l1
              exact K (l1) _ hI27 trivial (show xB (ma_put S 91 5 (.inl (mI S 91 5))) (mR (ma_put S 91 5 (.inl (mI S 91 5))) 70) from by first | (exact xB_x (xC_n (c := 91) (k := 5) (x := (mI S 91 5)) (xC_o (W := 75) hi4) ⟨by decide, Or.inl ⟨rfl, rfl⟩⟩).2)) (show aZ (ma_put S 91 5 (.inl (mI S 91 5))) = rCl ab ∧ l1 = aSv ab ∧ qRv (aZ (ma_put S 91 5 (.inl (mI S 91 5)))) from by first | (have hR := hi5.1; have hL := hi5.2; have k := hi6; rw [Of_e (by rw [← hi7]; omega)] at k; have k1 := congrArg Prod.fst k; have k2 := congrArg Prod.snd k; have hl := hL.2.2.2; have p9 : aZ S 87 9 = mI S 91 5 := rfl; have p4 := congrArg Int32.toInt (show aZ S 87 4 = mI S 91 3 from rfl); have h39 := hR.2.2.1.2.2.1; have p9i := congrArg Int32.toInt p9; have p92 : (aZ S 92 (aZ S 87 9).toNatClampNeg).toInt = (mI S 92 (mI S 91 5).toNatClampNeg).toInt := congrArg Int32.toInt (aZ_9 (Or.inl rfl)); have lz := rp0_S3; have ly := Le_y (a := aZ S) (by omega); rw [((Z_p5 (x := (mI S 91 5)) (xC_o (W := 75) hi4).2).trans (congrArg (fun q => ma_u q 87 9 (mI S 91 5)) (show aZ S = aZ S from rfl)))]; exact ⟨Cl_2 k1 k2 (by omega) (by omega) lz (by omega), hi8, Rv_9 hR (by omega) (by omega)⟩) | (have hR := hi5.1; have hL := hi5.2; have k := hi6; rw [Of_e (by rw [← hi7]; omega)] at k; have k1 := congrArg Prod.fst k; have k2 := congrArg Prod.snd k; have hl := hL.2.2.2; have p9 : aZ S 87 9 = mI S 91 5 := rfl; have p4 := congrArg Int32.toInt (show aZ S 87 4 = mI S 91 3 from rfl); have h39 := hR.2.2.1.2.2.1; have p9i := congrArg Int32.toInt p9; have p92 : (aZ S 92 (aZ S 87 9).toNatClampNeg).toInt = (mI S 92 (mI S 91 5).toNatClampNeg).toInt := congrArg Int32.toInt (aZ_9 (Or.inl rfl)); have lz := rp0_S3; rw [((Z_p5 (x := (mI S 91 5)) (xC_o (W := 75) hi4).2).trans (congrArg (fun q => ma_u q 87 9 (mI S 91 5)) (show aZ S = aZ S from rfl)))]; refine ⟨(Cl_3 (b := aZ S) (tg := mI S 91 6) k1 k2 (by omega) (by omega)).1, hi8, Rv_9 hR (by omega) (by omega)⟩) | (have hR := hi5.1; have hL := hi5.2; have k := hi6; rw [show (93 - l3.toInt).toNat = 0 from by omega] at k; have k1 := congrArg Prod.fst k; have k2 := congrArg Prod.snd k; have hl := hL.2.2.2; have p9 : aZ S 87 9 = mI S 91 5 := rfl; have p4 := congrArg Int32.toInt (show aZ S 87 4 = mI S 91 3 from rfl); have h39 := hR.2.2.1.2.2.1; have p9i := congrArg Int32.toInt p9; have p92 : (aZ S 92 (aZ S 87 9).toNatClampNeg).toInt = (mI S 92 (mI S 91 5).toNatClampNeg).toInt := congrArg Int32.toInt (aZ_9 (Or.inl rfl)); have lz := rp0_S3; have ly := Le_y (a := aZ S) (by omega); rw [((Z_p5 (x := (mI S 91 5)) (xC_o (W := 75) hi4).2).trans (congrArg (fun q => ma_u q 87 9 (mI S 91 5)) (show aZ S = aZ S from rfl)))]; exact ⟨Cl_2 k1 k2 (by omega) (by omega) lz (by omega), hi8, Rv_9 hR (by omega) (by omega)⟩) | (have hR := hi5.1; have hL := hi5.2; have k := hi6; rw [show (93 - l3.toInt).toNat = 0 from by omega] at k; have k1 := congrArg Prod.fst k; have k2 := congrArg Prod.snd k; have hl := hL.2.2.2; have p9 : aZ S 87 9 = mI S 91 5 := rfl; have p4 := congrArg Int32.toInt (show aZ S 87 4 = mI S 91 3 from rfl); have h39 := hR.2.2.1.2.2.1; have p9i := congrArg Int32.toInt p9; have p92 : (aZ S 92 (aZ S 87 9).toNatClampNeg).toInt = (mI S 92 (mI S 91 5).toNatClampNeg).toInt := congrArg Int32.toInt (aZ_9 (Or.inl rfl)); have lz := rp0_S3; rw [((Z_p5 (x := (mI S 91 5)) (xC_o (W := 75) hi4).2).trans (congrArg (fun q => ma_u q 87 9 (mI S 91 5)) (show aZ S = aZ S from rfl)))]; refine ⟨(Cl_3 (b := aZ S) (tg := mI S 91 6) k1 k2 (by omega) (by omega)).1, hi8, Rv_9 hR (by omega) (by omega)⟩) | (exfalso; have h39 := hi5.1.2.2.1.2.2.1; have h38 := hi5.1.2.2.1.2.1; have p9i := congrArg Int32.toInt (show aZ S 87 9 = mI S 91 5 from rfl); have p4 := congrArg Int32.toInt (show aZ S 87 4 = mI S 91 3 from rfl); omega))
            · skip
              have g29 := i_ne h25
              have hI30 : zL91 f r C Z N (ma_put S 91 5 (.inl v4)) := zG_sp hI (0) (92) rfl (by decide) (by decide) (by decide) trivial (by omega) (by omega)
              have b31 := i_bd l1
              exact K (l1) _ hI30 trivial (show xB (ma_put S 91 5 (.inl v4)) (mR (ma_put S 91 5 (.inl v4)) 70) from by first | (exact xB_x (xC_n (c := 91) (k := 5) (x := v4) (xC_o (W := 75) hi4) ⟨by decide, Or.inl ⟨rfl, rfl⟩⟩).2)) (show aZ (ma_put S 91 5 (.inl v4)) = rCl ab ∧ l1 = aSv ab ∧ qRv (aZ (ma_put S 91 5 (.inl v4))) from by first | (have hR := hi5.1; have hL := hi5.2; have k := hi6; rw [Of_e (by rw [← hi7]; omega)] at k; have k1 := congrArg Prod.fst k; have k2 := congrArg Prod.snd k; have hl := hL.2.2.2; have p9 : aZ S 87 9 = mI S 91 5 := rfl; have p4 := congrArg Int32.toInt (show aZ S 87 4 = mI S 91 3 from rfl); have h39 := hR.2.2.1.2.2.1; have p9i := congrArg Int32.toInt p9; have p92 : (aZ S 92 (aZ S 87 9).toNatClampNeg).toInt = (mI S 92 (mI S 91 5).toNatClampNeg).toInt := congrArg Int32.toInt (aZ_9 (Or.inl rfl)); have lz := rp0_S3; have ly := Le_y (a := aZ S) (by omega); rw [((Z_p5 (x := v4) (xC_o (W := 75) hi4).2).trans (congrArg (fun q => ma_u q 87 9 v4) (show aZ S = aZ S from rfl)))]; exact ⟨Cl_2 k1 k2 (by omega) (by omega) lz (by omega), hi8, Rv_9 hR (by omega) (by omega)⟩) | (have hR := hi5.1; have hL := hi5.2; have k := hi6; rw [Of_e (by rw [← hi7]; omega)] at k; have k1 := congrArg Prod.fst k; have k2 := congrArg Prod.snd k; have hl := hL.2.2.2; have p9 : aZ S 87 9 = mI S 91 5 := rfl; have p4 := congrArg Int32.toInt (show aZ S 87 4 = mI S 91 3 from rfl); have h39 := hR.2.2.1.2.2.1; have p9i := congrArg Int32.toInt p9; have p92 : (aZ S 92 (aZ S 87 9).toNatClampNeg).toInt = (mI S 92 (mI S 91 5).toNatClampNeg).toInt := congrArg Int32.toInt (aZ_9 (Or.inl rfl)); have lz := rp0_S3; rw [((Z_p5 (x := v4) (xC_o (W := 75) hi4).2).trans (congrArg (fun q => ma_u q 87 9 v4) (show aZ S = aZ S from rfl)))]; refine ⟨(Cl_3 (b := aZ S) (tg := mI S 91 6) k1 k2 (by omega) (by omega)).1, hi8, Rv_9 hR (by omega) (by omega)⟩) | (have hR := hi5.1; have hL := hi5.2; have k := hi6; rw [show (93 - l3.toInt).toNat = 0 from by omega] at k; have k1 := congrArg Prod.fst k; have k2 := congrArg Prod.snd k; have hl := hL.2.2.2; have p9 : aZ S 87 9 = mI S 91 5 := rfl; have p4 := congrArg Int32.toInt (show aZ S 87 4 = mI S 91 3 from rfl); have h39 := hR.2.2.1.2.2.1; have p9i := congrArg Int32.toInt p9; have p92 : (aZ S 92 (aZ S 87 9).toNatClampNeg).toInt = (mI S 92 (mI S 91 5).toNatClampNeg).toInt := congrArg Int32.toInt (aZ_9 (Or.inl rfl)); have lz := rp0_S3; have ly := Le_y (a := aZ S) (by omega); rw [((Z_p5 (x := v4) (xC_o (W := 75) hi4).2).trans (congrArg (fun q => ma_u q 87 9 v4) (show aZ S = aZ S from rfl)))]; exact ⟨Cl_2 k1 k2 (by omega) (by omega) lz (by omega), hi8, Rv_9 hR (by omega) (by omega)⟩) | (have hR := hi5.1; have hL := hi5.2; have k := hi6; rw [show (93 - l3.toInt).toNat = 0 from by omega] at k; have k1 := congrArg Prod.fst k; have k2 := congrArg Prod.snd k; have hl := hL.2.2.2; have p9 : aZ S 87 9 = mI S 91 5 := rfl; have p4 := congrArg Int32.toInt (show aZ S 87 4 = mI S 91 3 from rfl); have h39 := hR.2.2.1.2.2.1; have p9i := congrArg Int32.toInt p9; have p92 : (aZ S 92 (aZ S 87 9).toNatClampNeg).toInt = (mI S 92 (mI S 91 5).toNatClampNeg).toInt := congrArg Int32.toInt (aZ_9 (Or.inl rfl)); have lz := rp0_S3; rw [((Z_p5 (x := v4) (xC_o (W := 75) hi4).2).trans (congrArg (fun q => ma_u q 87 9 v4) (show aZ S = aZ S from rfl)))]; refine ⟨(Cl_3 (b := aZ S) (tg := mI S 91 6) k1 k2 (by omega) (by omega)).1, hi8, Rv_9 hR (by omega) (by omega)⟩) | (exfalso; have h39 := hi5.1.2.2.1.2.2.1; have h38 := hi5.1.2.2.1.2.1; have p9i := congrArg Int32.toInt (show aZ S 87 9 = mI S 91 5 from rfl); have p4 := congrArg Int32.toInt (show aZ S 87 4 = mI S 91 3 from rfl); omega))
          · skip
            have g32 := i_nle h22
            refine ⟨i_ix (by omega) (by omega), ?_⟩
            first | have f33 := zG_a hI 93 (0) (3000) (c := 92) (k := (mI S 91 5).toNatClampNeg) (by decide) (i_ix (n := 93) (by omega) (by omega)).2 | have b34 := i_bd (mI S 92 (mI S 91 5).toNatClampNeg)
            refine zd (fun h35 => ?_) (fun h35 => ?_)
            · skip
              have g36 := i_eq h35
              refine sp_52_91_sz  (by omega) (by omega) hI  (fun v6 S5 eS_S5 hp_v6 rp0_S5 => zi_n ⟨(by rw [eS_S5]; exact zG_T hI), ?_⟩)
              replace eS_S5 := eS_S5.symm; subst eS_S5
              have rp0_S5 : v6.toInt = rLe (aZ S) := rp0_S5
              have b37 := i_bd v6
              refine zd (fun h38 => ?_) (fun h38 => ?_)
              · skip
                have g39 := i_eq h38
                have hI40 : zL91 f r C Z N (ma_put S 91 5 (.inl (mI S 91 5))) := zG_sp hI (0) (92) rfl (by decide) (by decide) (by decide) trivial (by omega) (by omega)
                have b41 := i_bd l1
                exact K (l1) _ hI40 trivial (show xB (ma_put S 91 5 (.inl (mI S 91 5))) (mR (ma_put S 91 5 (.inl (mI S 91 5))) 70) from by first | (exact xB_x (xC_n (c := 91) (k := 5) (x := (mI S 91 5)) (xC_o (W := 75) hi4) ⟨by decide, Or.inl ⟨rfl, rfl⟩⟩).2)) (show aZ (ma_put S 91 5 (.inl (mI S 91 5))) = rCl ab ∧ l1 = aSv ab ∧ qRv (aZ (ma_put S 91 5 (.inl (mI S 91 5)))) from by first | (have hR := hi5.1; have hL := hi5.2; have k := hi6; rw [Of_e (by rw [← hi7]; omega)] at k; have k1 := congrArg Prod.fst k; have k2 := congrArg Prod.snd k; have hl := hL.2.2.2; have p9 : aZ S 87 9 = mI S 91 5 := rfl; have p4 := congrArg Int32.toInt (show aZ S 87 4 = mI S 91 3 from rfl); have h39 := hR.2.2.1.2.2.1; have p9i := congrArg Int32.toInt p9; have p92 : (aZ S 92 (aZ S 87 9).toNatClampNeg).toInt = (mI S 92 (mI S 91 5).toNatClampNeg).toInt := congrArg Int32.toInt (aZ_9 (Or.inl rfl)); have lz := rp0_S5; have ly := Le_y (a := aZ S) (by omega); rw [((Z_p5 (x := (mI S 91 5)) (xC_o (W := 75) hi4).2).trans (congrArg (fun q => ma_u q 87 9 (mI S 91 5)) (show aZ S = aZ S from rfl)))]; exact ⟨Cl_2 k1 k2 (by omega) (by omega) lz (by omega), hi8, Rv_9 hR (by omega) (by omega)⟩) | (have hR := hi5.1; have hL := hi5.2; have k := hi6; rw [Of_e (by rw [← hi7]; omega)] at k; have k1 := congrArg Prod.fst k; have k2 := congrArg Prod.snd k; have hl := hL.2.2.2; have p9 : aZ S 87 9 = mI S 91 5 := rfl; have p4 := congrArg Int32.toInt (show aZ S 87 4 = mI S 91 3 from rfl); have h39 := hR.2.2.1.2.2.1; have p9i := congrArg Int32.toInt p9; have p92 : (aZ S 92 (aZ S 87 9).toNatClampNeg).toInt = (mI S 92 (mI S 91 5).toNatClampNeg).toInt := congrArg Int32.toInt (aZ_9 (Or.inl rfl)); have lz := rp0_S5; rw [((Z_p5 (x := (mI S 91 5)) (xC_o (W := 75) hi4).2).trans (congrArg (fun q => ma_u q 87 9 (mI S 91 5)) (show aZ S = aZ S from rfl)))]; refine ⟨(Cl_3 (b := aZ S) (tg := mI S 91 6) k1 k2 (by omega) (by omega)).1, hi8, Rv_9 hR (by omega) (by omega)⟩) | (have hR := hi5.1; have hL := hi5.2; have k := hi6; rw [show (93 - l3.toInt).toNat = 0 from by omega] at k; have k1 := congrArg Prod.fst k; have k2 := congrArg Prod.snd k; have hl := hL.2.2.2; have p9 : aZ S 87 9 = mI S 91 5 := rfl; have p4 := congrArg Int32.toInt (show aZ S 87 4 = mI S 91 3 from rfl); have h39 := hR.2.2.1.2.2.1; have p9i := congrArg Int32.toInt p9; have p92 : (aZ S 92 (aZ S 87 9).toNatClampNeg).toInt = (mI S 92 (mI S 91 5).toNatClampNeg).toInt := congrArg Int32.toInt (aZ_9 (Or.inl rfl)); have lz := rp0_S5; have ly := Le_y (a := aZ S) (by omega); rw [((Z_p5 (x := (mI S 91 5)) (xC_o (W := 75) hi4).2).trans (congrArg (fun q => ma_u q 87 9 (mI S 91 5)) (show aZ S = aZ S from rfl)))]; exact ⟨Cl_2 k1 k2 (by omega) (by omega) lz (by omega), hi8, Rv_9 hR (by omega) (by omega)⟩) | (have hR := hi5.1; have hL := hi5.2; have k := hi6; rw [show (93 - l3.toInt).toNat = 0 from by omega] at k; have k1 := congrArg Prod.fst k; have k2 := congrArg Prod.snd k; have hl := hL.2.2.2; have p9 : aZ S 87 9 = mI S 91 5 := rfl; have p4 := congrArg Int32.toInt (show aZ S 87 4 = mI S 91 3 from rfl); have h39 := hR.2.2.1.2.2.1; have p9i := congrArg Int32.toInt p9; have p92 : (aZ S 92 (aZ S 87 9).toNatClampNeg).toInt = (mI S 92 (mI S 91 5).toNatClampNeg).toInt := congrArg Int32.toInt (aZ_9 (Or.inl rfl)); have lz := rp0_S5; rw [((Z_p5 (x := (mI S 91 5)) (xC_o (W := 75) hi4).2).trans (congrArg (fun q => ma_u q 87 9 (mI S 91 5)) (show aZ S = aZ S from rfl)))]; refine ⟨(Cl_3 (b := aZ S) (tg := mI S 91 6) k1 k2 (by omega) (by omega)).1, hi8, Rv_9 hR (by omega) (by omega)⟩) | (exfalso; have h39 := hi5.1.2.2.1.2.2.1; have h38 := hi5.1.2.2.1.2.1; have p9i := congrArg Int32.toInt (show aZ S 87 9 = mI S 91 5 from rfl); have p4 := congrArg Int32.toInt (show aZ S 87 4 = mI S 91 3 from rfl); omega))
              · skip
                have g42 := i_ne h38
                have hI43 : zL91 f r C Z N (ma_put S 91 5 (.inl v6)) := zG_sp hI (0) (92) rfl (by decide) (by decide) (by decide) trivial (by omega) (by omega)
                have b44 := i_bd l1
                exact K (l1) _ hI43 trivial (show xB (ma_put S 91 5 (.inl v6)) (mR (ma_put S 91 5 (.inl v6)) 70) from by first | (exact xB_x (xC_n (c := 91) (k := 5) (x := v6) (xC_o (W := 75) hi4) ⟨by decide, Or.inl ⟨rfl, rfl⟩⟩).2)) (show aZ (ma_put S 91 5 (.inl v6)) = rCl ab ∧ l1 = aSv ab ∧ qRv (aZ (ma_put S 91 5 (.inl v6))) from by first | (have hR := hi5.1; have hL := hi5.2; have k := hi6; rw [Of_e (by rw [← hi7]; omega)] at k; have k1 := congrArg Prod.fst k; have k2 := congrArg Prod.snd k; have hl := hL.2.2.2; have p9 : aZ S 87 9 = mI S 91 5 := rfl; have p4 := congrArg Int32.toInt (show aZ S 87 4 = mI S 91 3 from rfl); have h39 := hR.2.2.1.2.2.1; have p9i := congrArg Int32.toInt p9; have p92 : (aZ S 92 (aZ S 87 9).toNatClampNeg).toInt = (mI S 92 (mI S 91 5).toNatClampNeg).toInt := congrArg Int32.toInt (aZ_9 (Or.inl rfl)); have lz := rp0_S5; have ly := Le_y (a := aZ S) (by omega); rw [((Z_p5 (x := v6) (xC_o (W := 75) hi4).2).trans (congrArg (fun q => ma_u q 87 9 v6) (show aZ S = aZ S from rfl)))]; exact ⟨Cl_2 k1 k2 (by omega) (by omega) lz (by omega), hi8, Rv_9 hR (by omega) (by omega)⟩) | (have hR := hi5.1; have hL := hi5.2; have k := hi6; rw [Of_e (by rw [← hi7]; omega)] at k; have k1 := congrArg Prod.fst k; have k2 := congrArg Prod.snd k; have hl := hL.2.2.2; have p9 : aZ S 87 9 = mI S 91 5 := rfl; have p4 := congrArg Int32.toInt (show aZ S 87 4 = mI S 91 3 from rfl); have h39 := hR.2.2.1.2.2.1; have p9i := congrArg Int32.toInt p9; have p92 : (aZ S 92 (aZ S 87 9).toNatClampNeg).toInt = (mI S 92 (mI S 91 5).toNatClampNeg).toInt := congrArg Int32.toInt (aZ_9 (Or.inl rfl)); have lz := rp0_S5; rw [((Z_p5 (x := v6) (xC_o (W := 75) hi4).2).trans (congrArg (fun q => ma_u q 87 9 v6) (show aZ S = aZ S from rfl)))]; refine ⟨(Cl_3 (b := aZ S) (tg := mI S 91 6) k1 k2 (by omega) (by omega)).1, hi8, Rv_9 hR (by omega) (by omega)⟩) | (have hR := hi5.1; have hL := hi5.2; have k := hi6; rw [show (93 - l3.toInt).toNat = 0 from by omega] at k; have k1 := congrArg Prod.fst k; have k2 := congrArg Prod.snd k; have hl := hL.2.2.2; have p9 : aZ S 87 9 = mI S 91 5 := rfl; have p4 := congrArg Int32.toInt (show aZ S 87 4 = mI S 91 3 from rfl); have h39 := hR.2.2.1.2.2.1; have p9i := congrArg Int32.toInt p9; have p92 : (aZ S 92 (aZ S 87 9).toNatClampNeg).toInt = (mI S 92 (mI S 91 5).toNatClampNeg).toInt := congrArg Int32.toInt (aZ_9 (Or.inl rfl)); have lz := rp0_S5; have ly := Le_y (a := aZ S) (by omega); rw [((Z_p5 (x := v6) (xC_o (W := 75) hi4).2).trans (congrArg (fun q => ma_u q 87 9 v6) (show aZ S = aZ S from rfl)))]; exact ⟨Cl_2 k1 k2 (by omega) (by omega) lz (by omega), hi8, Rv_9 hR (by omega) (by omega)⟩) | (have hR := hi5.1; have hL := hi5.2; have k := hi6; rw [show (93 - l3.toInt).toNat = 0 from by omega] at k; have k1 := congrArg Prod.fst k; have k2 := congrArg Prod.snd k; have hl := hL.2.2.2; have p9 : aZ S 87 9 = mI S 91 5 := rfl; have p4 := congrArg Int32.toInt (show aZ S 87 4 = mI S 91 3 from rfl); have h39 := hR.2.2.1.2.2.1; have p9i := congrArg Int32.toInt p9; have p92 : (aZ S 92 (aZ S 87 9).toNatClampNeg).toInt = (mI S 92 (mI S 91 5).toNatClampNeg).toInt := congrArg Int32.toInt (aZ_9 (Or.inl rfl)); have lz := rp0_S5; rw [((Z_p5 (x := v6) (xC_o (W := 75) hi4).2).trans (congrArg (fun q => ma_u q 87 9 v6) (show aZ S = aZ S from rfl)))]; refine ⟨(Cl_3 (b := aZ S) (tg := mI S 91 6) k1 k2 (by omega) (by omega)).1, hi8, Rv_9 hR (by omega) (by omega)⟩) | (exfalso; have h39 := hi5.1.2.2.1.2.2.1; have h38 := hi5.1.2.2.1.2.1; have p9i := congrArg Int32.toInt (show aZ S 87 9 = mI S 91 5 from rfl); have p4 := congrArg Int32.toInt (show aZ S 87 4 = mI S 91 3 from rfl); omega))
            · skip
              have g45 := i_ne h35
              have b46 := i_bd l1
              exact K (l1) _ hI trivial (show xB S (mR S 70) from by first | (exact xB_x (xC_o (W := 75) hi4).2)) (show aZ S = rCl ab ∧ l1 = aSv ab ∧ qRv (aZ S) from by first | (have hR := hi5.1; have hL := hi5.2; have k := hi6; rw [Of_e (by rw [← hi7]; omega)] at k; have k1 := congrArg Prod.fst k; have k2 := congrArg Prod.snd k; have hl := hL.2.2.2; have p9 : aZ S 87 9 = mI S 91 5 := rfl; have p4 := congrArg Int32.toInt (show aZ S 87 4 = mI S 91 3 from rfl); have h39 := hR.2.2.1.2.2.1; have p9i := congrArg Int32.toInt p9; have p92 : (aZ S 92 (aZ S 87 9).toNatClampNeg).toInt = (mI S 92 (mI S 91 5).toNatClampNeg).toInt := congrArg Int32.toInt (aZ_9 (Or.inl rfl)); exact ⟨(Cl_3 (b := aZ S) (tg := mI S 91 6) k1 k2 (by omega) (by omega)).2, hi8, hR⟩) | (have hR := hi5.1; have hL := hi5.2; have k := hi6; rw [show (93 - l3.toInt).toNat = 0 from by omega] at k; have k1 := congrArg Prod.fst k; have k2 := congrArg Prod.snd k; have hl := hL.2.2.2; have p9 : aZ S 87 9 = mI S 91 5 := rfl; have p4 := congrArg Int32.toInt (show aZ S 87 4 = mI S 91 3 from rfl); have h39 := hR.2.2.1.2.2.1; have p9i := congrArg Int32.toInt p9; have p92 : (aZ S 92 (aZ S 87 9).toNatClampNeg).toInt = (mI S 92 (mI S 91 5).toNatClampNeg).toInt := congrArg Int32.toInt (aZ_9 (Or.inl rfl)); exact ⟨(Cl_3 (b := aZ S) (tg := mI S 91 6) k1 k2 (by omega) (by omega)).2, hi8, hR⟩) | (exfalso; have h39 := hi5.1.2.2.1.2.2.1; have h38 := hi5.1.2.2.1.2.1; have p9i := congrArg Int32.toInt (show aZ S 87 9 = mI S 91 5 from rfl); have p4 := congrArg Int32.toInt (show aZ S 87 4 = mI S 91 3 from rfl); omega))
      · skip
        have g47 := i_ne h7
        have hI48 : zL91 f r C Z N (ma_put S 91 5 (.inl (mI S 91 6))) := zG_sp hI (0) (92) rfl (by decide) (by decide) (by decide) trivial (by omega) (by omega)
        have b49 := i_bd l1
        exact K (l1) _ hI48 trivial (show xB (ma_put S 91 5 (.inl (mI S 91 6))) (mR (ma_put S 91 5 (.inl (mI S 91 6))) 70) from by first | (exact xB_x (xC_n (c := 91) (k := 5) (x := (mI S 91 6)) (xC_o (W := 75) hi4) ⟨by decide, Or.inl ⟨rfl, rfl⟩⟩).2)) (show aZ (ma_put S 91 5 (.inl (mI S 91 6))) = rCl ab ∧ l1 = aSv ab ∧ qRv (aZ (ma_put S 91 5 (.inl (mI S 91 6)))) from by first | (have hR := hi5.1; have hL := hi5.2; have k := hi6; rw [Of_e (by rw [← hi7]; omega)] at k; have k1 := congrArg Prod.fst k; have k2 := congrArg Prod.snd k; have hl := hL.2.2.2; have p9 : aZ S 87 9 = mI S 91 5 := rfl; have p4 := congrArg Int32.toInt (show aZ S 87 4 = mI S 91 3 from rfl); have h39 := hR.2.2.1.2.2.1; have p9i := congrArg Int32.toInt p9; have p92 : (aZ S 92 (aZ S 87 9).toNatClampNeg).toInt = (mI S 92 (mI S 91 5).toNatClampNeg).toInt := congrArg Int32.toInt (aZ_9 (Or.inl rfl)); rw [((Z_p5 (x := (mI S 91 6)) (xC_o (W := 75) hi4).2).trans (congrArg (fun q => ma_u q 87 9 (mI S 91 6)) (show aZ S = aZ S from rfl)))]; exact ⟨Cl_1 k1 k2 (by omega), hi8, Rv_9 hR (by omega) (by omega)⟩) | (have hR := hi5.1; have hL := hi5.2; have k := hi6; rw [show (93 - l3.toInt).toNat = 0 from by omega] at k; have k1 := congrArg Prod.fst k; have k2 := congrArg Prod.snd k; have hl := hL.2.2.2; have p9 : aZ S 87 9 = mI S 91 5 := rfl; have p4 := congrArg Int32.toInt (show aZ S 87 4 = mI S 91 3 from rfl); have h39 := hR.2.2.1.2.2.1; have p9i := congrArg Int32.toInt p9; have p92 : (aZ S 92 (aZ S 87 9).toNatClampNeg).toInt = (mI S 92 (mI S 91 5).toNatClampNeg).toInt := congrArg Int32.toInt (aZ_9 (Or.inl rfl)); rw [((Z_p5 (x := (mI S 91 6)) (xC_o (W := 75) hi4).2).trans (congrArg (fun q => ma_u q 87 9 (mI S 91 6)) (show aZ S = aZ S from rfl)))]; exact ⟨Cl_1 k1 k2 (by omega), hi8, Rv_9 hR (by omega) (by omega)⟩) | (exfalso; have h39 := hi5.1.2.2.1.2.2.1; have h38 := hi5.1.2.2.1.2.1; have p9i := congrArg Int32.toInt (show aZ S 87 9 = mI S 91 5 from rfl); have p4 := congrArg Int32.toInt (show aZ S 87 4 = mI S 91 3 from rfl); omega))
    · skip
      have g50 := i_nle h4
      have b51 := i_bd l2
      have li52 : (-1 : Int32).toInt = -1 := rfl
      refine zd (fun h53 => ?_) (fun h53 => ?_)
      · skip
        have g54 := i_eq h53
        refine zd (fun h55 => ?_) (fun h55 => ?_)
        · skip
          have g56 := i_eq h55
          have f57 := zG_s hI (0) (92) (c := 91) (k := 5) (by decide)
          have li58 : (0 : Int32).toInt = 0 := rfl
          refine zd (fun h59 => ?_) (fun h59 => ?_)
          · skip
            have g60 := i_lt h59
            refine sp_52_91_sz  (by omega) (by omega) hI  (fun v8 S7 eS_S7 hp_v8 rp0_S7 => zi_n ⟨(by rw [eS_S7]; exact zG_T hI), ?_⟩)
            replace eS_S7 := eS_S7.symm; subst eS_S7
            have rp0_S7 : v8.toInt = rLe (aZ S) := rp0_S7
            have b61 := i_bd v8
            refine zd (fun h62 => ?_) (fun h62 => ?_)
            · skip
              have g63 := i_eq h62
              have hI64 : zL91 f r C Z N (ma_put S 91 5 (.inl (mI S 91 5))) := zG_sp hI (0) (92) rfl (by decide) (by decide) (by decide) trivial (by omega) (by omega)
              have b65 := i_bd l1
              exact K (l1) _ hI64 trivial (show xB (ma_put S 91 5 (.inl (mI S 91 5))) (mR (ma_put S 91 5 (.inl (mI S 91 5))) 70) from by first | (exact xB_x (xC_n (c := 91) (k := 5) (x := (mI S 91 5)) (xC_o (W := 75) hi4) ⟨by decide, Or.inl ⟨rfl, rfl⟩⟩).2)) (show aZ (ma_put S 91 5 (.inl (mI S 91 5))) = rCl ab ∧ l1 = aSv ab ∧ qRv (aZ (ma_put S 91 5 (.inl (mI S 91 5)))) from by first | (have hR := hi5.1; have hL := hi5.2; have k := hi6; rw [Of_e (by rw [← hi7]; omega)] at k; have k1 := congrArg Prod.fst k; have k2 := congrArg Prod.snd k; have hl := hL.2.2.2; have p9 : aZ S 87 9 = mI S 91 5 := rfl; have p4 := congrArg Int32.toInt (show aZ S 87 4 = mI S 91 3 from rfl); have h39 := hR.2.2.1.2.2.1; have p9i := congrArg Int32.toInt p9; have p92 : (aZ S 92 (aZ S 87 9).toNatClampNeg).toInt = (mI S 92 (mI S 91 5).toNatClampNeg).toInt := congrArg Int32.toInt (aZ_9 (Or.inl rfl)); have lz := rp0_S7; have ly := Le_y (a := aZ S) (by omega); rw [((Z_p5 (x := (mI S 91 5)) (xC_o (W := 75) hi4).2).trans (congrArg (fun q => ma_u q 87 9 (mI S 91 5)) (show aZ S = aZ S from rfl)))]; exact ⟨Cl_2 k1 k2 (by omega) (by omega) lz (by omega), hi8, Rv_9 hR (by omega) (by omega)⟩) | (have hR := hi5.1; have hL := hi5.2; have k := hi6; rw [Of_e (by rw [← hi7]; omega)] at k; have k1 := congrArg Prod.fst k; have k2 := congrArg Prod.snd k; have hl := hL.2.2.2; have p9 : aZ S 87 9 = mI S 91 5 := rfl; have p4 := congrArg Int32.toInt (show aZ S 87 4 = mI S 91 3 from rfl); have h39 := hR.2.2.1.2.2.1; have p9i := congrArg Int32.toInt p9; have p92 : (aZ S 92 (aZ S 87 9).toNatClampNeg).toInt = (mI S 92 (mI S 91 5).toNatClampNeg).toInt := congrArg Int32.toInt (aZ_9 (Or.inl rfl)); have lz := rp0_S7; rw [((Z_p5 (x := (mI S 91 5)) (xC_o (W := 75) hi4).2).trans (congrArg (fun q => ma_u q 87 9 (mI S 91 5)) (show aZ S = aZ S from rfl)))]; refine ⟨(Cl_3 (b := aZ S) (tg := mI S 91 6) k1 k2 (by omega) (by omega)).1, hi8, Rv_9 hR (by omega) (by omega)⟩) | (have hR := hi5.1; have hL := hi5.2; have k := hi6; rw [show (93 - l3.toInt).toNat = 0 from by omega] at k; have k1 := congrArg Prod.fst k; have k2 := congrArg Prod.snd k; have hl := hL.2.2.2; have p9 : aZ S 87 9 = mI S 91 5 := rfl; have p4 := congrArg Int32.toInt (show aZ S 87 4 = mI S 91 3 from rfl); have h39 := hR.2.2.1.2.2.1; have p9i := congrArg Int32.toInt p9; have p92 : (aZ S 92 (aZ S 87 9).toNatClampNeg).toInt = (mI S 92 (mI S 91 5).toNatClampNeg).toInt := congrArg Int32.toInt (aZ_9 (Or.inl rfl)); have lz := rp0_S7; have ly := Le_y (a := aZ S) (by omega); rw [((Z_p5 (x := (mI S 91 5)) (xC_o (W := 75) hi4).2).trans (congrArg (fun q => ma_u q 87 9 (mI S 91 5)) (show aZ S = aZ S from rfl)))]; exact ⟨Cl_2 k1 k2 (by omega) (by omega) lz (by omega), hi8, Rv_9 hR (by omega) (by omega)⟩) | (have hR := hi5.1; have hL := hi5.2; have k := hi6; rw [show (93 - l3.toInt).toNat = 0 from by omega] at k; have k1 := congrArg Prod.fst k; have k2 := congrArg Prod.snd k; have hl := hL.2.2.2; have p9 : aZ S 87 9 = mI S 91 5 := rfl; have p4 := congrArg Int32.toInt (show aZ S 87 4 = mI S 91 3 from rfl); have h39 := hR.2.2.1.2.2.1; have p9i := congrArg Int32.toInt p9; have p92 : (aZ S 92 (aZ S 87 9).toNatClampNeg).toInt = (mI S 92 (mI S 91 5).toNatClampNeg).toInt := congrArg Int32.toInt (aZ_9 (Or.inl rfl)); have lz := rp0_S7; rw [((Z_p5 (x := (mI S 91 5)) (xC_o (W := 75) hi4).2).trans (congrArg (fun q => ma_u q 87 9 (mI S 91 5)) (show aZ S = aZ S from rfl)))]; refine ⟨(Cl_3 (b := aZ S) (tg := mI S 91 6) k1 k2 (by omega) (by omega)).1, hi8, Rv_9 hR (by omega) (by omega)⟩) | (exfalso; have h39 := hi5.1.2.2.1.2.2.1; have h38 := hi5.1.2.2.1.2.1; have p9i := congrArg Int32.toInt (show aZ S 87 9 = mI S 91 5 from rfl); have p4 := congrArg Int32.toInt (show aZ S 87 4 = mI S 91 3 from rfl); omega))
            · skip
              have g66 := i_ne h62
              have hI67 : zL91 f r C Z N (ma_put S 91 5 (.inl v8)) := zG_sp hI (0) (92) rfl (by decide) (by decide) (by decide) trivial (by omega) (by omega)
              have b68 := i_bd l1
              exact K (l1) _ hI67 trivial (show xB (ma_put S 91 5 (.inl v8)) (mR (ma_put S 91 5 (.inl v8)) 70) from by first | (exact xB_x (xC_n (c := 91) (k := 5) (x := v8) (xC_o (W := 75) hi4) ⟨by decide, Or.inl ⟨rfl, rfl⟩⟩).2)) (show aZ (ma_put S 91 5 (.inl v8)) = rCl ab ∧ l1 = aSv ab ∧ qRv (aZ (ma_put S 91 5 (.inl v8))) from by first | (have hR := hi5.1; have hL := hi5.2; have k := hi6; rw [Of_e (by rw [← hi7]; omega)] at k; have k1 := congrArg Prod.fst k; have k2 := congrArg Prod.snd k; have hl := hL.2.2.2; have p9 : aZ S 87 9 = mI S 91 5 := rfl; have p4 := congrArg Int32.toInt (show aZ S 87 4 = mI S 91 3 from rfl); have h39 := hR.2.2.1.2.2.1; have p9i := congrArg Int32.toInt p9; have p92 : (aZ S 92 (aZ S 87 9).toNatClampNeg).toInt = (mI S 92 (mI S 91 5).toNatClampNeg).toInt := congrArg Int32.toInt (aZ_9 (Or.inl rfl)); have lz := rp0_S7; have ly := Le_y (a := aZ S) (by omega); rw [((Z_p5 (x := v8) (xC_o (W := 75) hi4).2).trans (congrArg (fun q => ma_u q 87 9 v8) (show aZ S = aZ S from rfl)))]; exact ⟨Cl_2 k1 k2 (by omega) (by omega) lz (by omega), hi8, Rv_9 hR (by omega) (by omega)⟩) | (have hR := hi5.1; have hL := hi5.2; have k := hi6; rw [Of_e (by rw [← hi7]; omega)] at k; have k1 := congrArg Prod.fst k; have k2 := congrArg Prod.snd k; have hl := hL.2.2.2; have p9 : aZ S 87 9 = mI S 91 5 := rfl; have p4 := congrArg Int32.toInt (show aZ S 87 4 = mI S 91 3 from rfl); have h39 := hR.2.2.1.2.2.1; have p9i := congrArg Int32.toInt p9; have p92 : (aZ S 92 (aZ S 87 9).toNatClampNeg).toInt = (mI S 92 (mI S 91 5).toNatClampNeg).toInt := congrArg Int32.toInt (aZ_9 (Or.inl rfl)); have lz := rp0_S7; rw [((Z_p5 (x := v8) (xC_o (W := 75) hi4).2).trans (congrArg (fun q => ma_u q 87 9 v8) (show aZ S = aZ S from rfl)))]; refine ⟨(Cl_3 (b := aZ S) (tg := mI S 91 6) k1 k2 (by omega) (by omega)).1, hi8, Rv_9 hR (by omega) (by omega)⟩) | (have hR := hi5.1; have hL := hi5.2; have k := hi6; rw [show (93 - l3.toInt).toNat = 0 from by omega] at k; have k1 := congrArg Prod.fst k; have k2 := congrArg Prod.snd k; have hl := hL.2.2.2; have p9 : aZ S 87 9 = mI S 91 5 := rfl; have p4 := congrArg Int32.toInt (show aZ S 87 4 = mI S 91 3 from rfl); have h39 := hR.2.2.1.2.2.1; have p9i := congrArg Int32.toInt p9; have p92 : (aZ S 92 (aZ S 87 9).toNatClampNeg).toInt = (mI S 92 (mI S 91 5).toNatClampNeg).toInt := congrArg Int32.toInt (aZ_9 (Or.inl rfl)); have lz := rp0_S7; have ly := Le_y (a := aZ S) (by omega); rw [((Z_p5 (x := v8) (xC_o (W := 75) hi4).2).trans (congrArg (fun q => ma_u q 87 9 v8) (show aZ S = aZ S from rfl)))]; exact ⟨Cl_2 k1 k2 (by omega) (by omega) lz (by omega), hi8, Rv_9 hR (by omega) (by omega)⟩) | (have hR := hi5.1; have hL := hi5.2; have k := hi6; rw [show (93 - l3.toInt).toNat = 0 from by omega] at k; have k1 := congrArg Prod.fst k; have k2 := congrArg Prod.snd k; have hl := hL.2.2.2; have p9 : aZ S 87 9 = mI S 91 5 := rfl; have p4 := congrArg Int32.toInt (show aZ S 87 4 = mI S 91 3 from rfl); have h39 := hR.2.2.1.2.2.1; have p9i := congrArg Int32.toInt p9; have p92 : (aZ S 92 (aZ S 87 9).toNatClampNeg).toInt = (mI S 92 (mI S 91 5).toNatClampNeg).toInt := congrArg Int32.toInt (aZ_9 (Or.inl rfl)); have lz := rp0_S7; rw [((Z_p5 (x := v8) (xC_o (W := 75) hi4).2).trans (congrArg (fun q => ma_u q 87 9 v8) (show aZ S = aZ S from rfl)))]; refine ⟨(Cl_3 (b := aZ S) (tg := mI S 91 6) k1 k2 (by omega) (by omega)).1, hi8, Rv_9 hR (by omega) (by omega)⟩) | (exfalso; have h39 := hi5.1.2.2.1.2.2.1; have h38 := hi5.1.2.2.1.2.1; have p9i := congrArg Int32.toInt (show aZ S 87 9 = mI S 91 5 from rfl); have p4 := congrArg Int32.toInt (show aZ S 87 4 = mI S 91 3 from rfl); omega))
          · skip
            have g69 := i_nlt h59
            refine zd (fun h70 => ?_) (fun h70 => ?_)
            · skip
              have g71 := i_le h70
              refine sp_52_91_sz  (by omega) (by omega) hI  (fun v10 S9 eS_S9 hp_v10 rp0_S9 => zi_n ⟨(by rw [eS_S9]; exact zG_T hI), ?_⟩)
              replace eS_S9 := eS_S9.symm; subst eS_S9
              have rp0_S9 : v10.toInt = rLe (aZ S) := rp0_S9
              have b72 := i_bd v10
              refine zd (fun h73 => ?_) (fun h73 => ?_)
              · skip
                have g74 := i_eq h73
                have hI75 : zL91 f r C Z N (ma_put S 91 5 (.inl (mI S 91 5))) := zG_sp hI (0) (92) rfl (by decide) (by decide) (by decide) trivial (by omega) (by omega)
                have b76 := i_bd l1
                exact K (l1) _ hI75 trivial (show xB (ma_put S 91 5 (.inl (mI S 91 5))) (mR (ma_put S 91 5 (.inl (mI S 91 5))) 70) from by first | (exact xB_x (xC_n (c := 91) (k := 5) (x := (mI S 91 5)) (xC_o (W := 75) hi4) ⟨by decide, Or.inl ⟨rfl, rfl⟩⟩).2)) (show aZ (ma_put S 91 5 (.inl (mI S 91 5))) = rCl ab ∧ l1 = aSv ab ∧ qRv (aZ (ma_put S 91 5 (.inl (mI S 91 5)))) from by first | (have hR := hi5.1; have hL := hi5.2; have k := hi6; rw [Of_e (by rw [← hi7]; omega)] at k; have k1 := congrArg Prod.fst k; have k2 := congrArg Prod.snd k; have hl := hL.2.2.2; have p9 : aZ S 87 9 = mI S 91 5 := rfl; have p4 := congrArg Int32.toInt (show aZ S 87 4 = mI S 91 3 from rfl); have h39 := hR.2.2.1.2.2.1; have p9i := congrArg Int32.toInt p9; have p92 : (aZ S 92 (aZ S 87 9).toNatClampNeg).toInt = (mI S 92 (mI S 91 5).toNatClampNeg).toInt := congrArg Int32.toInt (aZ_9 (Or.inl rfl)); have lz := rp0_S9; have ly := Le_y (a := aZ S) (by omega); rw [((Z_p5 (x := (mI S 91 5)) (xC_o (W := 75) hi4).2).trans (congrArg (fun q => ma_u q 87 9 (mI S 91 5)) (show aZ S = aZ S from rfl)))]; exact ⟨Cl_2 k1 k2 (by omega) (by omega) lz (by omega), hi8, Rv_9 hR (by omega) (by omega)⟩) | (have hR := hi5.1; have hL := hi5.2; have k := hi6; rw [Of_e (by rw [← hi7]; omega)] at k; have k1 := congrArg Prod.fst k; have k2 := congrArg Prod.snd k; have hl := hL.2.2.2; have p9 : aZ S 87 9 = mI S 91 5 := rfl; have p4 := congrArg Int32.toInt (show aZ S 87 4 = mI S 91 3 from rfl); have h39 := hR.2.2.1.2.2.1; have p9i := congrArg Int32.toInt p9; have p92 : (aZ S 92 (aZ S 87 9).toNatClampNeg).toInt = (mI S 92 (mI S 91 5).toNatClampNeg).toInt := congrArg Int32.toInt (aZ_9 (Or.inl rfl)); have lz := rp0_S9; rw [((Z_p5 (x := (mI S 91 5)) (xC_o (W := 75) hi4).2).trans (congrArg (fun q => ma_u q 87 9 (mI S 91 5)) (show aZ S = aZ S from rfl)))]; refine ⟨(Cl_3 (b := aZ S) (tg := mI S 91 6) k1 k2 (by omega) (by omega)).1, hi8, Rv_9 hR (by omega) (by omega)⟩) | (have hR := hi5.1; have hL := hi5.2; have k := hi6; rw [show (93 - l3.toInt).toNat = 0 from by omega] at k; have k1 := congrArg Prod.fst k; have k2 := congrArg Prod.snd k; have hl := hL.2.2.2; have p9 : aZ S 87 9 = mI S 91 5 := rfl; have p4 := congrArg Int32.toInt (show aZ S 87 4 = mI S 91 3 from rfl); have h39 := hR.2.2.1.2.2.1; have p9i := congrArg Int32.toInt p9; have p92 : (aZ S 92 (aZ S 87 9).toNatClampNeg).toInt = (mI S 92 (mI S 91 5).toNatClampNeg).toInt := congrArg Int32.toInt (aZ_9 (Or.inl rfl)); have lz := rp0_S9; have ly := Le_y (a := aZ S) (by omega); rw [((Z_p5 (x := (mI S 91 5)) (xC_o (W := 75) hi4).2).trans (congrArg (fun q => ma_u q 87 9 (mI S 91 5)) (show aZ S = aZ S from rfl)))]; exact ⟨Cl_2 k1 k2 (by omega) (by omega) lz (by omega), hi8, Rv_9 hR (by omega) (by omega)⟩) | (have hR := hi5.1; have hL := hi5.2; have k := hi6; rw [show (93 - l3.toInt).toNat = 0 from by omega] at k; have k1 := congrArg Prod.fst k; have k2 := congrArg Prod.snd k; have hl := hL.2.2.2; have p9 : aZ S 87 9 = mI S 91 5 := rfl; have p4 := congrArg Int32.toInt (show aZ S 87 4 = mI S 91 3 from rfl); have h39 := hR.2.2.1.2.2.1; have p9i := congrArg Int32.toInt p9; have p92 : (aZ S 92 (aZ S 87 9).toNatClampNeg).toInt = (mI S 92 (mI S 91 5).toNatClampNeg).toInt := congrArg Int32.toInt (aZ_9 (Or.inl rfl)); have lz := rp0_S9; rw [((Z_p5 (x := (mI S 91 5)) (xC_o (W := 75) hi4).2).trans (congrArg (fun q => ma_u q 87 9 (mI S 91 5)) (show aZ S = aZ S from rfl)))]; refine ⟨(Cl_3 (b := aZ S) (tg := mI S 91 6) k1 k2 (by omega) (by omega)).1, hi8, Rv_9 hR (by omega) (by omega)⟩) | (exfalso; have h39 := hi5.1.2.2.1.2.2.1; have h38 := hi5.1.2.2.1.2.1; have p9i := congrArg Int32.toInt (show aZ S 87 9 = mI S 91 5 from rfl); have p4 := congrArg Int32.toInt (show aZ S 87 4 = mI S 91 3 from rfl); omega))
              · skip
                have g77 := i_ne h73
                have hI78 : zL91 f r C Z N (ma_put S 91 5 (.inl v10)) := zG_sp hI (0) (92) rfl (by decide) (by decide) (by decide) trivial (by omega) (by omega)
                have b79 := i_bd l1
                exact K (l1) _ hI78 trivial (show xB (ma_put S 91 5 (.inl v10)) (mR (ma_put S 91 5 (.inl v10)) 70) from by first | (exact xB_x (xC_n (c := 91) (k := 5) (x := v10) (xC_o (W := 75) hi4) ⟨by decide, Or.inl ⟨rfl, rfl⟩⟩).2)) (show aZ (ma_put S 91 5 (.inl v10)) = rCl ab ∧ l1 = aSv ab ∧ qRv (aZ (ma_put S 91 5 (.inl v10))) from by first | (have hR := hi5.1; have hL := hi5.2; have k := hi6; rw [Of_e (by rw [← hi7]; omega)] at k; have k1 := congrArg Prod.fst k; have k2 := congrArg Prod.snd k; have hl := hL.2.2.2; have p9 : aZ S 87 9 = mI S 91 5 := rfl; have p4 := congrArg Int32.toInt (show aZ S 87 4 = mI S 91 3 from rfl); have h39 := hR.2.2.1.2.2.1; have p9i := congrArg Int32.toInt p9; have p92 : (aZ S 92 (aZ S 87 9).toNatClampNeg).toInt = (mI S 92 (mI S 91 5).toNatClampNeg).toInt := congrArg Int32.toInt (aZ_9 (Or.inl rfl)); have lz := rp0_S9; have ly := Le_y (a := aZ S) (by omega); rw [((Z_p5 (x := v10) (xC_o (W := 75) hi4).2).trans (congrArg (fun q => ma_u q 87 9 v10) (show aZ S = aZ S from rfl)))]; exact ⟨Cl_2 k1 k2 (by omega) (by omega) lz (by omega), hi8, Rv_9 hR (by omega) (by omega)⟩) | (have hR := hi5.1; have hL := hi5.2; have k := hi6; rw [Of_e (by rw [← hi7]; omega)] at k; have k1 := congrArg Prod.fst k; have k2 := congrArg Prod.snd k; have hl := hL.2.2.2; have p9 : aZ S 87 9 = mI S 91 5 := rfl; have p4 := congrArg Int32.toInt (show aZ S 87 4 = mI S 91 3 from rfl); have h39 := hR.2.2.1.2.2.1; have p9i := congrArg Int32.toInt p9; have p92 : (aZ S 92 (aZ S 87 9).toNatClampNeg).toInt = (mI S 92 (mI S 91 5).toNatClampNeg).toInt := congrArg Int32.toInt (aZ_9 (Or.inl rfl)); have lz := rp0_S9; rw [((Z_p5 (x := v10) (xC_o (W := 75) hi4).2).trans (congrArg (fun q => ma_u q 87 9 v10) (show aZ S = aZ S from rfl)))]; refine ⟨(Cl_3 (b := aZ S) (tg := mI S 91 6) k1 k2 (by omega) (by omega)).1, hi8, Rv_9 hR (by omega) (by omega)⟩) | (have hR := hi5.1; have hL := hi5.2; have k := hi6; rw [show (93 - l3.toInt).toNat = 0 from by omega] at k; have k1 := congrArg Prod.fst k; have k2 := congrArg Prod.snd k; have hl := hL.2.2.2; have p9 : aZ S 87 9 = mI S 91 5 := rfl; have p4 := congrArg Int32.toInt (show aZ S 87 4 = mI S 91 3 from rfl); have h39 := hR.2.2.1.2.2.1; have p9i := congrArg Int32.toInt p9; have p92 : (aZ S 92 (aZ S 87 9).toNatClampNeg).toInt = (mI S 92 (mI S 91 5).toNatClampNeg).toInt := congrArg Int32.toInt (aZ_9 (Or.inl rfl)); have lz := rp0_S9; have ly := Le_y (a := aZ S) (by omega); rw [((Z_p5 (x := v10) (xC_o (W := 75) hi4).2).trans (congrArg (fun q => ma_u q 87 9 v10) (show aZ S = aZ S from rfl)))]; exact ⟨Cl_2 k1 k2 (by omega) (by omega) lz (by omega), hi8, Rv_9 hR (by omega) (by omega)⟩) | (have hR := hi5.1; have hL := hi5.2; have k := hi6; rw [show (93 - l3.toInt).toNat = 0 from by omega] at k; have k1 := congrArg Prod.fst k; have k2 := congrArg Prod.snd k; have hl := hL.2.2.2; have p9 : aZ S 87 9 = mI S 91 5 := rfl; have p4 := congrArg Int32.toInt (show aZ S 87 4 = mI S 91 3 from rfl); have h39 := hR.2.2.1.2.2.1; have p9i := congrArg Int32.toInt p9; have p92 : (aZ S 92 (aZ S 87 9).toNatClampNeg).toInt = (mI S 92 (mI S 91 5).toNatClampNeg).toInt := congrArg Int32.toInt (aZ_9 (Or.inl rfl)); have lz := rp0_S9; rw [((Z_p5 (x := v10) (xC_o (W := 75) hi4).2).trans (congrArg (fun q => ma_u q 87 9 v10) (show aZ S = aZ S from rfl)))]; refine ⟨(Cl_3 (b := aZ S) (tg := mI S 91 6) k1 k2 (by omega) (by omega)).1, hi8, Rv_9 hR (by omega) (by omega)⟩) | (exfalso; have h39 := hi5.1.2.2.1.2.2.1; have h38 := hi5.1.2.2.1.2.1; have p9i := congrArg Int32.toInt (show aZ S 87 9 = mI S 91 5 from rfl); have p4 := congrArg Int32.toInt (show aZ S 87 4 = mI S 91 3 from rfl); omega))
            · skip
              have g80 := i_nle h70
              refine ⟨i_ix (by omega) (by omega), ?_⟩
              first | have f81 := zG_a hI 93 (0) (3000) (c := 92) (k := (mI S 91 5).toNatClampNeg) (by decide) (i_ix (n := 93) (by omega) (by omega)).2 | have b82 := i_bd (mI S 92 (mI S 91 5).toNatClampNeg)
              refine zd (fun h83 => ?_) (fun h83 => ?_)
              · skip
                have g84 := i_eq h83
                refine sp_52_91_sz  (by omega) (by omega) hI  (fun v12 S11 eS_S11 hp_v12 rp0_S11 => zi_n ⟨(by rw [eS_S11]; exact zG_T hI), ?_⟩)
                replace eS_S11 := eS_S11.symm; subst eS_S11
                have rp0_S11 : v12.toInt = rLe (aZ S) := rp0_S11
                have b85 := i_bd v12
                refine zd (fun h86 => ?_) (fun h86 => ?_)
                · skip
                  have g87 := i_eq h86
                  have hI88 : zL91 f r C Z N (ma_put S 91 5 (.inl (mI S 91 5))) := zG_sp hI (0) (92) rfl (by decide) (by decide) (by decide) trivial (by omega) (by omega)
                  have b89 := i_bd l1
                  exact K (l1) _ hI88 trivial (show xB (ma_put S 91 5 (.inl (mI S 91 5))) (mR (ma_put S 91 5 (.inl (mI S 91 5))) 70) from by first | (exact xB_x (xC_n (c := 91) (k := 5) (x := (mI S 91 5)) (xC_o (W := 75) hi4) ⟨by decide, Or.inl ⟨rfl, rfl⟩⟩).2)) (show aZ (ma_put S 91 5 (.inl (mI S 91 5))) = rCl ab ∧ l1 = aSv ab ∧ qRv (aZ (ma_put S 91 5 (.inl (mI S 91 5)))) from by first | (have hR := hi5.1; have hL := hi5.2; have k := hi6; rw [Of_e (by rw [← hi7]; omega)] at k; have k1 := congrArg Prod.fst k; have k2 := congrArg Prod.snd k; have hl := hL.2.2.2; have p9 : aZ S 87 9 = mI S 91 5 := rfl; have p4 := congrArg Int32.toInt (show aZ S 87 4 = mI S 91 3 from rfl); have h39 := hR.2.2.1.2.2.1; have p9i := congrArg Int32.toInt p9; have p92 : (aZ S 92 (aZ S 87 9).toNatClampNeg).toInt = (mI S 92 (mI S 91 5).toNatClampNeg).toInt := congrArg Int32.toInt (aZ_9 (Or.inl rfl)); have lz := rp0_S11; have ly := Le_y (a := aZ S) (by omega); rw [((Z_p5 (x := (mI S 91 5)) (xC_o (W := 75) hi4).2).trans (congrArg (fun q => ma_u q 87 9 (mI S 91 5)) (show aZ S = aZ S from rfl)))]; exact ⟨Cl_2 k1 k2 (by omega) (by omega) lz (by omega), hi8, Rv_9 hR (by omega) (by omega)⟩) | (have hR := hi5.1; have hL := hi5.2; have k := hi6; rw [Of_e (by rw [← hi7]; omega)] at k; have k1 := congrArg Prod.fst k; have k2 := congrArg Prod.snd k; have hl := hL.2.2.2; have p9 : aZ S 87 9 = mI S 91 5 := rfl; have p4 := congrArg Int32.toInt (show aZ S 87 4 = mI S 91 3 from rfl); have h39 := hR.2.2.1.2.2.1; have p9i := congrArg Int32.toInt p9; have p92 : (aZ S 92 (aZ S 87 9).toNatClampNeg).toInt = (mI S 92 (mI S 91 5).toNatClampNeg).toInt := congrArg Int32.toInt (aZ_9 (Or.inl rfl)); have lz := rp0_S11; rw [((Z_p5 (x := (mI S 91 5)) (xC_o (W := 75) hi4).2).trans (congrArg (fun q => ma_u q 87 9 (mI S 91 5)) (show aZ S = aZ S from rfl)))]; refine ⟨(Cl_3 (b := aZ S) (tg := mI S 91 6) k1 k2 (by omega) (by omega)).1, hi8, Rv_9 hR (by omega) (by omega)⟩) | (have hR := hi5.1; have hL := hi5.2; have k := hi6; rw [show (93 - l3.toInt).toNat = 0 from by omega] at k; have k1 := congrArg Prod.fst k; have k2 := congrArg Prod.snd k; have hl := hL.2.2.2; have p9 : aZ S 87 9 = mI S 91 5 := rfl; have p4 := congrArg Int32.toInt (show aZ S 87 4 = mI S 91 3 from rfl); have h39 := hR.2.2.1.2.2.1; have p9i := congrArg Int32.toInt p9; have p92 : (aZ S 92 (aZ S 87 9).toNatClampNeg).toInt = (mI S 92 (mI S 91 5).toNatClampNeg).toInt := congrArg Int32.toInt (aZ_9 (Or.inl rfl)); have lz := rp0_S11; have ly := Le_y (a := aZ S) (by omega); rw [((Z_p5 (x := (mI S 91 5)) (xC_o (W := 75) hi4).2).trans (congrArg (fun q => ma_u q 87 9 (mI S 91 5)) (show aZ S = aZ S from rfl)))]; exact ⟨Cl_2 k1 k2 (by omega) (by omega) lz (by omega), hi8, Rv_9 hR (by omega) (by omega)⟩) | (have hR := hi5.1; have hL := hi5.2; have k := hi6; rw [show (93 - l3.toInt).toNat = 0 from by omega] at k; have k1 := congrArg Prod.fst k; have k2 := congrArg Prod.snd k; have hl := hL.2.2.2; have p9 : aZ S 87 9 = mI S 91 5 := rfl; have p4 := congrArg Int32.toInt (show aZ S 87 4 = mI S 91 3 from rfl); have h39 := hR.2.2.1.2.2.1; have p9i := congrArg Int32.toInt p9; have p92 : (aZ S 92 (aZ S 87 9).toNatClampNeg).toInt = (mI S 92 (mI S 91 5).toNatClampNeg).toInt := congrArg Int32.toInt (aZ_9 (Or.inl rfl)); have lz := rp0_S11; rw [((Z_p5 (x := (mI S 91 5)) (xC_o (W := 75) hi4).2).trans (congrArg (fun q => ma_u q 87 9 (mI S 91 5)) (show aZ S = aZ S from rfl)))]; refine ⟨(Cl_3 (b := aZ S) (tg := mI S 91 6) k1 k2 (by omega) (by omega)).1, hi8, Rv_9 hR (by omega) (by omega)⟩) | (exfalso; have h39 := hi5.1.2.2.1.2.2.1; have h38 := hi5.1.2.2.1.2.1; have p9i := congrArg Int32.toInt (show aZ S 87 9 = mI S 91 5 from rfl); have p4 := congrArg Int32.toInt (show aZ S 87 4 = mI S 91 3 from rfl); omega))
                · skip
                  have g90 := i_ne h86
                  have hI91 : zL91 f r C Z N (ma_put S 91 5 (.inl v12)) := zG_sp hI (0) (92) rfl (by decide) (by decide) (by decide) trivial (by omega) (by omega)
                  have b92 := i_bd l1
                  exact K (l1) _ hI91 trivial (show xB (ma_put S 91 5 (.inl v12)) (mR (ma_put S 91 5 (.inl v12)) 70) from by first | (exact xB_x (xC_n (c := 91) (k := 5) (x := v12) (xC_o (W := 75) hi4) ⟨by decide, Or.inl ⟨rfl, rfl⟩⟩).2)) (show aZ (ma_put S 91 5 (.inl v12)) = rCl ab ∧ l1 = aSv ab ∧ qRv (aZ (ma_put S 91 5 (.inl v12))) from by first | (have hR := hi5.1; have hL := hi5.2; have k := hi6; rw [Of_e (by rw [← hi7]; omega)] at k; have k1 := congrArg Prod.fst k; have k2 := congrArg Prod.snd k; have hl := hL.2.2.2; have p9 : aZ S 87 9 = mI S 91 5 := rfl; have p4 := congrArg Int32.toInt (show aZ S 87 4 = mI S 91 3 from rfl); have h39 := hR.2.2.1.2.2.1; have p9i := congrArg Int32.toInt p9; have p92 : (aZ S 92 (aZ S 87 9).toNatClampNeg).toInt = (mI S 92 (mI S 91 5).toNatClampNeg).toInt := congrArg Int32.toInt (aZ_9 (Or.inl rfl)); have lz := rp0_S11; have ly := Le_y (a := aZ S) (by omega); rw [((Z_p5 (x := v12) (xC_o (W := 75) hi4).2).trans (congrArg (fun q => ma_u q 87 9 v12) (show aZ S = aZ S from rfl)))]; exact ⟨Cl_2 k1 k2 (by omega) (by omega) lz (by omega), hi8, Rv_9 hR (by omega) (by omega)⟩) | (have hR := hi5.1; have hL := hi5.2; have k := hi6; rw [Of_e (by rw [← hi7]; omega)] at k; have k1 := congrArg Prod.fst k; have k2 := congrArg Prod.snd k; have hl := hL.2.2.2; have p9 : aZ S 87 9 = mI S 91 5 := rfl; have p4 := congrArg Int32.toInt (show aZ S 87 4 = mI S 91 3 from rfl); have h39 := hR.2.2.1.2.2.1; have p9i := congrArg Int32.toInt p9; have p92 : (aZ S 92 (aZ S 87 9).toNatClampNeg).toInt = (mI S 92 (mI S 91 5).toNatClampNeg).toInt := congrArg Int32.toInt (aZ_9 (Or.inl rfl)); have lz := rp0_S11; rw [((Z_p5 (x := v12) (xC_o (W := 75) hi4).2).trans (congrArg (fun q => ma_u q 87 9 v12) (show aZ S = aZ S from rfl)))]; refine ⟨(Cl_3 (b := aZ S) (tg := mI S 91 6) k1 k2 (by omega) (by omega)).1, hi8, Rv_9 hR (by omega) (by omega)⟩) | (have hR := hi5.1; have hL := hi5.2; have k := hi6; rw [show (93 - l3.toInt).toNat = 0 from by omega] at k; have k1 := congrArg Prod.fst k; have k2 := congrArg Prod.snd k; have hl := hL.2.2.2; have p9 : aZ S 87 9 = mI S 91 5 := rfl; have p4 := congrArg Int32.toInt (show aZ S 87 4 = mI S 91 3 from rfl); have h39 := hR.2.2.1.2.2.1; have p9i := congrArg Int32.toInt p9; have p92 : (aZ S 92 (aZ S 87 9).toNatClampNeg).toInt = (mI S 92 (mI S 91 5).toNatClampNeg).toInt := congrArg Int32.toInt (aZ_9 (Or.inl rfl)); have lz := rp0_S11; have ly := Le_y (a := aZ S) (by omega); rw [((Z_p5 (x := v12) (xC_o (W := 75) hi4).2).trans (congrArg (fun q => ma_u q 87 9 v12) (show aZ S = aZ S from rfl)))]; exact ⟨Cl_2 k1 k2 (by omega) (by omega) lz (by omega), hi8, Rv_9 hR (by omega) (by omega)⟩) | (have hR := hi5.1; have hL := hi5.2; have k := hi6; rw [show (93 - l3.toInt).toNat = 0 from by omega] at k; have k1 := congrArg Prod.fst k; have k2 := congrArg Prod.snd k; have hl := hL.2.2.2; have p9 : aZ S 87 9 = mI S 91 5 := rfl; have p4 := congrArg Int32.toInt (show aZ S 87 4 = mI S 91 3 from rfl); have h39 := hR.2.2.1.2.2.1; have p9i := congrArg Int32.toInt p9; have p92 : (aZ S 92 (aZ S 87 9).toNatClampNeg).toInt = (mI S 92 (mI S 91 5).toNatClampNeg).toInt := congrArg Int32.toInt (aZ_9 (Or.inl rfl)); have lz := rp0_S11; rw [((Z_p5 (x := v12) (xC_o (W := 75) hi4).2).trans (congrArg (fun q => ma_u q 87 9 v12) (show aZ S = aZ S from rfl)))]; refine ⟨(Cl_3 (b := aZ S) (tg := mI S 91 6) k1 k2 (by omega) (by omega)).1, hi8, Rv_9 hR (by omega) (by omega)⟩) | (exfalso; have h39 := hi5.1.2.2.1.2.2.1; have h38 := hi5.1.2.2.1.2.1; have p9i := congrArg Int32.toInt (show aZ S 87 9 = mI S 91 5 from rfl); have p4 := congrArg Int32.toInt (show aZ S 87 4 = mI S 91 3 from rfl); omega))
              · skip
                have g93 := i_ne h83
                have b94 := i_bd l1
                exact K (l1) _ hI trivial (show xB S (mR S 70) from by first | (exact xB_x (xC_o (W := 75) hi4).2)) (show aZ S = rCl ab ∧ l1 = aSv ab ∧ qRv (aZ S) from by first | (have hR := hi5.1; have hL := hi5.2; have k := hi6; rw [Of_e (by rw [← hi7]; omega)] at k; have k1 := congrArg Prod.fst k; have k2 := congrArg Prod.snd k; have hl := hL.2.2.2; have p9 : aZ S 87 9 = mI S 91 5 := rfl; have p4 := congrArg Int32.toInt (show aZ S 87 4 = mI S 91 3 from rfl); have h39 := hR.2.2.1.2.2.1; have p9i := congrArg Int32.toInt p9; have p92 : (aZ S 92 (aZ S 87 9).toNatClampNeg).toInt = (mI S 92 (mI S 91 5).toNatClampNeg).toInt := congrArg Int32.toInt (aZ_9 (Or.inl rfl)); exact ⟨(Cl_3 (b := aZ S) (tg := mI S 91 6) k1 k2 (by omega) (by omega)).2, hi8, hR⟩) | (have hR := hi5.1; have hL := hi5.2; have k := hi6; rw [show (93 - l3.toInt).toNat = 0 from by omega] at k; have k1 := congrArg Prod.fst k; have k2 := congrArg Prod.snd k; have hl := hL.2.2.2; have p9 : aZ S 87 9 = mI S 91 5 := rfl; have p4 := congrArg Int32.toInt (show aZ S 87 4 = mI S 91 3 from rfl); have h39 := hR.2.2.1.2.2.1; have p9i := congrArg Int32.toInt p9; have p92 : (aZ S 92 (aZ S 87 9).toNatClampNeg).toInt = (mI S 92 (mI S 91 5).toNatClampNeg).toInt := congrArg Int32.toInt (aZ_9 (Or.inl rfl)); exact ⟨(Cl_3 (b := aZ S) (tg := mI S 91 6) k1 k2 (by omega) (by omega)).2, hi8, hR⟩) | (exfalso; have h39 := hi5.1.2.2.1.2.2.1; have h38 := hi5.1.2.2.1.2.1; have p9i := congrArg Int32.toInt (show aZ S 87 9 = mI S 91 5 from rfl); have p4 := congrArg Int32.toInt (show aZ S 87 4 = mI S 91 3 from rfl); omega))
        · skip
          have g95 := i_ne h55
          have hI96 : zL91 f r C Z N (ma_put S 91 5 (.inl (mI S 91 6))) := zG_sp hI (0) (92) rfl (by decide) (by decide) (by decide) trivial (by omega) (by omega)
          have b97 := i_bd l1
          exact K (l1) _ hI96 trivial (show xB (ma_put S 91 5 (.inl (mI S 91 6))) (mR (ma_put S 91 5 (.inl (mI S 91 6))) 70) from by first | (exact xB_x (xC_n (c := 91) (k := 5) (x := (mI S 91 6)) (xC_o (W := 75) hi4) ⟨by decide, Or.inl ⟨rfl, rfl⟩⟩).2)) (show aZ (ma_put S 91 5 (.inl (mI S 91 6))) = rCl ab ∧ l1 = aSv ab ∧ qRv (aZ (ma_put S 91 5 (.inl (mI S 91 6)))) from by first | (have hR := hi5.1; have hL := hi5.2; have k := hi6; rw [Of_e (by rw [← hi7]; omega)] at k; have k1 := congrArg Prod.fst k; have k2 := congrArg Prod.snd k; have hl := hL.2.2.2; have p9 : aZ S 87 9 = mI S 91 5 := rfl; have p4 := congrArg Int32.toInt (show aZ S 87 4 = mI S 91 3 from rfl); have h39 := hR.2.2.1.2.2.1; have p9i := congrArg Int32.toInt p9; have p92 : (aZ S 92 (aZ S 87 9).toNatClampNeg).toInt = (mI S 92 (mI S 91 5).toNatClampNeg).toInt := congrArg Int32.toInt (aZ_9 (Or.inl rfl)); rw [((Z_p5 (x := (mI S 91 6)) (xC_o (W := 75) hi4).2).trans (congrArg (fun q => ma_u q 87 9 (mI S 91 6)) (show aZ S = aZ S from rfl)))]; exact ⟨Cl_1 k1 k2 (by omega), hi8, Rv_9 hR (by omega) (by omega)⟩) | (have hR := hi5.1; have hL := hi5.2; have k := hi6; rw [show (93 - l3.toInt).toNat = 0 from by omega] at k; have k1 := congrArg Prod.fst k; have k2 := congrArg Prod.snd k; have hl := hL.2.2.2; have p9 : aZ S 87 9 = mI S 91 5 := rfl; have p4 := congrArg Int32.toInt (show aZ S 87 4 = mI S 91 3 from rfl); have h39 := hR.2.2.1.2.2.1; have p9i := congrArg Int32.toInt p9; have p92 : (aZ S 92 (aZ S 87 9).toNatClampNeg).toInt = (mI S 92 (mI S 91 5).toNatClampNeg).toInt := congrArg Int32.toInt (aZ_9 (Or.inl rfl)); rw [((Z_p5 (x := (mI S 91 6)) (xC_o (W := 75) hi4).2).trans (congrArg (fun q => ma_u q 87 9 (mI S 91 6)) (show aZ S = aZ S from rfl)))]; exact ⟨Cl_1 k1 k2 (by omega), hi8, Rv_9 hR (by omega) (by omega)⟩) | (exfalso; have h39 := hi5.1.2.2.1.2.2.1; have h38 := hi5.1.2.2.1.2.1; have p9i := congrArg Int32.toInt (show aZ S 87 9 = mI S 91 5 from rfl); have p4 := congrArg Int32.toInt (show aZ S 87 4 = mI S 91 3 from rfl); omega))
      · skip
        have g98 := i_ne h53
        refine sp_49_91_sz (ab := (aZ S)) (tg := (mI S 91 6).toInt) (l2) (by omega) (by omega) hI (by omega) (by omega) (show xB S (mR S 70) from by first | (exact xB_x (xC_o (W := 75) hi4).2)) (show aZ S = (aZ S) from by first | (exact rfl)) (show (mI S 91 6).toInt = (mI S 91 6).toInt from by first | (exact rfl)) (show qJr (aZ S) l2.toInt (l2.toInt * ((aZ S) 87 3).toInt) (mI S 91 6).toInt from by first | (exact Lv_J hi5.1 hi5.2 (by omega) (by omega) (by have q := Fw_y (a := aZ S) (by rw [← hi7]; omega); rw [← hi7] at q; exact q.2.2))) (show qLv (aZ S) (mI S 91 6).toInt from by first | (exact hi5.2)) (fun v14 S13 hI_S13 hp_v14 rp0_S13 rp1_S13 => zi_n ⟨zG_T hI_S13, ?_⟩)
        have rp0_S13 : xB S13 (mR S13 70) := rp0_S13
        have f99 := zG_s hI_S13 (-1) (92) (c := 91) (k := 6) (by decide)
        have rp1_S13 : (v14 = 1 ∧ (rM2 (aZ S) l2.toInt (mI S 91 6).toInt).2.2 = true ∧ aZ S13 = ma_u (ma_u (rM2 (aZ S) l2.toInt (mI S 91 6).toInt).1 93 l2.toInt.toNat 0) 92 l2.toInt.toNat 0 ∧ (mI S13 91 6).toInt = (rM2 (aZ S) l2.toInt (mI S 91 6).toInt).2.1 ∧ qRv (aZ S13) ∧ qLv (aZ S13) (mI S13 91 6).toInt) ∨ (v14 = 0 ∧ (rM2 (aZ S) l2.toInt (mI S 91 6).toInt).2.2 = false ∧ aZ S13 = (rM2 (aZ S) l2.toInt (mI S 91 6).toInt).1 ∧ (mI S13 91 6).toInt = (rM2 (aZ S) l2.toInt (mI S 91 6).toInt).2.1 ∧ qRv (aZ S13) ∧ qLv (aZ S13) (mI S13 91 6).toInt) := rp1_S13
        have b100 := i_bd v14
        have li101 : (0 : Int32).toInt = 0 := rfl
        refine zd (fun h102 => ?_) (fun h102 => ?_)
        · skip
          have g103 := i_eq h102
          refine zd (fun h104 => ?_) (fun h104 => ?_)
          · skip
            have g105 := i_eq h104
            have f106 := zG_s hI_S13 (0) (92) (c := 91) (k := 5) (by decide)
            refine zd (fun h107 => ?_) (fun h107 => ?_)
            · skip
              have g108 := i_lt h107
              refine sp_52_91_sz  (by omega) (by omega) hI_S13  (fun v16 S15 eS_S15 hp_v16 rp0_S15 => zi_n ⟨(by rw [eS_S15]; exact zG_T hI_S13), ?_⟩)
              replace eS_S15 := eS_S15.symm; subst eS_S15
              have rp0_S15 : v16.toInt = rLe (aZ S13) := rp0_S15
              have b109 := i_bd v16
              refine zd (fun h110 => ?_) (fun h110 => ?_)
              · skip
                have g111 := i_eq h110
                have hI112 : zL91 f r C Z N (ma_put S13 91 5 (.inl (mI S13 91 5))) := zG_sp hI_S13 (0) (92) rfl (by decide) (by decide) (by decide) trivial (by omega) (by omega)
                have b113 := i_bd l1
                exact K (l1) _ hI112 trivial (show xB (ma_put S13 91 5 (.inl (mI S13 91 5))) (mR (ma_put S13 91 5 (.inl (mI S13 91 5))) 70) from by first | (exact xB_x (xC_n (c := 91) (k := 5) (x := (mI S13 91 5)) (xC_o (W := 75) rp0_S13) ⟨by decide, Or.inl ⟨rfl, rfl⟩⟩).2)) (show aZ (ma_put S13 91 5 (.inl (mI S13 91 5))) = rCl ab ∧ l1 = aSv ab ∧ qRv (aZ (ma_put S13 91 5 (.inl (mI S13 91 5)))) from by first | (rcases rp1_S13 with w | w; (exfalso; first | exact absurd w.1 (by decide) | (have w1 := congrArg Int32.toInt w.1; have o1 : (1 : Int32).toInt = 1 := rfl; have o0 : (0 : Int32).toInt = 0 := rfl; omega)); have k := hi6; rw [show (93 - l3.toInt).toNat = (92 - l3.toInt).toNat + 1 from by omega, Of_n hi7.symm (by omega) w.2.1, ← w.2.2.1, ← w.2.2.2.1] at k; have hR := w.2.2.2.2.1; have hL := w.2.2.2.2.2; have k1 := congrArg Prod.fst k; have k2 := congrArg Prod.snd k; have hl := hL.2.2.2; have p9 : aZ S13 87 9 = mI S13 91 5 := rfl; have p4 := congrArg Int32.toInt (show aZ S13 87 4 = mI S13 91 3 from rfl); have h39 := hR.2.2.1.2.2.1; have p9i := congrArg Int32.toInt p9; have p92 : (aZ S13 92 (aZ S13 87 9).toNatClampNeg).toInt = (mI S13 92 (mI S13 91 5).toNatClampNeg).toInt := congrArg Int32.toInt (aZ_9 (Or.inl rfl)); have lz := rp0_S15; have ly := Le_y (a := aZ S13) (by omega); rw [((Z_p5 (x := (mI S13 91 5)) (xC_o (W := 75) rp0_S13).2).trans (congrArg (fun q => ma_u q 87 9 (mI S13 91 5)) (show aZ S13 = aZ S13 from rfl)))]; exact ⟨Cl_2 k1 k2 (by omega) (by omega) lz (by omega), hi8, Rv_9 hR (by omega) (by omega)⟩) | (rcases rp1_S13 with w | w; (exfalso; first | exact absurd w.1 (by decide) | (have w1 := congrArg Int32.toInt w.1; have o1 : (1 : Int32).toInt = 1 := rfl; have o0 : (0 : Int32).toInt = 0 := rfl; omega)); have k := hi6; rw [show (93 - l3.toInt).toNat = (92 - l3.toInt).toNat + 1 from by omega, Of_n hi7.symm (by omega) w.2.1, ← w.2.2.1, ← w.2.2.2.1] at k; have hR := w.2.2.2.2.1; have hL := w.2.2.2.2.2; have k1 := congrArg Prod.fst k; have k2 := congrArg Prod.snd k; have hl := hL.2.2.2; have p9 : aZ S13 87 9 = mI S13 91 5 := rfl; have p4 := congrArg Int32.toInt (show aZ S13 87 4 = mI S13 91 3 from rfl); have h39 := hR.2.2.1.2.2.1; have p9i := congrArg Int32.toInt p9; have p92 : (aZ S13 92 (aZ S13 87 9).toNatClampNeg).toInt = (mI S13 92 (mI S13 91 5).toNatClampNeg).toInt := congrArg Int32.toInt (aZ_9 (Or.inl rfl)); have lz := rp0_S15; rw [((Z_p5 (x := (mI S13 91 5)) (xC_o (W := 75) rp0_S13).2).trans (congrArg (fun q => ma_u q 87 9 (mI S13 91 5)) (show aZ S13 = aZ S13 from rfl)))]; refine ⟨(Cl_3 (b := aZ S13) (tg := mI S13 91 6) k1 k2 (by omega) (by omega)).1, hi8, Rv_9 hR (by omega) (by omega)⟩) | (exfalso; have h39 := hi5.1.2.2.1.2.2.1; have h38 := hi5.1.2.2.1.2.1; have p9i := congrArg Int32.toInt (show aZ S 87 9 = mI S 91 5 from rfl); have p4 := congrArg Int32.toInt (show aZ S 87 4 = mI S 91 3 from rfl); omega) | (rcases rp1_S13 with w | w; (exfalso; first | exact absurd w.1 (by decide) | (have w1 := congrArg Int32.toInt w.1; have o1 : (1 : Int32).toInt = 1 := rfl; have o0 : (0 : Int32).toInt = 0 := rfl; omega)); have k := hi6; rw [show (93 - l3.toInt).toNat = (92 - l3.toInt).toNat + 1 from by omega, Of_n hi7.symm (by omega) w.2.1, ← w.2.2.1, ← w.2.2.2.1] at k; have hR := w.2.2.2.2.1; have hL := w.2.2.2.2.2; have k1 := congrArg Prod.fst k; have k2 := congrArg Prod.snd k; have hl := hL.2.2.2; have p9 : aZ S13 87 9 = mI S13 91 5 := rfl; have p4 := congrArg Int32.toInt (show aZ S13 87 4 = mI S13 91 3 from rfl); have h39 := hR.2.2.1.2.2.1; have p9i := congrArg Int32.toInt p9; have p92 : (aZ S13 92 (aZ S13 87 9).toNatClampNeg).toInt = (mI S13 92 (mI S13 91 5).toNatClampNeg).toInt := congrArg Int32.toInt (aZ_9 (Or.inl rfl)); exfalso; have h38 := hR.2.2.1.2.1; omega))
              · skip
                have g114 := i_ne h110
                have hI115 : zL91 f r C Z N (ma_put S13 91 5 (.inl v16)) := zG_sp hI_S13 (0) (92) rfl (by decide) (by decide) (by decide) trivial (by omega) (by omega)
                have b116 := i_bd l1
                exact K (l1) _ hI115 trivial (show xB (ma_put S13 91 5 (.inl v16)) (mR (ma_put S13 91 5 (.inl v16)) 70) from by first | (exact xB_x (xC_n (c := 91) (k := 5) (x := v16) (xC_o (W := 75) rp0_S13) ⟨by decide, Or.inl ⟨rfl, rfl⟩⟩).2)) (show aZ (ma_put S13 91 5 (.inl v16)) = rCl ab ∧ l1 = aSv ab ∧ qRv (aZ (ma_put S13 91 5 (.inl v16))) from by first | (rcases rp1_S13 with w | w; (exfalso; first | exact absurd w.1 (by decide) | (have w1 := congrArg Int32.toInt w.1; have o1 : (1 : Int32).toInt = 1 := rfl; have o0 : (0 : Int32).toInt = 0 := rfl; omega)); have k := hi6; rw [show (93 - l3.toInt).toNat = (92 - l3.toInt).toNat + 1 from by omega, Of_n hi7.symm (by omega) w.2.1, ← w.2.2.1, ← w.2.2.2.1] at k; have hR := w.2.2.2.2.1; have hL := w.2.2.2.2.2; have k1 := congrArg Prod.fst k; have k2 := congrArg Prod.snd k; have hl := hL.2.2.2; have p9 : aZ S13 87 9 = mI S13 91 5 := rfl; have p4 := congrArg Int32.toInt (show aZ S13 87 4 = mI S13 91 3 from rfl); have h39 := hR.2.2.1.2.2.1; have p9i := congrArg Int32.toInt p9; have p92 : (aZ S13 92 (aZ S13 87 9).toNatClampNeg).toInt = (mI S13 92 (mI S13 91 5).toNatClampNeg).toInt := congrArg Int32.toInt (aZ_9 (Or.inl rfl)); have lz := rp0_S15; have ly := Le_y (a := aZ S13) (by omega); rw [((Z_p5 (x := v16) (xC_o (W := 75) rp0_S13).2).trans (congrArg (fun q => ma_u q 87 9 v16) (show aZ S13 = aZ S13 from rfl)))]; exact ⟨Cl_2 k1 k2 (by omega) (by omega) lz (by omega), hi8, Rv_9 hR (by omega) (by omega)⟩) | (rcases rp1_S13 with w | w; (exfalso; first | exact absurd w.1 (by decide) | (have w1 := congrArg Int32.toInt w.1; have o1 : (1 : Int32).toInt = 1 := rfl; have o0 : (0 : Int32).toInt = 0 := rfl; omega)); have k := hi6; rw [show (93 - l3.toInt).toNat = (92 - l3.toInt).toNat + 1 from by omega, Of_n hi7.symm (by omega) w.2.1, ← w.2.2.1, ← w.2.2.2.1] at k; have hR := w.2.2.2.2.1; have hL := w.2.2.2.2.2; have k1 := congrArg Prod.fst k; have k2 := congrArg Prod.snd k; have hl := hL.2.2.2; have p9 : aZ S13 87 9 = mI S13 91 5 := rfl; have p4 := congrArg Int32.toInt (show aZ S13 87 4 = mI S13 91 3 from rfl); have h39 := hR.2.2.1.2.2.1; have p9i := congrArg Int32.toInt p9; have p92 : (aZ S13 92 (aZ S13 87 9).toNatClampNeg).toInt = (mI S13 92 (mI S13 91 5).toNatClampNeg).toInt := congrArg Int32.toInt (aZ_9 (Or.inl rfl)); have lz := rp0_S15; rw [((Z_p5 (x := v16) (xC_o (W := 75) rp0_S13).2).trans (congrArg (fun q => ma_u q 87 9 v16) (show aZ S13 = aZ S13 from rfl)))]; refine ⟨(Cl_3 (b := aZ S13) (tg := mI S13 91 6) k1 k2 (by omega) (by omega)).1, hi8, Rv_9 hR (by omega) (by omega)⟩) | (exfalso; have h39 := hi5.1.2.2.1.2.2.1; have h38 := hi5.1.2.2.1.2.1; have p9i := congrArg Int32.toInt (show aZ S 87 9 = mI S 91 5 from rfl); have p4 := congrArg Int32.toInt (show aZ S 87 4 = mI S 91 3 from rfl); omega) | (rcases rp1_S13 with w | w; (exfalso; first | exact absurd w.1 (by decide) | (have w1 := congrArg Int32.toInt w.1; have o1 : (1 : Int32).toInt = 1 := rfl; have o0 : (0 : Int32).toInt = 0 := rfl; omega)); have k := hi6; rw [show (93 - l3.toInt).toNat = (92 - l3.toInt).toNat + 1 from by omega, Of_n hi7.symm (by omega) w.2.1, ← w.2.2.1, ← w.2.2.2.1] at k; have hR := w.2.2.2.2.1; have hL := w.2.2.2.2.2; have k1 := congrArg Prod.fst k; have k2 := congrArg Prod.snd k; have hl := hL.2.2.2; have p9 : aZ S13 87 9 = mI S13 91 5 := rfl; have p4 := congrArg Int32.toInt (show aZ S13 87 4 = mI S13 91 3 from rfl); have h39 := hR.2.2.1.2.2.1; have p9i := congrArg Int32.toInt p9; have p92 : (aZ S13 92 (aZ S13 87 9).toNatClampNeg).toInt = (mI S13 92 (mI S13 91 5).toNatClampNeg).toInt := congrArg Int32.toInt (aZ_9 (Or.inl rfl)); exfalso; have h38 := hR.2.2.1.2.1; omega))
            · skip
              have g117 := i_nlt h107
              refine zd (fun h118 => ?_) (fun h118 => ?_)
              · skip
                have g119 := i_le h118
                refine sp_52_91_sz  (by omega) (by omega) hI_S13  (fun v18 S17 eS_S17 hp_v18 rp0_S17 => zi_n ⟨(by rw [eS_S17]; exact zG_T hI_S13), ?_⟩)
                replace eS_S17 := eS_S17.symm; subst eS_S17
                have rp0_S17 : v18.toInt = rLe (aZ S13) := rp0_S17
                have b120 := i_bd v18
                refine zd (fun h121 => ?_) (fun h121 => ?_)
                · skip
                  have g122 := i_eq h121
                  have hI123 : zL91 f r C Z N (ma_put S13 91 5 (.inl (mI S13 91 5))) := zG_sp hI_S13 (0) (92) rfl (by decide) (by decide) (by decide) trivial (by omega) (by omega)
                  have b124 := i_bd l1
                  exact K (l1) _ hI123 trivial (show xB (ma_put S13 91 5 (.inl (mI S13 91 5))) (mR (ma_put S13 91 5 (.inl (mI S13 91 5))) 70) from by first | (exact xB_x (xC_n (c := 91) (k := 5) (x := (mI S13 91 5)) (xC_o (W := 75) rp0_S13) ⟨by decide, Or.inl ⟨rfl, rfl⟩⟩).2)) (show aZ (ma_put S13 91 5 (.inl (mI S13 91 5))) = rCl ab ∧ l1 = aSv ab ∧ qRv (aZ (ma_put S13 91 5 (.inl (mI S13 91 5)))) from by first | (rcases rp1_S13 with w | w; (exfalso; first | exact absurd w.1 (by decide) | (have w1 := congrArg Int32.toInt w.1; have o1 : (1 : Int32).toInt = 1 := rfl; have o0 : (0 : Int32).toInt = 0 := rfl; omega)); have k := hi6; rw [show (93 - l3.toInt).toNat = (92 - l3.toInt).toNat + 1 from by omega, Of_n hi7.symm (by omega) w.2.1, ← w.2.2.1, ← w.2.2.2.1] at k; have hR := w.2.2.2.2.1; have hL := w.2.2.2.2.2; have k1 := congrArg Prod.fst k; have k2 := congrArg Prod.snd k; have hl := hL.2.2.2; have p9 : aZ S13 87 9 = mI S13 91 5 := rfl; have p4 := congrArg Int32.toInt (show aZ S13 87 4 = mI S13 91 3 from rfl); have h39 := hR.2.2.1.2.2.1; have p9i := congrArg Int32.toInt p9; have p92 : (aZ S13 92 (aZ S13 87 9).toNatClampNeg).toInt = (mI S13 92 (mI S13 91 5).toNatClampNeg).toInt := congrArg Int32.toInt (aZ_9 (Or.inl rfl)); have lz := rp0_S17; have ly := Le_y (a := aZ S13) (by omega); rw [((Z_p5 (x := (mI S13 91 5)) (xC_o (W := 75) rp0_S13).2).trans (congrArg (fun q => ma_u q 87 9 (mI S13 91 5)) (show aZ S13 = aZ S13 from rfl)))]; exact ⟨Cl_2 k1 k2 (by omega) (by omega) lz (by omega), hi8, Rv_9 hR (by omega) (by omega)⟩) | (rcases rp1_S13 with w | w; (exfalso; first | exact absurd w.1 (by decide) | (have w1 := congrArg Int32.toInt w.1; have o1 : (1 : Int32).toInt = 1 := rfl; have o0 : (0 : Int32).toInt = 0 := rfl; omega)); have k := hi6; rw [show (93 - l3.toInt).toNat = (92 - l3.toInt).toNat + 1 from by omega, Of_n hi7.symm (by omega) w.2.1, ← w.2.2.1, ← w.2.2.2.1] at k; have hR := w.2.2.2.2.1; have hL := w.2.2.2.2.2; have k1 := congrArg Prod.fst k; have k2 := congrArg Prod.snd k; have hl := hL.2.2.2; have p9 : aZ S13 87 9 = mI S13 91 5 := rfl; have p4 := congrArg Int32.toInt (show aZ S13 87 4 = mI S13 91 3 from rfl); have h39 := hR.2.2.1.2.2.1; have p9i := congrArg Int32.toInt p9; have p92 : (aZ S13 92 (aZ S13 87 9).toNatClampNeg).toInt = (mI S13 92 (mI S13 91 5).toNatClampNeg).toInt := congrArg Int32.toInt (aZ_9 (Or.inl rfl)); have lz := rp0_S17; rw [((Z_p5 (x := (mI S13 91 5)) (xC_o (W := 75) rp0_S13).2).trans (congrArg (fun q => ma_u q 87 9 (mI S13 91 5)) (show aZ S13 = aZ S13 from rfl)))]; refine ⟨(Cl_3 (b := aZ S13) (tg := mI S13 91 6) k1 k2 (by omega) (by omega)).1, hi8, Rv_9 hR (by omega) (by omega)⟩) | (exfalso; have h39 := hi5.1.2.2.1.2.2.1; have h38 := hi5.1.2.2.1.2.1; have p9i := congrArg Int32.toInt (show aZ S 87 9 = mI S 91 5 from rfl); have p4 := congrArg Int32.toInt (show aZ S 87 4 = mI S 91 3 from rfl); omega) | (rcases rp1_S13 with w | w; (exfalso; first | exact absurd w.1 (by decide) | (have w1 := congrArg Int32.toInt w.1; have o1 : (1 : Int32).toInt = 1 := rfl; have o0 : (0 : Int32).toInt = 0 := rfl; omega)); have k := hi6; rw [show (93 - l3.toInt).toNat = (92 - l3.toInt).toNat + 1 from by omega, Of_n hi7.symm (by omega) w.2.1, ← w.2.2.1, ← w.2.2.2.1] at k; have hR := w.2.2.2.2.1; have hL := w.2.2.2.2.2; have k1 := congrArg Prod.fst k; have k2 := congrArg Prod.snd k; have hl := hL.2.2.2; have p9 : aZ S13 87 9 = mI S13 91 5 := rfl; have p4 := congrArg Int32.toInt (show aZ S13 87 4 = mI S13 91 3 from rfl); have h39 := hR.2.2.1.2.2.1; have p9i := congrArg Int32.toInt p9; have p92 : (aZ S13 92 (aZ S13 87 9).toNatClampNeg).toInt = (mI S13 92 (mI S13 91 5).toNatClampNeg).toInt := congrArg Int32.toInt (aZ_9 (Or.inl rfl)); exfalso; have h38 := hR.2.2.1.2.1; omega))
                · skip
                  have g125 := i_ne h121
                  have hI126 : zL91 f r C Z N (ma_put S13 91 5 (.inl v18)) := zG_sp hI_S13 (0) (92) rfl (by decide) (by decide) (by decide) trivial (by omega) (by omega)
                  have b127 := i_bd l1
                  exact K (l1) _ hI126 trivial (show xB (ma_put S13 91 5 (.inl v18)) (mR (ma_put S13 91 5 (.inl v18)) 70) from by first | (exact xB_x (xC_n (c := 91) (k := 5) (x := v18) (xC_o (W := 75) rp0_S13) ⟨by decide, Or.inl ⟨rfl, rfl⟩⟩).2)) (show aZ (ma_put S13 91 5 (.inl v18)) = rCl ab ∧ l1 = aSv ab ∧ qRv (aZ (ma_put S13 91 5 (.inl v18))) from by first | (rcases rp1_S13 with w | w; (exfalso; first | exact absurd w.1 (by decide) | (have w1 := congrArg Int32.toInt w.1; have o1 : (1 : Int32).toInt = 1 := rfl; have o0 : (0 : Int32).toInt = 0 := rfl; omega)); have k := hi6; rw [show (93 - l3.toInt).toNat = (92 - l3.toInt).toNat + 1 from by omega, Of_n hi7.symm (by omega) w.2.1, ← w.2.2.1, ← w.2.2.2.1] at k; have hR := w.2.2.2.2.1; have hL := w.2.2.2.2.2; have k1 := congrArg Prod.fst k; have k2 := congrArg Prod.snd k; have hl := hL.2.2.2; have p9 : aZ S13 87 9 = mI S13 91 5 := rfl; have p4 := congrArg Int32.toInt (show aZ S13 87 4 = mI S13 91 3 from rfl); have h39 := hR.2.2.1.2.2.1; have p9i := congrArg Int32.toInt p9; have p92 : (aZ S13 92 (aZ S13 87 9).toNatClampNeg).toInt = (mI S13 92 (mI S13 91 5).toNatClampNeg).toInt := congrArg Int32.toInt (aZ_9 (Or.inl rfl)); have lz := rp0_S17; have ly := Le_y (a := aZ S13) (by omega); rw [((Z_p5 (x := v18) (xC_o (W := 75) rp0_S13).2).trans (congrArg (fun q => ma_u q 87 9 v18) (show aZ S13 = aZ S13 from rfl)))]; exact ⟨Cl_2 k1 k2 (by omega) (by omega) lz (by omega), hi8, Rv_9 hR (by omega) (by omega)⟩) | (rcases rp1_S13 with w | w; (exfalso; first | exact absurd w.1 (by decide) | (have w1 := congrArg Int32.toInt w.1; have o1 : (1 : Int32).toInt = 1 := rfl; have o0 : (0 : Int32).toInt = 0 := rfl; omega)); have k := hi6; rw [show (93 - l3.toInt).toNat = (92 - l3.toInt).toNat + 1 from by omega, Of_n hi7.symm (by omega) w.2.1, ← w.2.2.1, ← w.2.2.2.1] at k; have hR := w.2.2.2.2.1; have hL := w.2.2.2.2.2; have k1 := congrArg Prod.fst k; have k2 := congrArg Prod.snd k; have hl := hL.2.2.2; have p9 : aZ S13 87 9 = mI S13 91 5 := rfl; have p4 := congrArg Int32.toInt (show aZ S13 87 4 = mI S13 91 3 from rfl); have h39 := hR.2.2.1.2.2.1; have p9i := congrArg Int32.toInt p9; have p92 : (aZ S13 92 (aZ S13 87 9).toNatClampNeg).toInt = (mI S13 92 (mI S13 91 5).toNatClampNeg).toInt := congrArg Int32.toInt (aZ_9 (Or.inl rfl)); have lz := rp0_S17; rw [((Z_p5 (x := v18) (xC_o (W := 75) rp0_S13).2).trans (congrArg (fun q => ma_u q 87 9 v18) (show aZ S13 = aZ S13 from rfl)))]; refine ⟨(Cl_3 (b := aZ S13) (tg := mI S13 91 6) k1 k2 (by omega) (by omega)).1, hi8, Rv_9 hR (by omega) (by omega)⟩) | (exfalso; have h39 := hi5.1.2.2.1.2.2.1; have h38 := hi5.1.2.2.1.2.1; have p9i := congrArg Int32.toInt (show aZ S 87 9 = mI S 91 5 from rfl); have p4 := congrArg Int32.toInt (show aZ S 87 4 = mI S 91 3 from rfl); omega) | (rcases rp1_S13 with w | w; (exfalso; first | exact absurd w.1 (by decide) | (have w1 := congrArg Int32.toInt w.1; have o1 : (1 : Int32).toInt = 1 := rfl; have o0 : (0 : Int32).toInt = 0 := rfl; omega)); have k := hi6; rw [show (93 - l3.toInt).toNat = (92 - l3.toInt).toNat + 1 from by omega, Of_n hi7.symm (by omega) w.2.1, ← w.2.2.1, ← w.2.2.2.1] at k; have hR := w.2.2.2.2.1; have hL := w.2.2.2.2.2; have k1 := congrArg Prod.fst k; have k2 := congrArg Prod.snd k; have hl := hL.2.2.2; have p9 : aZ S13 87 9 = mI S13 91 5 := rfl; have p4 := congrArg Int32.toInt (show aZ S13 87 4 = mI S13 91 3 from rfl); have h39 := hR.2.2.1.2.2.1; have p9i := congrArg Int32.toInt p9; have p92 : (aZ S13 92 (aZ S13 87 9).toNatClampNeg).toInt = (mI S13 92 (mI S13 91 5).toNatClampNeg).toInt := congrArg Int32.toInt (aZ_9 (Or.inl rfl)); exfalso; have h38 := hR.2.2.1.2.1; omega))
              · skip
                have g128 := i_nle h118
                refine ⟨i_ix (by omega) (by omega), ?_⟩
                first | have f129 := zG_a hI_S13 93 (0) (3000) (c := 92) (k := (mI S13 91 5).toNatClampNeg) (by decide) (i_ix (n := 93) (by omega) (by omega)).2 | have b130 := i_bd (mI S13 92 (mI S13 91 5).toNatClampNeg)
                refine zd (fun h131 => ?_) (fun h131 => ?_)
                · skip
                  have g132 := i_eq h131
                  refine sp_52_91_sz  (by omega) (by omega) hI_S13  (fun v20 S19 eS_S19 hp_v20 rp0_S19 => zi_n ⟨(by rw [eS_S19]; exact zG_T hI_S13), ?_⟩)
                  replace eS_S19 := eS_S19.symm; subst eS_S19
                  have rp0_S19 : v20.toInt = rLe (aZ S13) := rp0_S19
                  have b133 := i_bd v20
                  refine zd (fun h134 => ?_) (fun h134 => ?_)
                  · skip
                    have g135 := i_eq h134
                    have hI136 : zL91 f r C Z N (ma_put S13 91 5 (.inl (mI S13 91 5))) := zG_sp hI_S13 (0) (92) rfl (by decide) (by decide) (by decide) trivial (by omega) (by omega)
                    have b137 := i_bd l1
                    exact K (l1) _ hI136 trivial (show xB (ma_put S13 91 5 (.inl (mI S13 91 5))) (mR (ma_put S13 91 5 (.inl (mI S13 91 5))) 70) from by first | (exact xB_x (xC_n (c := 91) (k := 5) (x := (mI S13 91 5)) (xC_o (W := 75) rp0_S13) ⟨by decide, Or.inl ⟨rfl, rfl⟩⟩).2)) (show aZ (ma_put S13 91 5 (.inl (mI S13 91 5))) = rCl ab ∧ l1 = aSv ab ∧ qRv (aZ (ma_put S13 91 5 (.inl (mI S13 91 5)))) from by first | (rcases rp1_S13 with w | w; (exfalso; first | exact absurd w.1 (by decide) | (have w1 := congrArg Int32.toInt w.1; have o1 : (1 : Int32).toInt = 1 := rfl; have o0 : (0 : Int32).toInt = 0 := rfl; omega)); have k := hi6; rw [show (93 - l3.toInt).toNat = (92 - l3.toInt).toNat + 1 from by omega, Of_n hi7.symm (by omega) w.2.1, ← w.2.2.1, ← w.2.2.2.1] at k; have hR := w.2.2.2.2.1; have hL := w.2.2.2.2.2; have k1 := congrArg Prod.fst k; have k2 := congrArg Prod.snd k; have hl := hL.2.2.2; have p9 : aZ S13 87 9 = mI S13 91 5 := rfl; have p4 := congrArg Int32.toInt (show aZ S13 87 4 = mI S13 91 3 from rfl); have h39 := hR.2.2.1.2.2.1; have p9i := congrArg Int32.toInt p9; have p92 : (aZ S13 92 (aZ S13 87 9).toNatClampNeg).toInt = (mI S13 92 (mI S13 91 5).toNatClampNeg).toInt := congrArg Int32.toInt (aZ_9 (Or.inl rfl)); have lz := rp0_S19; have ly := Le_y (a := aZ S13) (by omega); rw [((Z_p5 (x := (mI S13 91 5)) (xC_o (W := 75) rp0_S13).2).trans (congrArg (fun q => ma_u q 87 9 (mI S13 91 5)) (show aZ S13 = aZ S13 from rfl)))]; exact ⟨Cl_2 k1 k2 (by omega) (by omega) lz (by omega), hi8, Rv_9 hR (by omega) (by omega)⟩) | (rcases rp1_S13 with w | w; (exfalso; first | exact absurd w.1 (by decide) | (have w1 := congrArg Int32.toInt w.1; have o1 : (1 : Int32).toInt = 1 := rfl; have o0 : (0 : Int32).toInt = 0 := rfl; omega)); have k := hi6; rw [show (93 - l3.toInt).toNat = (92 - l3.toInt).toNat + 1 from by omega, Of_n hi7.symm (by omega) w.2.1, ← w.2.2.1, ← w.2.2.2.1] at k; have hR := w.2.2.2.2.1; have hL := w.2.2.2.2.2; have k1 := congrArg Prod.fst k; have k2 := congrArg Prod.snd k; have hl := hL.2.2.2; have p9 : aZ S13 87 9 = mI S13 91 5 := rfl; have p4 := congrArg Int32.toInt (show aZ S13 87 4 = mI S13 91 3 from rfl); have h39 := hR.2.2.1.2.2.1; have p9i := congrArg Int32.toInt p9; have p92 : (aZ S13 92 (aZ S13 87 9).toNatClampNeg).toInt = (mI S13 92 (mI S13 91 5).toNatClampNeg).toInt := congrArg Int32.toInt (aZ_9 (Or.inl rfl)); have lz := rp0_S19; rw [((Z_p5 (x := (mI S13 91 5)) (xC_o (W := 75) rp0_S13).2).trans (congrArg (fun q => ma_u q 87 9 (mI S13 91 5)) (show aZ S13 = aZ S13 from rfl)))]; refine ⟨(Cl_3 (b := aZ S13) (tg := mI S13 91 6) k1 k2 (by omega) (by omega)).1, hi8, Rv_9 hR (by omega) (by omega)⟩) | (exfalso; have h39 := hi5.1.2.2.1.2.2.1; have h38 := hi5.1.2.2.1.2.1; have p9i := congrArg Int32.toInt (show aZ S 87 9 = mI S 91 5 from rfl); have p4 := congrArg Int32.toInt (show aZ S 87 4 = mI S 91 3 from rfl); omega) | (rcases rp1_S13 with w | w; (exfalso; first | exact absurd w.1 (by decide) | (have w1 := congrArg Int32.toInt w.1; have o1 : (1 : Int32).toInt = 1 := rfl; have o0 : (0 : Int32).toInt = 0 := rfl; omega)); have k := hi6; rw [show (93 - l3.toInt).toNat = (92 - l3.toInt).toNat + 1 from by omega, Of_n hi7.symm (by omega) w.2.1, ← w.2.2.1, ← w.2.2.2.1] at k; have hR := w.2.2.2.2.1; have hL := w.2.2.2.2.2; have k1 := congrArg Prod.fst k; have k2 := congrArg Prod.snd k; have hl := hL.2.2.2; have p9 : aZ S13 87 9 = mI S13 91 5 := rfl; have p4 := congrArg Int32.toInt (show aZ S13 87 4 = mI S13 91 3 from rfl); have h39 := hR.2.2.1.2.2.1; have p9i := congrArg Int32.toInt p9; have p92 : (aZ S13 92 (aZ S13 87 9).toNatClampNeg).toInt = (mI S13 92 (mI S13 91 5).toNatClampNeg).toInt := congrArg Int32.toInt (aZ_9 (Or.inl rfl)); exfalso; have h38 := hR.2.2.1.2.1; omega))
                  · skip
                    have g138 := i_ne h134
                    have hI139 : zL91 f r C Z N (ma_put S13 91 5 (.inl v20)) := zG_sp hI_S13 (0) (92) rfl (by decide) (by decide) (by decide) trivial (by omega) (by omega)
                    have b140 := i_bd l1
                    exact K (l1) _ hI139 trivial (show xB (ma_put S13 91 5 (.inl v20)) (mR (ma_put S13 91 5 (.inl v20)) 70) from by first | (exact xB_x (xC_n (c := 91) (k := 5) (x := v20) (xC_o (W := 75) rp0_S13) ⟨by decide, Or.inl ⟨rfl, rfl⟩⟩).2)) (show aZ (ma_put S13 91 5 (.inl v20)) = rCl ab ∧ l1 = aSv ab ∧ qRv (aZ (ma_put S13 91 5 (.inl v20))) from by first | (rcases rp1_S13 with w | w; (exfalso; first | exact absurd w.1 (by decide) | (have w1 := congrArg Int32.toInt w.1; have o1 : (1 : Int32).toInt = 1 := rfl; have o0 : (0 : Int32).toInt = 0 := rfl; omega)); have k := hi6; rw [show (93 - l3.toInt).toNat = (92 - l3.toInt).toNat + 1 from by omega, Of_n hi7.symm (by omega) w.2.1, ← w.2.2.1, ← w.2.2.2.1] at k; have hR := w.2.2.2.2.1; have hL := w.2.2.2.2.2; have k1 := congrArg Prod.fst k; have k2 := congrArg Prod.snd k; have hl := hL.2.2.2; have p9 : aZ S13 87 9 = mI S13 91 5 := rfl; have p4 := congrArg Int32.toInt (show aZ S13 87 4 = mI S13 91 3 from rfl); have h39 := hR.2.2.1.2.2.1; have p9i := congrArg Int32.toInt p9; have p92 : (aZ S13 92 (aZ S13 87 9).toNatClampNeg).toInt = (mI S13 92 (mI S13 91 5).toNatClampNeg).toInt := congrArg Int32.toInt (aZ_9 (Or.inl rfl)); have lz := rp0_S19; have ly := Le_y (a := aZ S13) (by omega); rw [((Z_p5 (x := v20) (xC_o (W := 75) rp0_S13).2).trans (congrArg (fun q => ma_u q 87 9 v20) (show aZ S13 = aZ S13 from rfl)))]; exact ⟨Cl_2 k1 k2 (by omega) (by omega) lz (by omega), hi8, Rv_9 hR (by omega) (by omega)⟩) | (rcases rp1_S13 with w | w; (exfalso; first | exact absurd w.1 (by decide) | (have w1 := congrArg Int32.toInt w.1; have o1 : (1 : Int32).toInt = 1 := rfl; have o0 : (0 : Int32).toInt = 0 := rfl; omega)); have k := hi6; rw [show (93 - l3.toInt).toNat = (92 - l3.toInt).toNat + 1 from by omega, Of_n hi7.symm (by omega) w.2.1, ← w.2.2.1, ← w.2.2.2.1] at k; have hR := w.2.2.2.2.1; have hL := w.2.2.2.2.2; have k1 := congrArg Prod.fst k; have k2 := congrArg Prod.snd k; have hl := hL.2.2.2; have p9 : aZ S13 87 9 = mI S13 91 5 := rfl; have p4 := congrArg Int32.toInt (show aZ S13 87 4 = mI S13 91 3 from rfl); have h39 := hR.2.2.1.2.2.1; have p9i := congrArg Int32.toInt p9; have p92 : (aZ S13 92 (aZ S13 87 9).toNatClampNeg).toInt = (mI S13 92 (mI S13 91 5).toNatClampNeg).toInt := congrArg Int32.toInt (aZ_9 (Or.inl rfl)); have lz := rp0_S19; rw [((Z_p5 (x := v20) (xC_o (W := 75) rp0_S13).2).trans (congrArg (fun q => ma_u q 87 9 v20) (show aZ S13 = aZ S13 from rfl)))]; refine ⟨(Cl_3 (b := aZ S13) (tg := mI S13 91 6) k1 k2 (by omega) (by omega)).1, hi8, Rv_9 hR (by omega) (by omega)⟩) | (exfalso; have h39 := hi5.1.2.2.1.2.2.1; have h38 := hi5.1.2.2.1.2.1; have p9i := congrArg Int32.toInt (show aZ S 87 9 = mI S 91 5 from rfl); have p4 := congrArg Int32.toInt (show aZ S 87 4 = mI S 91 3 from rfl); omega) | (rcases rp1_S13 with w | w; (exfalso; first | exact absurd w.1 (by decide) | (have w1 := congrArg Int32.toInt w.1; have o1 : (1 : Int32).toInt = 1 := rfl; have o0 : (0 : Int32).toInt = 0 := rfl; omega)); have k := hi6; rw [show (93 - l3.toInt).toNat = (92 - l3.toInt).toNat + 1 from by omega, Of_n hi7.symm (by omega) w.2.1, ← w.2.2.1, ← w.2.2.2.1] at k; have hR := w.2.2.2.2.1; have hL := w.2.2.2.2.2; have k1 := congrArg Prod.fst k; have k2 := congrArg Prod.snd k; have hl := hL.2.2.2; have p9 : aZ S13 87 9 = mI S13 91 5 := rfl; have p4 := congrArg Int32.toInt (show aZ S13 87 4 = mI S13 91 3 from rfl); have h39 := hR.2.2.1.2.2.1; have p9i := congrArg Int32.toInt p9; have p92 : (aZ S13 92 (aZ S13 87 9).toNatClampNeg).toInt = (mI S13 92 (mI S13 91 5).toNatClampNeg).toInt := congrArg Int32.toInt (aZ_9 (Or.inl rfl)); exfalso; have h38 := hR.2.2.1.2.1; omega))
                · skip
                  have g141 := i_ne h131
                  have b142 := i_bd l1
                  exact K (l1) _ hI_S13 trivial (show xB S13 (mR S13 70) from by first | (exact xB_x (xC_o (W := 75) rp0_S13).2)) (show aZ S13 = rCl ab ∧ l1 = aSv ab ∧ qRv (aZ S13) from by first | (rcases rp1_S13 with w | w; (exfalso; first | exact absurd w.1 (by decide) | (have w1 := congrArg Int32.toInt w.1; have o1 : (1 : Int32).toInt = 1 := rfl; have o0 : (0 : Int32).toInt = 0 := rfl; omega)); have k := hi6; rw [show (93 - l3.toInt).toNat = (92 - l3.toInt).toNat + 1 from by omega, Of_n hi7.symm (by omega) w.2.1, ← w.2.2.1, ← w.2.2.2.1] at k; have hR := w.2.2.2.2.1; have hL := w.2.2.2.2.2; have k1 := congrArg Prod.fst k; have k2 := congrArg Prod.snd k; have hl := hL.2.2.2; have p9 : aZ S13 87 9 = mI S13 91 5 := rfl; have p4 := congrArg Int32.toInt (show aZ S13 87 4 = mI S13 91 3 from rfl); have h39 := hR.2.2.1.2.2.1; have p9i := congrArg Int32.toInt p9; have p92 : (aZ S13 92 (aZ S13 87 9).toNatClampNeg).toInt = (mI S13 92 (mI S13 91 5).toNatClampNeg).toInt := congrArg Int32.toInt (aZ_9 (Or.inl rfl)); exact ⟨(Cl_3 (b := aZ S13) (tg := mI S13 91 6) k1 k2 (by omega) (by omega)).2, hi8, hR⟩) | (exfalso; have h39 := hi5.1.2.2.1.2.2.1; have h38 := hi5.1.2.2.1.2.1; have p9i := congrArg Int32.toInt (show aZ S 87 9 = mI S 91 5 from rfl); have p4 := congrArg Int32.toInt (show aZ S 87 4 = mI S 91 3 from rfl); omega) | (rcases rp1_S13 with w | w; (exfalso; first | exact absurd w.1 (by decide) | (have w1 := congrArg Int32.toInt w.1; have o1 : (1 : Int32).toInt = 1 := rfl; have o0 : (0 : Int32).toInt = 0 := rfl; omega)); have k := hi6; rw [show (93 - l3.toInt).toNat = (92 - l3.toInt).toNat + 1 from by omega, Of_n hi7.symm (by omega) w.2.1, ← w.2.2.1, ← w.2.2.2.1] at k; have hR := w.2.2.2.2.1; have hL := w.2.2.2.2.2; have k1 := congrArg Prod.fst k; have k2 := congrArg Prod.snd k; have hl := hL.2.2.2; have p9 : aZ S13 87 9 = mI S13 91 5 := rfl; have p4 := congrArg Int32.toInt (show aZ S13 87 4 = mI S13 91 3 from rfl); have h39 := hR.2.2.1.2.2.1; have p9i := congrArg Int32.toInt p9; have p92 : (aZ S13 92 (aZ S13 87 9).toNatClampNeg).toInt = (mI S13 92 (mI S13 91 5).toNatClampNeg).toInt := congrArg Int32.toInt (aZ_9 (Or.inl rfl)); exfalso; have h38 := hR.2.2.1.2.1; omega))
          · skip
            have g143 := i_ne h104
            have hI144 : zL91 f r C Z N (ma_put S13 91 5 (.inl (mI S13 91 6))) := zG_sp hI_S13 (0) (92) rfl (by decide) (by decide) (by decide) trivial (by omega) (by omega)
            have b145 := i_bd l1
            exact K (l1) _ hI144 trivial (show xB (ma_put S13 91 5 (.inl (mI S13 91 6))) (mR (ma_put S13 91 5 (.inl (mI S13 91 6))) 70) from by first | (exact xB_x (xC_n (c := 91) (k := 5) (x := (mI S13 91 6)) (xC_o (W := 75) rp0_S13) ⟨by decide, Or.inl ⟨rfl, rfl⟩⟩).2)) (show aZ (ma_put S13 91 5 (.inl (mI S13 91 6))) = rCl ab ∧ l1 = aSv ab ∧ qRv (aZ (ma_put S13 91 5 (.inl (mI S13 91 6)))) from by first | (rcases rp1_S13 with w | w; (exfalso; first | exact absurd w.1 (by decide) | (have w1 := congrArg Int32.toInt w.1; have o1 : (1 : Int32).toInt = 1 := rfl; have o0 : (0 : Int32).toInt = 0 := rfl; omega)); have k := hi6; rw [show (93 - l3.toInt).toNat = (92 - l3.toInt).toNat + 1 from by omega, Of_n hi7.symm (by omega) w.2.1, ← w.2.2.1, ← w.2.2.2.1] at k; have hR := w.2.2.2.2.1; have hL := w.2.2.2.2.2; have k1 := congrArg Prod.fst k; have k2 := congrArg Prod.snd k; have hl := hL.2.2.2; have p9 : aZ S13 87 9 = mI S13 91 5 := rfl; have p4 := congrArg Int32.toInt (show aZ S13 87 4 = mI S13 91 3 from rfl); have h39 := hR.2.2.1.2.2.1; have p9i := congrArg Int32.toInt p9; have p92 : (aZ S13 92 (aZ S13 87 9).toNatClampNeg).toInt = (mI S13 92 (mI S13 91 5).toNatClampNeg).toInt := congrArg Int32.toInt (aZ_9 (Or.inl rfl)); rw [((Z_p5 (x := (mI S13 91 6)) (xC_o (W := 75) rp0_S13).2).trans (congrArg (fun q => ma_u q 87 9 (mI S13 91 6)) (show aZ S13 = aZ S13 from rfl)))]; exact ⟨Cl_1 k1 k2 (by omega), hi8, Rv_9 hR (by omega) (by omega)⟩) | (exfalso; have h39 := hi5.1.2.2.1.2.2.1; have h38 := hi5.1.2.2.1.2.1; have p9i := congrArg Int32.toInt (show aZ S 87 9 = mI S 91 5 from rfl); have p4 := congrArg Int32.toInt (show aZ S 87 4 = mI S 91 3 from rfl); omega) | (rcases rp1_S13 with w | w; (exfalso; first | exact absurd w.1 (by decide) | (have w1 := congrArg Int32.toInt w.1; have o1 : (1 : Int32).toInt = 1 := rfl; have o0 : (0 : Int32).toInt = 0 := rfl; omega)); have k := hi6; rw [show (93 - l3.toInt).toNat = (92 - l3.toInt).toNat + 1 from by omega, Of_n hi7.symm (by omega) w.2.1, ← w.2.2.1, ← w.2.2.2.1] at k; have hR := w.2.2.2.2.1; have hL := w.2.2.2.2.2; have k1 := congrArg Prod.fst k; have k2 := congrArg Prod.snd k; have hl := hL.2.2.2; have p9 : aZ S13 87 9 = mI S13 91 5 := rfl; have p4 := congrArg Int32.toInt (show aZ S13 87 4 = mI S13 91 3 from rfl); have h39 := hR.2.2.1.2.2.1; have p9i := congrArg Int32.toInt p9; have p92 : (aZ S13 92 (aZ S13 87 9).toNatClampNeg).toInt = (mI S13 92 (mI S13 91 5).toNatClampNeg).toInt := congrArg Int32.toInt (aZ_9 (Or.inl rfl)); exfalso; have h38 := hR.2.2.1.2.1; omega))
        · skip
          have g146 := i_ne h102
          refine sp_48_91_sz  (by omega) (by omega) hI_S13  (fun v22 S21 eS_S21 hp_v22 rp0_S21 => zi_n ⟨(by rw [eS_S21]; exact zG_T hI_S13), ?_⟩)
          replace eS_S21 := eS_S21.symm; subst eS_S21
          have rp0_S21 : v22.toInt = rFw (aZ S13) := rp0_S21
          have b147 := i_bd l1
          have b148 := i_bd v22
          first | have e149 : (l3 + (1 : Int32)).toInt = l3.toInt + (1) := i_addk rfl (by omega) (by omega) | have b150 := i_bd (l3 + (1 : Int32))
          exact IH _ (by omega) _ (l1) (v22) ((l3 + (1 : Int32))) rfl hI_S13 (by omega) (by omega) (by omega) (by omega) (show xB S13 (mR S13 70) from by first | (exact xB_x (xC_o (W := 75) rp0_S13).2)) (show qRv (aZ S13) ∧ qLv (aZ S13) (mI S13 91 6).toInt from by first | (rcases rp1_S13 with w | w; (exact w.2.2.2.2); (exfalso; first | exact absurd w.1 (by decide) | (have w1 := congrArg Int32.toInt w.1; have o1 : (1 : Int32).toInt = 1 := rfl; have o0 : (0 : Int32).toInt = 0 := rfl; omega)))) (show rOf (93 - ((l3 + (1 : Int32))).toInt).toNat (aZ S13) (mI S13 91 6).toInt = rC0 ab from by first | (rcases rp1_S13 with w | w; (have k := hi6; rw [show (93 - l3.toInt).toNat = (93 - (l3 + (1 : Int32)).toInt).toNat + 1 from by omega, Of_y hi7.symm (by omega) w.2.1, ← w.2.2.1, ← w.2.2.2.1] at k; exact k); (exfalso; first | exact absurd w.1 (by decide) | (have w1 := congrArg Int32.toInt w.1; have o1 : (1 : Int32).toInt = 1 := rfl; have o0 : (0 : Int32).toInt = 0 := rfl; omega)))) (show (v22).toInt = rFw (aZ S13) from by first | (exact rp0_S21)) (show (l1) = aSv ab from by first | (exact hi8))
theorem sp_43_91_sz {X : Nat × (Nat → Int32)} {d w : Nat} {f : Nat → Nat → Int32} {r : Nat → Nat → Option Nat} {C Z N : Nat} {Q : Option ma_V ⊕ Nat → ma_S → Prop} {ab : Nat→Nat→Int32} {S : ma_S}  (hd : 4 ≤ d) (hw : 160 ≤ w) (hI : zL91 f r C Z N S) (hpre0 : xB S (mR S 70)) (hpre1 : aZ S = ab) (hpre2 : qRv ab) (K : ∀ v S₉, zL91 f r C Z N S₉ → (True) → (xB S₉ (mR S₉ 70)) → (aZ S₉ = rCl ab ∧ v = aSv ab ∧ qRv (aZ S₉)) → Q (.inl (some (.inl v))) S₉) : ma_wp X d w 43 0 [(0, .inr (.inr (some 91)))] [] S Q := by
  refine g_43_91_sz_0  (by omega) (by omega) (zG_T hI) ?_
  refine sp_264_91_s (ab := (aS 75 S)) (by omega) (by omega) (zL91_dn hI) (show xB S (mR S 70) from by first | (exact xB_x (xC_o (W := 75) hpre0).2)) (show aS 75 S = (aS 75 S) from by first | (exact rfl)) (fun v2 S1 hL_S1 hp_v2 rp0_S1 rp1_S1 => zi_n ⟨zG_T hL_S1, ?_⟩)
  have hI_S1 := zL91_up hI hL_S1
  have rp0_S1 : xB S1 (mR S1 70) := by
    have z := rp0_S1
    (try rw [show mI S 65 = f 65 from funext (fun k => zG_z hI rfl)] at z)
    (try rw [show mI S 64 1 = f 64 1 from zG_z hI rfl] at z)
    exact z
  have rp1_S1 : aS 75 S1 = aSw (aS 75 S) ∧ v2 = aSv (aS 75 S) := by
    have z := rp1_S1
    (try rw [show mI S 65 = f 65 from funext (fun k => zG_z hI rfl)] at z)
    (try rw [show mI S 64 1 = f 64 1 from zG_z hI rfl] at z)
    exact z
  refine sp_44_91_sz (ab := (aZ S1)) (by omega) (by omega) hI_S1 (show xB S1 (mR S1 70) from by first | (exact xB_x (xC_o (W := 75) rp0_S1).2)) (show aZ S1 = (aZ S1) from by first | (exact rfl)) (show qRv (aZ S1) from by first | (rw [(show aZ S1 = aSw ab from (Z_sw (S := S) rp1_S1.1 (show mI S1 91 = mI S 91 from funext (fun _ => zG_z hL_S1 rfl)) (show mI S1 92 = mI S 92 from funext (fun _ => zG_z hL_S1 rfl)) (show mI S1 93 = mI S 93 from funext (fun _ => zG_z hL_S1 rfl))).trans (congrArg aSw hpre1))]; exact Rv_sw hpre2)) (fun S3 hI_S3 rp0_S3 rp1_S3 => zv_n ⟨zG_T hI_S3, ?_⟩)
  have rp0_S3 : xB S3 (mR S3 70) := rp0_S3
  have rp1_S3 : aZ S3 = rSk (aZ S1) 512 := rp1_S3
  refine sp_46_91_sz (ab := (aZ S3)) (by omega) (by omega) hI_S3 (show xB S3 (mR S3 70) from by first | (exact xB_x (xC_o (W := 75) rp0_S3).2)) (show aZ S3 = (aZ S3) from by first | (exact rfl)) (fun S5 hI_S5 rp0_S5 rp1_S5 => zv_n ⟨zG_T hI_S5, ?_⟩)
  have rp0_S5 : xB S5 (mR S5 70) := rp0_S5
  have rp1_S5 : aZ S5 = rEm (aZ S3) 93 := rp1_S5
  refine sp_47_91_sz (ab := (aZ S5)) (by omega) (by omega) hI_S5 (show xB S5 (mR S5 70) from by first | (exact xB_x (xC_o (W := 75) rp0_S5).2)) (show aZ S5 = (aZ S5) from by first | (exact rfl)) (show qLb (aZ S5) from by first | (rw [rp1_S5, rp1_S3, (show aZ S1 = aSw ab from (Z_sw (S := S) rp1_S1.1 (show mI S1 91 = mI S 91 from funext (fun _ => zG_z hL_S1 rfl)) (show mI S1 92 = mI S 92 from funext (fun _ => zG_z hL_S1 rfl)) (show mI S1 93 = mI S 93 from funext (fun _ => zG_z hL_S1 rfl))).trans (congrArg aSw hpre1))]; exact Lb_em (Lb_sk (I_sw hpre2.1)))) (show (0 ≤ ((aZ S5) 87 5).toInt ∧ ((aZ S5) 87 5).toInt ≤ 100) ∧ (1 ≤ ((aZ S5) 87 3).toInt ∧ ((aZ S5) 87 3).toInt ≤ 256) ∧ (∀ n, xAl (aZ S5) n → ((aZ S5) 130 n).toInt / ((aZ S5) 87 3).toInt < 93) ∧ qI (aZ S5) from by first | (rw [rp1_S5, rp1_S3, (show aZ S1 = aSw ab from (Z_sw (S := S) rp1_S1.1 (show mI S1 91 = mI S 91 from funext (fun _ => zG_z hL_S1 rfl)) (show mI S1 92 = mI S 92 from funext (fun _ => zG_z hL_S1 rfl)) (show mI S1 93 = mI S 93 from funext (fun _ => zG_z hL_S1 rfl))).trans (congrArg aSw hpre1))]; exact HS_t0 (Rv_sw hpre2))) (fun S7 hI_S7 rp0_S7 rp1_S7 => zv_n ⟨zG_T hI_S7, ?_⟩)
  have rp0_S7 : xB S7 (mR S7 70) := rp0_S7
  have rp1_S7 : aZ S7 = rCb (rCa (aZ S5) 93) 512 := rp1_S7
  have li2 : (-1 : Int32).toInt = -1 := rfl
  have hI1 : zL91 f r C Z N (ma_put S7 91 6 (.inl (-1 : Int32))) := zG_sp hI_S7 (-1) (92) rfl (by decide) (by decide) (by decide) trivial (by omega) (by omega)
  refine sp_48_91_sz  (by omega) (by omega) hI1  (fun v10 S9 eS_S9 hp_v10 rp0_S9 => zi_n ⟨(by rw [eS_S9]; exact zG_T hI1), ?_⟩)
  replace eS_S9 := eS_S9.symm; subst eS_S9
  have rp0_S9 : v10.toInt = rFw (aZ (ma_put S7 91 6 (.inl (-1 : Int32)))) := rp0_S9
  have b3 := i_bd v2
  have b4 := i_bd v10
  have li5 : (0 : Int32).toInt = 0 := rfl
  exact lp_43_91_sz_29 (by omega) (by omega) K _ _ (v2) (v10) ((0 : Int32)) rfl hI1 (by omega) (by omega) (by omega) (by omega) (show xB (ma_put S7 91 6 (.inl (-1 : Int32))) (mR (ma_put S7 91 6 (.inl (-1 : Int32))) 70) from by first | (exact xB_x (xC_n (c := 91) (k := 6) (x := (-1 : Int32)) (xC_o (W := 75) rp0_S7) ⟨by decide, Or.inl ⟨rfl, rfl⟩⟩).2)) (show qRv (aZ (ma_put S7 91 6 (.inl (-1 : Int32)))) ∧ qLv (aZ (ma_put S7 91 6 (.inl (-1 : Int32)))) (-1 : Int32).toInt from by first | (rw [((Z_p6 (x := (-1 : Int32)) (xC_o (W := 75) rp0_S7).2).trans (show aZ S7 = aZ S7 from rfl)), (B0_e (show aZ S1 = aSw ab from (Z_sw (S := S) rp1_S1.1 (show mI S1 91 = mI S 91 from funext (fun _ => zG_z hL_S1 rfl)) (show mI S1 92 = mI S 92 from funext (fun _ => zG_z hL_S1 rfl)) (show mI S1 93 = mI S 93 from funext (fun _ => zG_z hL_S1 rfl))).trans (congrArg aSw hpre1)) rp1_S3 rp1_S5 rp1_S7)]; exact Rv_b0 hpre2)) (show rOf (93 - ((0 : Int32)).toInt).toNat (aZ (ma_put S7 91 6 (.inl (-1 : Int32)))) (-1 : Int32).toInt = rC0 ab from by first | (rw [((Z_p6 (x := (-1 : Int32)) (xC_o (W := 75) rp0_S7).2).trans (show aZ S7 = aZ S7 from rfl)), (B0_e (show aZ S1 = aSw ab from (Z_sw (S := S) rp1_S1.1 (show mI S1 91 = mI S 91 from funext (fun _ => zG_z hL_S1 rfl)) (show mI S1 92 = mI S 92 from funext (fun _ => zG_z hL_S1 rfl)) (show mI S1 93 = mI S 93 from funext (fun _ => zG_z hL_S1 rfl))).trans (congrArg aSw hpre1)) rp1_S3 rp1_S5 rp1_S7)]; rfl)) (show (v10).toInt = rFw (aZ (ma_put S7 91 6 (.inl (-1 : Int32)))) from by first | (exact rp0_S9)) (show (v2) = aSv ab from by first | (exact rp1_S1.2.trans (Z_sv.trans (congrArg aSv hpre1))))

/-! from 95.s21 -/
/-! REGIONS, the class (written by wip/tools/gen15z.py) -/
theorem g_42_91_sz_0 {X : Nat × (Nat → Int32)} {d w : Nat} {S : ma_S} {Q : Option ma_V ⊕ Nat → ma_S → Prop}  (hd : 0 ≤ d) (hw : 0 ≤ w) (hS : zT S) (h : ma_wp X d w 42 4 [(0, .inr (.inr (some 91))), (1, .inl (0 : Int32)), (2, .inl (0 : Int32))] [] S Q) : ma_wp X d w 42 0 [(0, .inr (.inr (some 91)))] [] S Q := by
  refine zw_push hm_42 dX4_specials_0 (v := .inl (0 : Int32)) rfl ?_
  refine zw_sto hm_42 dX4_specials_1 [(1, .inl (0 : Int32)), (0, .inr (.inr (some 91)))] rfl rfl rfl ?_
  refine zw_push hm_42 dX4_specials_2 (v := .inl (0 : Int32)) rfl ?_
  refine zw_sto hm_42 dX4_specials_3 [(2, .inl (0 : Int32)), (1, .inl (0 : Int32)), (0, .inr (.inr (some 91)))] rfl rfl rfl ?_
  exact zw_sub (ma_nd_of (ks := [0, 1, 2]) rfl (by decide)) (ma_nd_of (ks := [2, 1, 0]) rfl (by decide)) (ma_le_cons rfl (ma_le_cons rfl (ma_le_cons rfl (ma_le_nil _)))) h
theorem g_42_91_sz_4 {X : Nat × (Nat → Int32)} {d w : Nat} {S : ma_S} {Q : Option ma_V ⊕ Nat → ma_S → Prop} (l1 : Int32) (l2 : Int32) (hd : 0 ≤ d) (hw : 0 ≤ w) (hS : zT S) (h : if (mI S 91 3) ≤ l2 then (Q (.inl (some (.inl l1))) S) else (if (93 : Int32) ≤ l2 then (Q (.inl (some (.inl l1))) S) else ((0 ≤ l2 ∧ l2.toNatClampNeg < 93) ∧ (if (mI S 92 l2.toNatClampNeg) = 0 then (ma_wp X d w 42 4 [(0, .inr (.inr (some 91))), (1, .inl (l1 + (1 : Int32))), (2, .inl (l2 + (1 : Int32)))] [] S Q) else (ma_wp X d w 42 4 [(0, .inr (.inr (some 91))), (1, .inl l1), (2, .inl (l2 + (1 : Int32)))] [] S Q))))) : ma_wp X d w 42 4 [(0, .inr (.inr (some 91))), (1, .inl l1), (2, .inl l2)] [] S Q := by
  refine zw_push hm_42 dX4_specials_4 (v := .inl l2) rfl ?_
  refine zw_push hm_42 dX4_specials_5 (v := .inr (.inr (some 91))) rfl ?_
  refine zw_gf hm_42 dX4_specials_6 (v := .inl (mI S 91 3)) (zT_is hS s_91) (zT_t hS s_91) rfl f_4_28_4 rfl ?_
  refine zw_if2 hm_42 dX4_specials_9 (t := 36) rfl zc2_ge ?_ ?_
  · intro hc
    rw [if_pos hc] at h
    refine zw_push hm_42 dX4_specials_36 (v := .inl l1) rfl ?_
    exact zw_iret hm_42 dX4_specials_37 h
  · intro hc
    rw [if_neg hc] at h
    refine zw_push hm_42 dX4_specials_12 (v := .inl l2) rfl ?_
    refine zw_push hm_42 dX4_specials_13 (v := .inl (93 : Int32)) rfl ?_
    refine zw_if2 hm_42 dX4_specials_15 (t := 36) rfl zc2_ge ?_ ?_
    · intro hc
      rw [if_pos hc] at h
      refine zw_push hm_42 dX4_specials_36 (v := .inl l1) rfl ?_
      exact zw_iret hm_42 dX4_specials_37 h
    · intro hc
      rw [if_neg hc] at h
      refine zw_push hm_42 dX4_specials_18 (v := .inr (.inr (some 91))) rfl ?_
      refine zw_gf hm_42 dX4_specials_19 (v := .inr (.inr (some 92))) (zT_is hS s_91) (zT_t hS s_91) rfl f_4_9_4 (zT_f hS r_91_7) ?_
      refine zw_push hm_42 dX4_specials_22 (v := .inl l2) rfl ?_
      obtain ⟨hg, h⟩ := h
      refine zw_ia hm_42 dX4_specials_23 (zT_is hS s_92) (zT_h hS s_92) rfl hg ?_
      show ma_wp X d w 42 24 [(0, .inr (.inr (some 91))), (1, .inl l1), (2, .inl l2)] [.inl (mI S 92 l2.toNatClampNeg)] S _
      refine zw_if0 hm_42 dX4_specials_24 (t := 30) rfl zc0_ne ?_ ?_
      · intro hc
        rw [if_neg hc] at h
        refine zw_sto hm_42 dX4_specials_30 [(2, .inl (l2 + (1 : Int32))), (0, .inr (.inr (some 91))), (1, .inl l1)] rfl rfl rfl ?_
        refine zw_goto hm_42 dX4_specials_33 (t := 4) rfl ?_
        exact zw_sub (ma_nd_of (ks := [0, 1, 2]) rfl (by decide)) (ma_nd_of (ks := [2, 0, 1]) rfl (by decide)) (ma_le_cons rfl (ma_le_cons rfl (ma_le_cons rfl (ma_le_nil _)))) h
      · intro hc
        rw [if_pos (Classical.not_not.mp hc)] at h
        refine zw_sto hm_42 dX4_specials_27 [(1, .inl (l1 + (1 : Int32))), (0, .inr (.inr (some 91))), (2, .inl l2)] rfl rfl rfl ?_
        refine zw_sto hm_42 dX4_specials_30 [(2, .inl (l2 + (1 : Int32))), (1, .inl (l1 + (1 : Int32))), (0, .inr (.inr (some 91)))] rfl rfl rfl ?_
        refine zw_goto hm_42 dX4_specials_33 (t := 4) rfl ?_
        exact zw_sub (ma_nd_of (ks := [0, 1, 2]) rfl (by decide)) (ma_nd_of (ks := [2, 1, 0]) rfl (by decide)) (ma_le_cons rfl (ma_le_cons rfl (ma_le_cons rfl (ma_le_nil _)))) h
theorem lp_42_91_sz_4 {X : Nat × (Nat → Int32)} {d w : Nat} {f : Nat → Nat → Int32} {r : Nat → Nat → Option Nat} {C Z N : Nat} {Q : Option ma_V ⊕ Nat → ma_S → Prop} {S : ma_S} (hd : 0 ≤ d) (hw : 0 ≤ w) (K : ∀ v S₉, S₉ = S → (True) → (v.toInt = rEf (aZ S) 93) → Q (.inl (some (.inl v))) S₉) : ∀ (n : Nat) (l1 : Int32) (l2 : Int32), (93 - l2.toInt).toNat = n → zL91 f r C Z N S → (0 ≤ l2.toInt) → (l2.toInt ≤ 93) → (0 ≤ l1.toInt) → (l1.toInt ≤ l2.toInt) → (l1.toInt = rEf (aZ S) l2.toNatClampNeg) → ma_wp X d w 42 4 [(0, .inr (.inr (some 91))), (1, .inl l1), (2, .inl l2)] [] S Q := by
  intro n
  induction n using Nat.strongRecOn with
  | _ n IH =>
    intro l1 l2 hmu hI  hi0 hi1 hi2 hi3 hi4
    refine g_42_91_sz_4 l1 l2 (by omega) (by omega) (zG_T hI) ?_
    have f1 := zG_s hI (0) (93) (c := 91) (k := 3) (by decide)
    have b2 := i_bd l2
    refine zd (fun h3 => ?_) (fun h3 => ?_)
    · skip
      have g4 := i_le h3
      have b5 := i_bd l1
      exact K (l1) _ rfl trivial (show l1.toInt = rEf (aZ S) 93 from by first | (have i4 := congrArg Int32.toInt (show aZ S 87 4 = mI S 91 3 from rfl); exact Ef_e hi4 (by omega) (by omega) (by omega)))
    · skip
      have g6 := i_nle h3
      have li7 : (93 : Int32).toInt = 93 := rfl
      refine zd (fun h8 => ?_) (fun h8 => ?_)
      · skip
        have g9 := i_le h8
        have b10 := i_bd l1
        exact K (l1) _ rfl trivial (show l1.toInt = rEf (aZ S) 93 from by first | (have i4 := congrArg Int32.toInt (show aZ S 87 4 = mI S 91 3 from rfl); exact Ef_e hi4 (by omega) (by omega) (by omega)))
      · skip
        have g11 := i_nle h8
        refine ⟨i_ix (by omega) (by omega), ?_⟩
        first | have f12 := zG_a hI 93 (0) (3000) (c := 92) (k := l2.toNatClampNeg) (by decide) (i_ix (n := 93) (by omega) (by omega)).2 | have b13 := i_bd (mI S 92 l2.toNatClampNeg)
        have li14 : (0 : Int32).toInt = 0 := rfl
        refine zd (fun h15 => ?_) (fun h15 => ?_)
        · skip
          have g16 := i_eq h15
          have b17 := i_bd l1
          first | have e18 : (l1 + (1 : Int32)).toInt = l1.toInt + (1) := i_addk rfl (by omega) (by omega) | have b19 := i_bd (l1 + (1 : Int32))
          first | have e20 : (l2 + (1 : Int32)).toInt = l2.toInt + (1) := i_addk rfl (by omega) (by omega) | have b21 := i_bd (l2 + (1 : Int32))
          exact IH _ (by omega) ((l1 + (1 : Int32))) ((l2 + (1 : Int32))) rfl hI (by omega) (by omega) (by omega) (by omega) (show ((l1 + (1 : Int32))).toInt = rEf (aZ S) ((l2 + (1 : Int32))).toNatClampNeg from by first | (have i4 := congrArg Int32.toInt (show aZ S 87 4 = mI S 91 3 from rfl); exact Ef_y hi4 (by omega) (by omega) (by rw [aZ_9 (Or.inl rfl)]; omega) (by omega) (by omega)) | (exact Ef_n hi4 (by omega) (by rw [aZ_9 (Or.inl rfl)]; omega) (by omega)))
        · skip
          have g22 := i_ne h15
          have b23 := i_bd l1
          first | have e24 : (l2 + (1 : Int32)).toInt = l2.toInt + (1) := i_addk rfl (by omega) (by omega) | have b25 := i_bd (l2 + (1 : Int32))
          exact IH _ (by omega) (l1) ((l2 + (1 : Int32))) rfl hI (by omega) (by omega) (by omega) (by omega) (show (l1).toInt = rEf (aZ S) ((l2 + (1 : Int32))).toNatClampNeg from by first | (have i4 := congrArg Int32.toInt (show aZ S 87 4 = mI S 91 3 from rfl); exact Ef_y hi4 (by omega) (by omega) (by rw [aZ_9 (Or.inl rfl)]; omega) (by omega) (by omega)) | (exact Ef_n hi4 (by omega) (by rw [aZ_9 (Or.inl rfl)]; omega) (by omega)))
theorem sp_42_91_sz {X : Nat × (Nat → Int32)} {d w : Nat} {f : Nat → Nat → Int32} {r : Nat → Nat → Option Nat} {C Z N : Nat} {Q : Option ma_V ⊕ Nat → ma_S → Prop} {S : ma_S}  (hd : 0 ≤ d) (hw : 0 ≤ w) (hI : zL91 f r C Z N S)  (K : ∀ v S₉, S₉ = S → (True) → (v.toInt = rEf (aZ S) 93) → Q (.inl (some (.inl v))) S₉) : ma_wp X d w 42 0 [(0, .inr (.inr (some 91)))] [] S Q := by
  refine g_42_91_sz_0  (by omega) (by omega) (zG_T hI) ?_
  have li1 : (0 : Int32).toInt = 0 := rfl
  exact lp_42_91_sz_4 (by omega) (by omega) K _ ((0 : Int32)) ((0 : Int32)) rfl hI (by omega) (by omega) (by omega) (by omega) (show ((0 : Int32)).toInt = rEf (aZ S) ((0 : Int32)).toNatClampNeg from by first | (exact rfl))

