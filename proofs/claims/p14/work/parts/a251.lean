/-! from 95.s18 -/
/-! REGIONS, the class (written by wip/tools/gen15z.py) -/
theorem g_49_91_sz_0 {X : Nat × (Nat → Int32)} {d w : Nat} {S : ma_S} {Q : Option ma_V ⊕ Nat → ma_S → Prop} (r1 : Int32) (hd : 3 ≤ d) (hw : 114 ≤ w) (hS : zT S) (h : if r1 < 0 then (ma_wp X d w 49 15 [(0, .inr (.inr (some 91))), (1, .inl r1), (2, .inl (r1 * (mI S 91 2))), (3, .inl ((r1 * (mI S 91 2)) + (0 : Int32)))] [] S Q) else (if (93 : Int32) ≤ r1 then (ma_wp X d w 49 15 [(0, .inr (.inr (some 91))), (1, .inl r1), (2, .inl (r1 * (mI S 91 2))), (3, .inl ((r1 * (mI S 91 2)) + (0 : Int32)))] [] S Q) else ((0 ≤ r1 ∧ r1.toNatClampNeg < 93) ∧ (ma_wp X d w 49 15 [(0, .inr (.inr (some 91))), (1, .inl r1), (2, .inl (r1 * (mI S 91 2))), (3, .inl ((r1 * (mI S 91 2)) + (mI S 92 r1.toNatClampNeg)))] [] S Q)))) : ma_wp X d w 49 0 [(0, .inr (.inr (some 91))), (1, .inl r1)] [] S Q := by
  refine zw_push hm_49 dX4_moveAll_0 (v := .inl r1) rfl ?_
  refine zw_push hm_49 dX4_moveAll_1 (v := .inr (.inr (some 91))) rfl ?_
  refine zw_gf hm_49 dX4_moveAll_2 (v := .inl (mI S 91 2)) (zT_is hS s_91) (zT_t hS s_91) rfl f_4_18_4 rfl ?_
  refine zw_stk hm_49 dX4_moveAll_5 (st₉ := [.inl (r1 * (mI S 91 2))]) rfl rfl ?_
  refine zw_sto hm_49 dX4_moveAll_6 [(2, .inl (r1 * (mI S 91 2))), (0, .inr (.inr (some 91))), (1, .inl r1)] rfl rfl rfl ?_
  refine zw_push hm_49 dX4_moveAll_7 (v := .inl (r1 * (mI S 91 2))) rfl ?_
  refine zw_push hm_49 dX4_moveAll_8 (v := .inr (.inr (some 91))) rfl ?_
  refine zw_push hm_49 dX4_moveAll_9 (v := .inl r1) rfl ?_
  refine zw_cv hm_49 dX4_moveAll_10 v_4_93_4 hm_50 [.inl r1] [.inl (r1 * (mI S 91 2))] rfl (zT_rt hS s_91 rfl) ⟨by omega, by omega⟩ rfl ?_
  show ma_wp X (d - 1) (w - 21) 50 0 [(0, .inr (.inr (some 91))), (1, .inl r1)] [] S _
  refine zw_push hm_50 dX4_topOf_0 (v := .inl r1) rfl ?_
  refine zw_if0 hm_50 dX4_topOf_1 (t := 19) rfl zc0_lt ?_ ?_
  · intro hc
    rw [if_pos hc] at h
    refine zw_push hm_50 dX4_topOf_19 (v := .inl (0 : Int32)) rfl ?_
    refine zw_iret hm_50 dX4_topOf_20 ?_
    show ma_wp X d w 49 13 [(2, .inl (r1 * (mI S 91 2))), (0, .inr (.inr (some 91))), (1, .inl r1)] [.inl (0 : Int32), .inl (r1 * (mI S 91 2))] S _
    refine zw_stk hm_49 dX4_moveAll_13 (st₉ := [.inl ((r1 * (mI S 91 2)) + (0 : Int32))]) rfl rfl ?_
    refine zw_sto hm_49 dX4_moveAll_14 [(3, .inl ((r1 * (mI S 91 2)) + (0 : Int32))), (2, .inl (r1 * (mI S 91 2))), (0, .inr (.inr (some 91))), (1, .inl r1)] rfl rfl rfl ?_
    exact zw_sub (ma_nd_of (ks := [0, 1, 2, 3]) rfl (by decide)) (ma_nd_of (ks := [3, 2, 0, 1]) rfl (by decide)) (ma_le_cons rfl (ma_le_cons rfl (ma_le_cons rfl (ma_le_cons rfl (ma_le_nil _))))) h
  · intro hc
    rw [if_neg hc] at h
    refine zw_push hm_50 dX4_topOf_4 (v := .inl r1) rfl ?_
    refine zw_push hm_50 dX4_topOf_5 (v := .inl (93 : Int32)) rfl ?_
    refine zw_if2 hm_50 dX4_topOf_7 (t := 19) rfl zc2_ge ?_ ?_
    · intro hc
      rw [if_pos hc] at h
      refine zw_push hm_50 dX4_topOf_19 (v := .inl (0 : Int32)) rfl ?_
      refine zw_iret hm_50 dX4_topOf_20 ?_
      show ma_wp X d w 49 13 [(2, .inl (r1 * (mI S 91 2))), (0, .inr (.inr (some 91))), (1, .inl r1)] [.inl (0 : Int32), .inl (r1 * (mI S 91 2))] S _
      refine zw_stk hm_49 dX4_moveAll_13 (st₉ := [.inl ((r1 * (mI S 91 2)) + (0 : Int32))]) rfl rfl ?_
      refine zw_sto hm_49 dX4_moveAll_14 [(3, .inl ((r1 * (mI S 91 2)) + (0 : Int32))), (2, .inl (r1 * (mI S 91 2))), (0, .inr (.inr (some 91))), (1, .inl r1)] rfl rfl rfl ?_
      exact zw_sub (ma_nd_of (ks := [0, 1, 2, 3]) rfl (by decide)) (ma_nd_of (ks := [3, 2, 0, 1]) rfl (by decide)) (ma_le_cons rfl (ma_le_cons rfl (ma_le_cons rfl (ma_le_cons rfl (ma_le_nil _))))) h
    · intro hc
      rw [if_neg hc] at h
      refine zw_push hm_50 dX4_topOf_10 (v := .inr (.inr (some 91))) rfl ?_
      refine zw_gf hm_50 dX4_topOf_11 (v := .inr (.inr (some 92))) (zT_is hS s_91) (zT_t hS s_91) rfl f_4_9_4 (zT_f hS r_91_7) ?_
      refine zw_push hm_50 dX4_topOf_14 (v := .inl r1) rfl ?_
      obtain ⟨hg, h⟩ := h
      refine zw_ia hm_50 dX4_topOf_15 (zT_is hS s_92) (zT_h hS s_92) rfl hg ?_
      show ma_wp X (d - 1) (w - 21) 50 16 [(0, .inr (.inr (some 91))), (1, .inl r1)] [.inl (mI S 92 r1.toNatClampNeg)] S _
      refine zw_goto hm_50 dX4_topOf_16 (t := 20) rfl ?_
      refine zw_iret hm_50 dX4_topOf_20 ?_
      show ma_wp X d w 49 13 [(2, .inl (r1 * (mI S 91 2))), (0, .inr (.inr (some 91))), (1, .inl r1)] [.inl (mI S 92 r1.toNatClampNeg), .inl (r1 * (mI S 91 2))] S _
      refine zw_stk hm_49 dX4_moveAll_13 (st₉ := [.inl ((r1 * (mI S 91 2)) + (mI S 92 r1.toNatClampNeg))]) rfl rfl ?_
      refine zw_sto hm_49 dX4_moveAll_14 [(3, .inl ((r1 * (mI S 91 2)) + (mI S 92 r1.toNatClampNeg))), (2, .inl (r1 * (mI S 91 2))), (0, .inr (.inr (some 91))), (1, .inl r1)] rfl rfl rfl ?_
      exact zw_sub (ma_nd_of (ks := [0, 1, 2, 3]) rfl (by decide)) (ma_nd_of (ks := [3, 2, 0, 1]) rfl (by decide)) (ma_le_cons rfl (ma_le_cons rfl (ma_le_cons rfl (ma_le_cons rfl (ma_le_nil _))))) h
theorem g_49_91_sz_15 {X : Nat × (Nat → Int32)} {d w : Nat} {S : ma_S} {Q : Option ma_V ⊕ Nat → ma_S → Prop} (l1 : Int32) (l2 : Int32) (l3 : Int32) (hd : 3 ≤ d) (hw : 136 ≤ w) (hS : zT S) (h : if l3 ≤ l2 then (if l1 < 0 then (Q (.inl (some (.inl (1 : Int32)))) S) else (if (93 : Int32) ≤ l1 then (Q (.inl (some (.inl (1 : Int32)))) S) else ((0 ≤ l1 ∧ l1.toNatClampNeg < 93) ∧ ((0 ≤ l1 ∧ l1.toNatClampNeg < 93) ∧ (Q (.inl (some (.inl (1 : Int32)))) (ma_put (ma_put S 93 l1.toNatClampNeg (.inl (0 : Int32))) 92 l1.toNatClampNeg (.inl (0 : Int32)))))))) else (if l2 < 0 then (ma_wp X d w 49 15 [(0, .inr (.inr (some 91))), (1, .inl l1), (2, .inl (l2 + (1 : Int32))), (3, .inl l3)] [] S Q) else (if (4500 : Int32) ≤ l2 then (ma_wp X d w 49 15 [(0, .inr (.inr (some 91))), (1, .inl l1), (2, .inl (l2 + (1 : Int32))), (3, .inl l3)] [] S Q) else ((0 ≤ l2 ∧ l2.toNatClampNeg < 4500) ∧ (if (mI S 71 l2.toNatClampNeg) < 0 then (ma_wp X d w 49 15 [(0, .inr (.inr (some 91))), (1, .inl l1), (2, .inl (l2 + (1 : Int32))), (3, .inl l3)] [] S Q) else (if (512 : Int32) ≤ (mI S 71 l2.toNatClampNeg) then (ma_wp X d w 49 15 [(0, .inr (.inr (some 91))), (1, .inl l1), (2, .inl (l2 + (1 : Int32))), (3, .inl l3)] [] S Q) else ((0 ≤ (mI S 71 l2.toNatClampNeg) ∧ (mI S 71 l2.toNatClampNeg).toNatClampNeg < 512) ∧ (((mR S 70 (mI S 71 l2.toNatClampNeg).toNatClampNeg) = none → ma_wp X d w 49 15 [(0, .inr (.inr (some 91))), (1, .inl l1), (2, .inl (l2 + (1 : Int32))), (3, .inl l3)] [] S Q) ∧ (∀ c1, (mR S 70 (mI S 71 l2.toNatClampNeg).toNatClampNeg) = some c1 → (126 ≤ c1 ∧ c1 < mN S) ∧ (ma_wp X (d - 1) (w - 22) 51 0 [(0, .inr (.inr (some 91))), (1, .inr (.inr (some c1)))] [] S (zi (fun v3 S2 => zT S2 ∧ (if v3 = 0 then (Q (.inl (some (.inl (0 : Int32)))) S2) else (ma_wp X d w 49 15 [(0, .inr (.inr (some 91))), (1, .inl l1), (2, .inl (l2 + (mI S c1 2))), (3, .inl l3)] [] S2 Q))) (fun x S9 => Q (.inr x) S9)))))))))))) : ma_wp X d w 49 15 [(0, .inr (.inr (some 91))), (1, .inl l1), (2, .inl l2), (3, .inl l3)] [] S Q := by
  refine zw_push hm_49 dX4_moveAll_15 (v := .inl l2) rfl ?_
  refine zw_push hm_49 dX4_moveAll_16 (v := .inl l3) rfl ?_
  refine zw_if2 hm_49 dX4_moveAll_17 (t := 63) rfl zc2_ge ?_ ?_
  · intro hc
    rw [if_pos hc] at h
    refine zw_push hm_49 dX4_moveAll_63 (v := .inl l1) rfl ?_
    refine zw_if0 hm_49 dX4_moveAll_64 (t := 87) rfl zc0_lt ?_ ?_
    · intro hc
      rw [if_pos hc] at h
      refine zw_push hm_49 dX4_moveAll_87 (v := .inl (1 : Int32)) rfl ?_
      exact zw_bret hm_49 dX4_moveAll_88 (by decide) h
    · intro hc
      rw [if_neg hc] at h
      refine zw_push hm_49 dX4_moveAll_67 (v := .inl l1) rfl ?_
      refine zw_push hm_49 dX4_moveAll_68 (v := .inl (93 : Int32)) rfl ?_
      refine zw_if2 hm_49 dX4_moveAll_70 (t := 87) rfl zc2_ge ?_ ?_
      · intro hc
        rw [if_pos hc] at h
        refine zw_push hm_49 dX4_moveAll_87 (v := .inl (1 : Int32)) rfl ?_
        exact zw_bret hm_49 dX4_moveAll_88 (by decide) h
      · intro hc
        rw [if_neg hc] at h
        refine zw_push hm_49 dX4_moveAll_73 (v := .inr (.inr (some 91))) rfl ?_
        refine zw_gf hm_49 dX4_moveAll_74 (v := .inr (.inr (some 93))) (zT_is hS s_91) (zT_t hS s_91) rfl f_4_15_4 (zT_f hS r_91_8) ?_
        refine zw_push hm_49 dX4_moveAll_77 (v := .inl l1) rfl ?_
        refine zw_push hm_49 dX4_moveAll_78 (v := .inl (0 : Int32)) rfl ?_
        obtain ⟨hg, h⟩ := h
        refine zw_ias hm_49 dX4_moveAll_79 (zT_is hS s_93) (zT_h hS s_93) rfl hg ?_
        refine zw_push hm_49 dX4_moveAll_80 (v := .inr (.inr (some 91))) rfl ?_
        refine zw_gf hm_49 dX4_moveAll_81 (v := .inr (.inr (some 92))) (zT_is (zT_pi hS) s_91) (zT_t (zT_pi hS) s_91) rfl f_4_9_4 (zT_f (zT_pi hS) r_91_7) ?_
        refine zw_push hm_49 dX4_moveAll_84 (v := .inl l1) rfl ?_
        refine zw_push hm_49 dX4_moveAll_85 (v := .inl (0 : Int32)) rfl ?_
        obtain ⟨hg, h⟩ := h
        refine zw_ias hm_49 dX4_moveAll_86 (zT_is (zT_pi hS) s_92) (zT_h (zT_pi hS) s_92) rfl hg ?_
        refine zw_push hm_49 dX4_moveAll_87 (v := .inl (1 : Int32)) rfl ?_
        exact zw_bret hm_49 dX4_moveAll_88 (by decide) h
  · intro hc
    rw [if_neg hc] at h
    refine zw_push hm_49 dX4_moveAll_20 (v := .inr (.inr (some 91))) rfl ?_
    refine zw_gf hm_49 dX4_moveAll_21 (v := .inr (.inr (some 69))) (zT_is hS s_91) (zT_t hS s_91) rfl f_4_100_4 (zT_f hS r_91_0) ?_
    refine zw_push hm_49 dX4_moveAll_24 (v := .inl l2) rfl ?_
    refine zw_cv hm_49 dX4_moveAll_25 v_4_120_7 hm_89 [.inl l2] [] rfl (zT_rt hS s_69 rfl) ⟨by omega, by omega⟩ rfl ?_
    show ma_wp X (d - 1) (w - 22) 89 0 [(0, .inr (.inr (some 69))), (1, .inl l2)] [] S _
    refine zw_push hm_89 dX7_thingFrom_0 (v := .inl l2) rfl ?_
    refine zw_if0 hm_89 dX7_thingFrom_1 (t := 20) rfl zc0_lt ?_ ?_
    · intro hc
      rw [if_pos hc] at h
      refine zw_push hm_89 dX7_thingFrom_20 (v := .inl (-1 : Int32)) rfl ?_
      refine zw_sto hm_89 dX7_thingFrom_21 [(2, .inl (-1 : Int32)), (0, .inr (.inr (some 69))), (1, .inl l2)] rfl rfl rfl ?_
      refine zw_push hm_89 dX7_thingFrom_22 (v := .inl (-1 : Int32)) rfl ?_
      refine zw_if0 hm_89 dX7_thingFrom_23 (t := 42) rfl zc0_lt (fun _ => ?_) (fun hc => absurd (by decide) hc)
      refine zw_push hm_89 dX7_thingFrom_42 (v := .inr (.inr none)) rfl ?_
      refine zw_aret hm_89 dX7_thingFrom_43 ?_
      show ma_wp X d w 49 28 [(0, .inr (.inr (some 91))), (1, .inl l1), (2, .inl l2), (3, .inl l3)] [.inr (.inr none)] S _
      refine zw_sto hm_49 dX4_moveAll_28 [(4, .inr (.inr none)), (0, .inr (.inr (some 91))), (1, .inl l1), (2, .inl l2), (3, .inl l3)] rfl rfl rfl ?_
      refine zw_push hm_49 dX4_moveAll_30 (v := .inr (.inr none)) rfl ?_
      refine zw_ifnonnull hm_49 dX4_moveAll_32 (t := 41) rfl (fun _ => ?_) (fun _ z => by cases z)
      refine zw_sto hm_49 dX4_moveAll_35 [(2, .inl (l2 + (1 : Int32))), (4, .inr (.inr none)), (0, .inr (.inr (some 91))), (1, .inl l1), (3, .inl l3)] rfl rfl rfl ?_
      refine zw_goto hm_49 dX4_moveAll_38 (t := 60) rfl ?_
      refine zw_goto hm_49 dX4_moveAll_60 (t := 15) rfl ?_
      exact zw_sub (ma_nd_of (ks := [0, 1, 2, 3]) rfl (by decide)) (ma_nd_of (ks := [2, 4, 0, 1, 3]) rfl (by decide)) (ma_le_cons rfl (ma_le_cons rfl (ma_le_cons rfl (ma_le_cons rfl (ma_le_nil _))))) h
    · intro hc
      rw [if_neg hc] at h
      refine zw_push hm_89 dX7_thingFrom_4 (v := .inl l2) rfl ?_
      refine zw_push hm_89 dX7_thingFrom_5 (v := .inl (4500 : Int32)) rfl ?_
      refine zw_if2 hm_89 dX7_thingFrom_8 (t := 20) rfl zc2_ge ?_ ?_
      · intro hc
        rw [if_pos hc] at h
        refine zw_push hm_89 dX7_thingFrom_20 (v := .inl (-1 : Int32)) rfl ?_
        refine zw_sto hm_89 dX7_thingFrom_21 [(2, .inl (-1 : Int32)), (0, .inr (.inr (some 69))), (1, .inl l2)] rfl rfl rfl ?_
        refine zw_push hm_89 dX7_thingFrom_22 (v := .inl (-1 : Int32)) rfl ?_
        refine zw_if0 hm_89 dX7_thingFrom_23 (t := 42) rfl zc0_lt (fun _ => ?_) (fun hc => absurd (by decide) hc)
        refine zw_push hm_89 dX7_thingFrom_42 (v := .inr (.inr none)) rfl ?_
        refine zw_aret hm_89 dX7_thingFrom_43 ?_
        show ma_wp X d w 49 28 [(0, .inr (.inr (some 91))), (1, .inl l1), (2, .inl l2), (3, .inl l3)] [.inr (.inr none)] S _
        refine zw_sto hm_49 dX4_moveAll_28 [(4, .inr (.inr none)), (0, .inr (.inr (some 91))), (1, .inl l1), (2, .inl l2), (3, .inl l3)] rfl rfl rfl ?_
        refine zw_push hm_49 dX4_moveAll_30 (v := .inr (.inr none)) rfl ?_
        refine zw_ifnonnull hm_49 dX4_moveAll_32 (t := 41) rfl (fun _ => ?_) (fun _ z => by cases z)
        refine zw_sto hm_49 dX4_moveAll_35 [(2, .inl (l2 + (1 : Int32))), (4, .inr (.inr none)), (0, .inr (.inr (some 91))), (1, .inl l1), (3, .inl l3)] rfl rfl rfl ?_
        refine zw_goto hm_49 dX4_moveAll_38 (t := 60) rfl ?_
        refine zw_goto hm_49 dX4_moveAll_60 (t := 15) rfl ?_
        exact zw_sub (ma_nd_of (ks := [0, 1, 2, 3]) rfl (by decide)) (ma_nd_of (ks := [2, 4, 0, 1, 3]) rfl (by decide)) (ma_le_cons rfl (ma_le_cons rfl (ma_le_cons rfl (ma_le_cons rfl (ma_le_nil _))))) h
      · intro hc
        rw [if_neg hc] at h
        refine zw_push hm_89 dX7_thingFrom_11 (v := .inr (.inr (some 69))) rfl ?_
        refine zw_gf hm_89 dX7_thingFrom_12 (v := .inr (.inr (some 71))) (zT_is hS s_69) (zT_t hS s_69) rfl f_7_17_7 (zT_f hS r_69_1) ?_
        refine zw_push hm_89 dX7_thingFrom_15 (v := .inl l2) rfl ?_
        obtain ⟨hg, h⟩ := h
        refine zw_ia hm_89 dX7_thingFrom_16 (zT_is hS s_71) (zT_h hS s_71) rfl hg ?_
        show ma_wp X (d - 1) (w - 22) 89 17 [(0, .inr (.inr (some 69))), (1, .inl l2)] [.inl (mI S 71 l2.toNatClampNeg)] S _
        refine zw_goto hm_89 dX7_thingFrom_17 (t := 21) rfl ?_
        refine zw_sto hm_89 dX7_thingFrom_21 [(2, .inl (mI S 71 l2.toNatClampNeg)), (0, .inr (.inr (some 69))), (1, .inl l2)] rfl rfl rfl ?_
        refine zw_push hm_89 dX7_thingFrom_22 (v := .inl (mI S 71 l2.toNatClampNeg)) rfl ?_
        refine zw_if0 hm_89 dX7_thingFrom_23 (t := 42) rfl zc0_lt ?_ ?_
        · intro hc
          rw [if_pos hc] at h
          refine zw_push hm_89 dX7_thingFrom_42 (v := .inr (.inr none)) rfl ?_
          refine zw_aret hm_89 dX7_thingFrom_43 ?_
          show ma_wp X d w 49 28 [(0, .inr (.inr (some 91))), (1, .inl l1), (2, .inl l2), (3, .inl l3)] [.inr (.inr none)] S _
          refine zw_sto hm_49 dX4_moveAll_28 [(4, .inr (.inr none)), (0, .inr (.inr (some 91))), (1, .inl l1), (2, .inl l2), (3, .inl l3)] rfl rfl rfl ?_
          refine zw_push hm_49 dX4_moveAll_30 (v := .inr (.inr none)) rfl ?_
          refine zw_ifnonnull hm_49 dX4_moveAll_32 (t := 41) rfl (fun _ => ?_) (fun _ z => by cases z)
          refine zw_sto hm_49 dX4_moveAll_35 [(2, .inl (l2 + (1 : Int32))), (4, .inr (.inr none)), (0, .inr (.inr (some 91))), (1, .inl l1), (3, .inl l3)] rfl rfl rfl ?_
          refine zw_goto hm_49 dX4_moveAll_38 (t := 60) rfl ?_
          refine zw_goto hm_49 dX4_moveAll_60 (t := 15) rfl ?_
          exact zw_sub (ma_nd_of (ks := [0, 1, 2, 3]) rfl (by decide)) (ma_nd_of (ks := [2, 4, 0, 1, 3]) rfl (by decide)) (ma_le_cons rfl (ma_le_cons rfl (ma_le_cons rfl (ma_le_cons rfl (ma_le_nil _))))) h
        · intro hc
          rw [if_neg hc] at h
          refine zw_push hm_89 dX7_thingFrom_26 (v := .inl (mI S 71 l2.toNatClampNeg)) rfl ?_
          refine zw_push hm_89 dX7_thingFrom_27 (v := .inl (512 : Int32)) rfl ?_
          refine zw_if2 hm_89 dX7_thingFrom_30 (t := 42) rfl zc2_ge ?_ ?_
          · intro hc
            rw [if_pos hc] at h
            refine zw_push hm_89 dX7_thingFrom_42 (v := .inr (.inr none)) rfl ?_
            refine zw_aret hm_89 dX7_thingFrom_43 ?_
            show ma_wp X d w 49 28 [(0, .inr (.inr (some 91))), (1, .inl l1), (2, .inl l2), (3, .inl l3)] [.inr (.inr none)] S _
            refine zw_sto hm_49 dX4_moveAll_28 [(4, .inr (.inr none)), (0, .inr (.inr (some 91))), (1, .inl l1), (2, .inl l2), (3, .inl l3)] rfl rfl rfl ?_
            refine zw_push hm_49 dX4_moveAll_30 (v := .inr (.inr none)) rfl ?_
            refine zw_ifnonnull hm_49 dX4_moveAll_32 (t := 41) rfl (fun _ => ?_) (fun _ z => by cases z)
            refine zw_sto hm_49 dX4_moveAll_35 [(2, .inl (l2 + (1 : Int32))), (4, .inr (.inr none)), (0, .inr (.inr (some 91))), (1, .inl l1), (3, .inl l3)] rfl rfl rfl ?_
            refine zw_goto hm_49 dX4_moveAll_38 (t := 60) rfl ?_
            refine zw_goto hm_49 dX4_moveAll_60 (t := 15) rfl ?_
            exact zw_sub (ma_nd_of (ks := [0, 1, 2, 3]) rfl (by decide)) (ma_nd_of (ks := [2, 4, 0, 1, 3]) rfl (by decide)) (ma_le_cons rfl (ma_le_cons rfl (ma_le_cons rfl (ma_le_cons rfl (ma_le_nil _))))) h
          · intro hc
            rw [if_neg hc] at h
            refine zw_push hm_89 dX7_thingFrom_33 (v := .inr (.inr (some 69))) rfl ?_
            refine zw_gf hm_89 dX7_thingFrom_34 (v := .inr (.inr (some 70))) (zT_is hS s_69) (zT_t hS s_69) rfl f_7_11_7 (zT_f hS r_69_0) ?_
            refine zw_push hm_89 dX7_thingFrom_37 (v := .inl (mI S 71 l2.toNatClampNeg)) rfl ?_
            obtain ⟨hg, h⟩ := h
            refine zw_aa hm_89 dX7_thingFrom_38 (zT_is hS s_70) (zT_h hS s_70) rfl rfl hg rfl ?_
            show ma_wp X (d - 1) (w - 22) 89 39 [(2, .inl (mI S 71 l2.toNatClampNeg)), (0, .inr (.inr (some 69))), (1, .inl l2)] [.inr (.inr (mR S 70 (mI S 71 l2.toNatClampNeg).toNatClampNeg))] S _
            refine zw_goto hm_89 dX7_thingFrom_39 (t := 43) rfl ?_
            refine zw_aret hm_89 dX7_thingFrom_43 ?_
            show ma_wp X d w 49 28 [(0, .inr (.inr (some 91))), (1, .inl l1), (2, .inl l2), (3, .inl l3)] [.inr (.inr (mR S 70 (mI S 71 l2.toNatClampNeg).toNatClampNeg))] S _
            refine zw_sto hm_49 dX4_moveAll_28 [(4, .inr (.inr (mR S 70 (mI S 71 l2.toNatClampNeg).toNatClampNeg))), (0, .inr (.inr (some 91))), (1, .inl l1), (2, .inl l2), (3, .inl l3)] rfl rfl rfl ?_
            refine zw_push hm_49 dX4_moveAll_30 (v := .inr (.inr (mR S 70 (mI S 71 l2.toNatClampNeg).toNatClampNeg))) rfl ?_
            refine zw_ifnonnull hm_49 dX4_moveAll_32 (t := 41) rfl ?_ ?_
            · intro hc
              have h := h.1 hc
              (try rw [hc])
              show ma_wp X d w 49 35 [(4, .inr (.inr none)), (0, .inr (.inr (some 91))), (1, .inl l1), (2, .inl l2), (3, .inl l3)] [] S _
              refine zw_sto hm_49 dX4_moveAll_35 [(2, .inl (l2 + (1 : Int32))), (4, .inr (.inr none)), (0, .inr (.inr (some 91))), (1, .inl l1), (3, .inl l3)] rfl rfl rfl ?_
              refine zw_goto hm_49 dX4_moveAll_38 (t := 60) rfl ?_
              refine zw_goto hm_49 dX4_moveAll_60 (t := 15) rfl ?_
              exact zw_sub (ma_nd_of (ks := [0, 1, 2, 3]) rfl (by decide)) (ma_nd_of (ks := [2, 4, 0, 1, 3]) rfl (by decide)) (ma_le_cons rfl (ma_le_cons rfl (ma_le_cons rfl (ma_le_cons rfl (ma_le_nil _))))) h
            · intro c1 hc
              have h := h.2 c1 hc
              (try rw [hc])
              show ma_wp X d w 49 41 [(4, .inr (.inr (some c1))), (0, .inr (.inr (some 91))), (1, .inl l1), (2, .inl l2), (3, .inl l3)] [] S _
              refine zw_push hm_49 dX4_moveAll_41 (v := .inl l2) rfl ?_
              refine zw_push hm_49 dX4_moveAll_42 (v := .inr (.inr (some c1))) rfl ?_
              obtain ⟨hg, h⟩ := h
              refine zw_gf hm_49 dX4_moveAll_44 (v := .inl (mI S c1 2)) (zT_tis hS hg) (zT_tt hS hg) rfl f_4_63_9 rfl ?_
              refine zw_stk hm_49 dX4_moveAll_47 (st₉ := [.inl (l2 + (mI S c1 2))]) rfl rfl ?_
              refine zw_sto hm_49 dX4_moveAll_48 [(2, .inl (l2 + (mI S c1 2))), (4, .inr (.inr (some c1))), (0, .inr (.inr (some 91))), (1, .inl l1), (3, .inl l3)] rfl rfl rfl ?_
              refine zw_push hm_49 dX4_moveAll_49 (v := .inr (.inr (some 91))) rfl ?_
              refine zw_push hm_49 dX4_moveAll_50 (v := .inr (.inr (some c1))) rfl ?_
              refine zw_cv hm_49 dX4_moveAll_52 v_4_123_4 hm_51 [.inr (.inr (some c1))] [] rfl (zT_rt hS s_91 rfl) ⟨by omega, by omega⟩ rfl (zw_mono h (zi_go ?_ ?_))
              · intro v3 S2 hv
                obtain ⟨hS2, h⟩ := hv
                refine zw_if0 hm_49 dX4_moveAll_55 (t := 60) rfl zc0_ne ?_ ?_
                · intro hc
                  rw [if_neg hc] at h
                  refine zw_goto hm_49 dX4_moveAll_60 (t := 15) rfl ?_
                  exact zw_sub (ma_nd_of (ks := [0, 1, 2, 3]) rfl (by decide)) (ma_nd_of (ks := [2, 4, 0, 1, 3]) rfl (by decide)) (ma_le_cons rfl (ma_le_cons rfl (ma_le_cons rfl (ma_le_cons rfl (ma_le_nil _))))) h
                · intro hc
                  rw [if_pos (Classical.not_not.mp hc)] at h
                  refine zw_push hm_49 dX4_moveAll_58 (v := .inl (0 : Int32)) rfl ?_
                  exact zw_bret hm_49 dX4_moveAll_59 (by decide) h
              · intro x S9 hx
                exact ⟨by decide, hx⟩
theorem lp_49_91_sz_15 {X : Nat × (Nat → Int32)} {d w : Nat} {f : Nat → Nat → Int32} {r : Nat → Nat → Option Nat} {C Z N : Nat} {Q : Option ma_V ⊕ Nat → ma_S → Prop} {ab : Nat→Nat→Int32} {tg : Int} {r1 : Int32} (hd : 3 ≤ d) (hw : 136 ≤ w) (K : ∀ v S₉, zL91 f r C Z N S₉ → (v = 0 ∨ v = 1) → (xB S₉ (mR S₉ 70)) → ((v = 1 ∧ (rM2 ab r1.toInt tg).2.2 = true ∧ aZ S₉ = ma_u (ma_u (rM2 ab r1.toInt tg).1 93 r1.toInt.toNat 0) 92 r1.toInt.toNat 0 ∧ (mI S₉ 91 6).toInt = (rM2 ab r1.toInt tg).2.1 ∧ qRv (aZ S₉) ∧ qLv (aZ S₉) (mI S₉ 91 6).toInt) ∨ (v = 0 ∧ (rM2 ab r1.toInt tg).2.2 = false ∧ aZ S₉ = (rM2 ab r1.toInt tg).1 ∧ (mI S₉ 91 6).toInt = (rM2 ab r1.toInt tg).2.1 ∧ qRv (aZ S₉) ∧ qLv (aZ S₉) (mI S₉ 91 6).toInt)) → Q (.inl (some (.inl v))) S₉) : ∀ (n : Nat) (S : ma_S) (l1 : Int32) (l2 : Int32) (l3 : Int32), (l3.toInt - l2.toInt).toNat = n → zL91 f r C Z N S → (0 ≤ l1.toInt) → (l1.toInt ≤ 92) → (l1.toInt = r1.toInt) → (0 ≤ l2.toInt) → (l3.toInt ≤ 280000) → (l2.toInt ≤ 300000) → (l1 = r1) → (xB S (mR S 70)) → (rMv (aZ S) l3.toInt l2.toInt (mI S 91 6).toInt = rM2 ab r1.toInt tg) → (qJr (aZ S) r1.toInt l2.toInt (mI S 91 6).toInt) → (qLv (aZ S) (mI S 91 6).toInt) → (l3.toInt = r1.toInt * (aZ S 87 3).toInt + (aZ S 92 r1.toInt.toNat).toInt) → ma_wp X d w 49 15 [(0, .inr (.inr (some 91))), (1, .inl l1), (2, .inl l2), (3, .inl l3)] [] S Q := by
  intro n
  induction n using Nat.strongRecOn with
  | _ n IH =>
    intro S l1 l2 l3 hmu hI  hi0 hi1 hi2 hi3 hi4 hi5 hi6 hi7 hi8 hi9 hi10 hi11
    refine g_49_91_sz_15 l1 l2 l3 (by omega) (by omega) (zG_T hI) ?_
    have f1 := zG_s hI (-1) (92) (c := 91) (k := 6) (by decide)
    have jl2 := hi9.2.2.1
    have jb := hi9.1.2.2.1
    have b2 := i_bd l3
    have b3 := i_bd l2
    refine zd (fun h4 => ?_) (fun h4 => ?_)
    · skip
      have g5 := i_le h4
      have b6 := i_bd l1
      have li7 : (0 : Int32).toInt = 0 := rfl
      refine zd (fun h8 => ?_) (fun h8 => ?_)
      · skip
        have g9 := i_lt h8
        have li10 : (1 : Int32).toInt = 1 := rfl
        exact K ((1 : Int32)) _ hI (by decide) (show xB S (mR S 70) from by first | (exact xB_x (xC_o (W := 75) hi7).2)) (show ((1 : Int32) = 1 ∧ (rM2 ab r1.toInt tg).2.2 = true ∧ aZ S = ma_u (ma_u (rM2 ab r1.toInt tg).1 93 r1.toInt.toNat 0) 92 r1.toInt.toNat 0 ∧ (mI S 91 6).toInt = (rM2 ab r1.toInt tg).2.1 ∧ qRv (aZ S) ∧ qLv (aZ S) (mI S 91 6).toInt) ∨ ((1 : Int32) = 0 ∧ (rM2 ab r1.toInt tg).2.2 = false ∧ aZ S = (rM2 ab r1.toInt tg).1 ∧ (mI S 91 6).toInt = (rM2 ab r1.toInt tg).2.1 ∧ qRv (aZ S) ∧ qLv (aZ S) (mI S 91 6).toInt) from by first | (exfalso; omega))
      · skip
        have g11 := i_nlt h8
        have li12 : (93 : Int32).toInt = 93 := rfl
        refine zd (fun h13 => ?_) (fun h13 => ?_)
        · skip
          have g14 := i_le h13
          have li15 : (1 : Int32).toInt = 1 := rfl
          exact K ((1 : Int32)) _ hI (by decide) (show xB S (mR S 70) from by first | (exact xB_x (xC_o (W := 75) hi7).2)) (show ((1 : Int32) = 1 ∧ (rM2 ab r1.toInt tg).2.2 = true ∧ aZ S = ma_u (ma_u (rM2 ab r1.toInt tg).1 93 r1.toInt.toNat 0) 92 r1.toInt.toNat 0 ∧ (mI S 91 6).toInt = (rM2 ab r1.toInt tg).2.1 ∧ qRv (aZ S) ∧ qLv (aZ S) (mI S 91 6).toInt) ∨ ((1 : Int32) = 0 ∧ (rM2 ab r1.toInt tg).2.2 = false ∧ aZ S = (rM2 ab r1.toInt tg).1 ∧ (mI S 91 6).toInt = (rM2 ab r1.toInt tg).2.1 ∧ qRv (aZ S) ∧ qLv (aZ S) (mI S 91 6).toInt) from by first | (exfalso; omega))
        · skip
          have g16 := i_nle h13
          refine ⟨i_ix (by omega) (by omega), ?_⟩
          refine ⟨i_ix (by omega) (by omega), ?_⟩
          have hI17 : zL91 f r C Z N (ma_put S 93 l1.toNatClampNeg (.inl (0 : Int32))) := zG_fa hI rfl (by decide) (by decide) (by decide) trivial
          have hI18 : zL91 f r C Z N (ma_put (ma_put S 93 l1.toNatClampNeg (.inl (0 : Int32))) 92 l1.toNatClampNeg (.inl (0 : Int32))) := zG_sa hI17 (0) (3000) rfl (by decide) (by decide) (by decide) trivial (by omega) (by omega)
          have li19 : (1 : Int32).toInt = 1 := rfl
          exact K ((1 : Int32)) _ hI18 (by decide) (show xB (ma_put (ma_put S 93 l1.toNatClampNeg (.inl (0 : Int32))) 92 l1.toNatClampNeg (.inl (0 : Int32))) (mR (ma_put (ma_put S 93 l1.toNatClampNeg (.inl (0 : Int32))) 92 l1.toNatClampNeg (.inl (0 : Int32))) 70) from by first | (exact xB_x (xC_n (c := 92) (k := l1.toNatClampNeg) (x := (0 : Int32)) (xC_n (c := 93) (k := l1.toNatClampNeg) (x := (0 : Int32)) (xC_o (W := 75) hi7) ⟨by decide, Or.inl ⟨rfl, rfl⟩⟩) ⟨by decide, Or.inl ⟨rfl, rfl⟩⟩).2)) (show ((1 : Int32) = 1 ∧ (rM2 ab r1.toInt tg).2.2 = true ∧ aZ (ma_put (ma_put S 93 l1.toNatClampNeg (.inl (0 : Int32))) 92 l1.toNatClampNeg (.inl (0 : Int32))) = ma_u (ma_u (rM2 ab r1.toInt tg).1 93 r1.toInt.toNat 0) 92 r1.toInt.toNat 0 ∧ (mI S 91 6).toInt = (rM2 ab r1.toInt tg).2.1 ∧ qRv (aZ (ma_put (ma_put S 93 l1.toNatClampNeg (.inl (0 : Int32))) 92 l1.toNatClampNeg (.inl (0 : Int32)))) ∧ qLv (aZ (ma_put (ma_put S 93 l1.toNatClampNeg (.inl (0 : Int32))) 92 l1.toNatClampNeg (.inl (0 : Int32)))) (mI S 91 6).toInt) ∨ ((1 : Int32) = 0 ∧ (rM2 ab r1.toInt tg).2.2 = false ∧ aZ (ma_put (ma_put S 93 l1.toNatClampNeg (.inl (0 : Int32))) 92 l1.toNatClampNeg (.inl (0 : Int32))) = (rM2 ab r1.toInt tg).1 ∧ (mI S 91 6).toInt = (rM2 ab r1.toInt tg).2.1 ∧ qRv (aZ (ma_put (ma_put S 93 l1.toNatClampNeg (.inl (0 : Int32))) 92 l1.toNatClampNeg (.inl (0 : Int32)))) ∧ qLv (aZ (ma_put (ma_put S 93 l1.toNatClampNeg (.inl (0 : Int32))) 92 l1.toNatClampNeg (.inl (0 : Int32)))) (mI S 91 6).toInt) from by first | (have e3 := hi11; have z := (Mv_e (a := aZ S) (e := l3.toInt) (p := l2.toInt) (t := (mI S 91 6).toInt) (by omega)).symm.trans hi8; have rn : r1.toInt.toNat = l1.toNatClampNeg := (by rw [hi6]; rfl); refine Or.inl ⟨rfl, by rw [← z], by rw [← z, ((Z_p9 (c := 92) (n := l1.toNatClampNeg) (x := (0 : Int32)) (xC_n (c := 93) (k := l1.toNatClampNeg) (x := (0 : Int32)) (xC_o (W := 75) hi7) ⟨by decide, Or.inl ⟨rfl, rfl⟩⟩).2 (by decide)).trans (congrArg (fun q => ma_u q 92 l1.toNatClampNeg (0 : Int32)) ((Z_p9 (c := 93) (n := l1.toNatClampNeg) (x := (0 : Int32)) (xC_o (W := 75) hi7).2 (by decide)).trans (congrArg (fun q => ma_u q 93 l1.toNatClampNeg (0 : Int32)) (show aZ S = aZ S from rfl))))), rn], by rw [← z], ?_, ?_⟩; (rw [((Z_p9 (c := 92) (n := l1.toNatClampNeg) (x := (0 : Int32)) (xC_n (c := 93) (k := l1.toNatClampNeg) (x := (0 : Int32)) (xC_o (W := 75) hi7) ⟨by decide, Or.inl ⟨rfl, rfl⟩⟩).2 (by decide)).trans (congrArg (fun q => ma_u q 92 l1.toNatClampNeg (0 : Int32)) ((Z_p9 (c := 93) (n := l1.toNatClampNeg) (x := (0 : Int32)) (xC_o (W := 75) hi7).2 (by decide)).trans (congrArg (fun q => ma_u q 93 l1.toNatClampNeg (0 : Int32)) (show aZ S = aZ S from rfl))))), ← rn]; exact Jr_en2 hi9 (by omega)); (rw [((Z_p9 (c := 92) (n := l1.toNatClampNeg) (x := (0 : Int32)) (xC_n (c := 93) (k := l1.toNatClampNeg) (x := (0 : Int32)) (xC_o (W := 75) hi7) ⟨by decide, Or.inl ⟨rfl, rfl⟩⟩).2 (by decide)).trans (congrArg (fun q => ma_u q 92 l1.toNatClampNeg (0 : Int32)) ((Z_p9 (c := 93) (n := l1.toNatClampNeg) (x := (0 : Int32)) (xC_o (W := 75) hi7).2 (by decide)).trans (congrArg (fun q => ma_u q 93 l1.toNatClampNeg (0 : Int32)) (show aZ S = aZ S from rfl))))), ← rn]; exact Lv_end hi10 (by omega))))
    · skip
      have g20 := i_nle h4
      have li21 : (0 : Int32).toInt = 0 := rfl
      refine zd (fun h22 => ?_) (fun h22 => ?_)
      · skip
        have g23 := i_lt h22
        have b24 := i_bd l1
        first | have e25 : (l2 + (1 : Int32)).toInt = l2.toInt + (1) := i_addk rfl (by omega) (by omega) | have b26 := i_bd (l2 + (1 : Int32))
        exact IH _ (by omega) _ (l1) ((l2 + (1 : Int32))) (l3) rfl hI (by omega) (by omega) (by omega) (by omega) (by omega) (by omega) (show (l1) = r1 from by first | (exact rfl) | (exact hi6)) (show xB S (mR S 70) from by first | (exact xB_x (xC_o (W := 75) hi7).2)) (show rMv (aZ S) (l3).toInt ((l2 + (1 : Int32))).toInt (mI S 91 6).toInt = rM2 ab r1.toInt tg from by first | (have e3 := hi11; have o := (ob_n1 (a := aZ S) (p := l2.toInt) (by omega)); rw [show (l2 + (1 : Int32)).toInt = l2.toInt + 1 from by omega]; exact (Mv_fr (S1_I hi9.1.1) (by omega) (ob_neg o)).symm.trans hi8) | (have e3 := hi11; have o := (zz_n2 (S := S) (x := l2) (by omega)); rw [show (l2 + (1 : Int32)).toInt = l2.toInt + 1 from by omega]; exact (Mv_fr (S1_I hi9.1.1) (by omega) (ob_neg o)).symm.trans hi8)) (show qJr (aZ S) r1.toInt ((l2 + (1 : Int32))).toInt (mI S 91 6).toInt from by first | (have e3 := hi11; have o := (ob_n1 (a := aZ S) (p := l2.toInt) (by omega)); rw [show (l2 + (1 : Int32)).toInt = l2.toInt + 1 from by omega]; exact Jr_fr hi9 (by omega) (ob_neg o)) | (have e3 := hi11; have o := (zz_n2 (S := S) (x := l2) (by omega)); rw [show (l2 + (1 : Int32)).toInt = l2.toInt + 1 from by omega]; exact Jr_fr hi9 (by omega) (ob_neg o))) (show qLv (aZ S) (mI S 91 6).toInt from by first | (exact hi10)) (show (l3).toInt = r1.toInt * (aZ S 87 3).toInt + (aZ S 92 r1.toInt.toNat).toInt from by first | (exact hi11))
      · skip
        have g27 := i_nlt h22
        have li28 : (4500 : Int32).toInt = 4500 := rfl
        refine zd (fun h29 => ?_) (fun h29 => ?_)
        · skip
          have g30 := i_le h29
          have b31 := i_bd l1
          first | have e32 : (l2 + (1 : Int32)).toInt = l2.toInt + (1) := i_addk rfl (by omega) (by omega) | have b33 := i_bd (l2 + (1 : Int32))
          exact IH _ (by omega) _ (l1) ((l2 + (1 : Int32))) (l3) rfl hI (by omega) (by omega) (by omega) (by omega) (by omega) (by omega) (show (l1) = r1 from by first | (exact rfl) | (exact hi6)) (show xB S (mR S 70) from by first | (exact xB_x (xC_o (W := 75) hi7).2)) (show rMv (aZ S) (l3).toInt ((l2 + (1 : Int32))).toInt (mI S 91 6).toInt = rM2 ab r1.toInt tg from by first | (have e3 := hi11; have o := (ob_n1 (a := aZ S) (p := l2.toInt) (by omega)); rw [show (l2 + (1 : Int32)).toInt = l2.toInt + 1 from by omega]; exact (Mv_fr (S1_I hi9.1.1) (by omega) (ob_neg o)).symm.trans hi8) | (have e3 := hi11; have o := (zz_n2 (S := S) (x := l2) (by omega)); rw [show (l2 + (1 : Int32)).toInt = l2.toInt + 1 from by omega]; exact (Mv_fr (S1_I hi9.1.1) (by omega) (ob_neg o)).symm.trans hi8)) (show qJr (aZ S) r1.toInt ((l2 + (1 : Int32))).toInt (mI S 91 6).toInt from by first | (have e3 := hi11; have o := (ob_n1 (a := aZ S) (p := l2.toInt) (by omega)); rw [show (l2 + (1 : Int32)).toInt = l2.toInt + 1 from by omega]; exact Jr_fr hi9 (by omega) (ob_neg o)) | (have e3 := hi11; have o := (zz_n2 (S := S) (x := l2) (by omega)); rw [show (l2 + (1 : Int32)).toInt = l2.toInt + 1 from by omega]; exact Jr_fr hi9 (by omega) (ob_neg o))) (show qLv (aZ S) (mI S 91 6).toInt from by first | (exact hi10)) (show (l3).toInt = r1.toInt * (aZ S 87 3).toInt + (aZ S 92 r1.toInt.toNat).toInt from by first | (exact hi11))
        · skip
          have g34 := i_nle h29
          refine ⟨i_ix (by omega) (by omega), ?_⟩
          have b35 := i_bd (mI S 71 l2.toNatClampNeg)
          refine zd (fun h36 => ?_) (fun h36 => ?_)
          · skip
            have g37 := i_lt h36
            have b38 := i_bd l1
            first | have e39 : (l2 + (1 : Int32)).toInt = l2.toInt + (1) := i_addk rfl (by omega) (by omega) | have b40 := i_bd (l2 + (1 : Int32))
            exact IH _ (by omega) _ (l1) ((l2 + (1 : Int32))) (l3) rfl hI (by omega) (by omega) (by omega) (by omega) (by omega) (by omega) (show (l1) = r1 from by first | (exact rfl) | (exact hi6)) (show xB S (mR S 70) from by first | (exact xB_x (xC_o (W := 75) hi7).2)) (show rMv (aZ S) (l3).toInt ((l2 + (1 : Int32))).toInt (mI S 91 6).toInt = rM2 ab r1.toInt tg from by first | (have e3 := hi11; have o := (ob_n1 (a := aZ S) (p := l2.toInt) (by omega)); rw [show (l2 + (1 : Int32)).toInt = l2.toInt + 1 from by omega]; exact (Mv_fr (S1_I hi9.1.1) (by omega) (ob_neg o)).symm.trans hi8) | (have e3 := hi11; have o := (zz_n2 (S := S) (x := l2) (by omega)); rw [show (l2 + (1 : Int32)).toInt = l2.toInt + 1 from by omega]; exact (Mv_fr (S1_I hi9.1.1) (by omega) (ob_neg o)).symm.trans hi8)) (show qJr (aZ S) r1.toInt ((l2 + (1 : Int32))).toInt (mI S 91 6).toInt from by first | (have e3 := hi11; have o := (ob_n1 (a := aZ S) (p := l2.toInt) (by omega)); rw [show (l2 + (1 : Int32)).toInt = l2.toInt + 1 from by omega]; exact Jr_fr hi9 (by omega) (ob_neg o)) | (have e3 := hi11; have o := (zz_n2 (S := S) (x := l2) (by omega)); rw [show (l2 + (1 : Int32)).toInt = l2.toInt + 1 from by omega]; exact Jr_fr hi9 (by omega) (ob_neg o))) (show qLv (aZ S) (mI S 91 6).toInt from by first | (exact hi10)) (show (l3).toInt = r1.toInt * (aZ S 87 3).toInt + (aZ S 92 r1.toInt.toNat).toInt from by first | (exact hi11))
          · skip
            have g41 := i_nlt h36
            have li42 : (512 : Int32).toInt = 512 := rfl
            refine zd (fun h43 => ?_) (fun h43 => ?_)
            · skip
              have g44 := i_le h43
              have b45 := i_bd l1
              first | have e46 : (l2 + (1 : Int32)).toInt = l2.toInt + (1) := i_addk rfl (by omega) (by omega) | have b47 := i_bd (l2 + (1 : Int32))
              exact IH _ (by omega) _ (l1) ((l2 + (1 : Int32))) (l3) rfl hI (by omega) (by omega) (by omega) (by omega) (by omega) (by omega) (show (l1) = r1 from by first | (exact rfl) | (exact hi6)) (show xB S (mR S 70) from by first | (exact xB_x (xC_o (W := 75) hi7).2)) (show rMv (aZ S) (l3).toInt ((l2 + (1 : Int32))).toInt (mI S 91 6).toInt = rM2 ab r1.toInt tg from by first | (have e3 := hi11; have o := (ob_n1 (a := aZ S) (p := l2.toInt) (by omega)); rw [show (l2 + (1 : Int32)).toInt = l2.toInt + 1 from by omega]; exact (Mv_fr (S1_I hi9.1.1) (by omega) (ob_neg o)).symm.trans hi8) | (have e3 := hi11; have o := (zz_n2 (S := S) (x := l2) (by omega)); rw [show (l2 + (1 : Int32)).toInt = l2.toInt + 1 from by omega]; exact (Mv_fr (S1_I hi9.1.1) (by omega) (ob_neg o)).symm.trans hi8)) (show qJr (aZ S) r1.toInt ((l2 + (1 : Int32))).toInt (mI S 91 6).toInt from by first | (have e3 := hi11; have o := (ob_n1 (a := aZ S) (p := l2.toInt) (by omega)); rw [show (l2 + (1 : Int32)).toInt = l2.toInt + 1 from by omega]; exact Jr_fr hi9 (by omega) (ob_neg o)) | (have e3 := hi11; have o := (zz_n2 (S := S) (x := l2) (by omega)); rw [show (l2 + (1 : Int32)).toInt = l2.toInt + 1 from by omega]; exact Jr_fr hi9 (by omega) (ob_neg o))) (show qLv (aZ S) (mI S 91 6).toInt from by first | (exact hi10)) (show (l3).toInt = r1.toInt * (aZ S 87 3).toInt + (aZ S 92 r1.toInt.toNat).toInt from by first | (exact hi11))
            · skip
              have g48 := i_nle h43
              refine ⟨i_ix (by omega) (by omega), ?_⟩
              refine ⟨fun hc => ?_, fun c1 hc => ?_⟩
              · skip
                have rn_c1 : zTa (mR S 70) (mI S 71 l2.toNatClampNeg) = none := (ta_rd (y := (mI S 71 l2.toNatClampNeg)) hi7 (by omega) (by omega)).symm.trans hc
                have b49 := i_bd l1
                first | have e50 : (l2 + (1 : Int32)).toInt = l2.toInt + (1) := i_addk rfl (by omega) (by omega) | have b51 := i_bd (l2 + (1 : Int32))
                exact IH _ (by omega) _ (l1) ((l2 + (1 : Int32))) (l3) rfl hI (by omega) (by omega) (by omega) (by omega) (by omega) (by omega) (show (l1) = r1 from by first | (exact rfl) | (exact hi6)) (show xB S (mR S 70) from by first | (exact xB_x (xC_o (W := 75) hi7).2)) (show rMv (aZ S) (l3).toInt ((l2 + (1 : Int32))).toInt (mI S 91 6).toInt = rM2 ab r1.toInt tg from by first | (have e3 := hi11; have o := (zz_n3 (x := l2) hi7 rn_c1); rw [show (l2 + (1 : Int32)).toInt = l2.toInt + 1 from by omega]; exact (Mv_fr (S1_I hi9.1.1) (by omega) (ob_neg o)).symm.trans hi8)) (show qJr (aZ S) r1.toInt ((l2 + (1 : Int32))).toInt (mI S 91 6).toInt from by first | (have e3 := hi11; have o := (zz_n3 (x := l2) hi7 rn_c1); rw [show (l2 + (1 : Int32)).toInt = l2.toInt + 1 from by omega]; exact Jr_fr hi9 (by omega) (ob_neg o))) (show qLv (aZ S) (mI S 91 6).toInt from by first | (exact hi10)) (show (l3).toInt = r1.toInt * (aZ S 87 3).toInt + (aZ S 92 r1.toInt.toNat).toInt from by first | (exact hi11))
              · skip
                have th_c1 := (fun _ z => zG_70 hI (c := 70) (by decide) z) c1 hc
                have rg_c1 : zTa (mR S 70) (mI S 71 l2.toNatClampNeg) = some c1 := (ta_rd (y := (mI S 71 l2.toNatClampNeg)) hi7 (by omega) (by omega)).symm.trans hc
                refine ⟨zG_n hI th_c1, ?_⟩
                refine sp_51_91_sz (ab := (aZ S)) (y := ((mI S 71 l2.toNatClampNeg))) (qq := r1.toInt) (pp := l2.toInt) (tg := (mI S 91 6).toInt) c1 (by omega) (by omega) hI th_c1 (show xB S (mR S 70) from by first | (exact xB_x (xC_o (W := 75) hi7).2)) (show aZ S = (aZ S) from by first | (exact rfl)) (show zTa (mR S 70) ((mI S 71 l2.toNatClampNeg)) = some c1 from by first | (exact rg_c1)) (show qMo (aZ S) r1.toInt l2.toInt (mI S 91 6).toInt ((mI S 71 l2.toNatClampNeg)) from by first | (have o := zz_y (x := l2) hi7 rg_c1 (by omega) (by omega); have ty := xB_th (W := 75) hi7 rg_c1; have ob0 : 0 ≤ (zOb (aZ S) l2.toInt).toInt := (by rw [o.1]; exact ty.1); have e3 := hi11; exact ⟨hi9, by omega, o.1, ty.1⟩)) (show (mI S 91 6).toInt = (mI S 91 6).toInt from by first | (exact rfl)) (fun v3 S2 hI_S2 hp_v3 rp0_S2 rp1_S2 => zi_n ⟨zG_T hI_S2, ?_⟩)
                have rp0_S2 : xB S2 (mR S2 70) := rp0_S2
                have f52 := zG_s hI_S2 (-1) (92) (c := 91) (k := 6) (by decide)
                have rp1_S2 : (v3 = 0 ∧ aZ S2 = (aZ S) ∧ (mI S2 91 6).toInt = (mI S 91 6).toInt ∧ rTo (aZ S) (mI S 91 6).toInt ((aZ S) 128 ((mI S 71 l2.toNatClampNeg)).toNatClampNeg).toInt = -1) ∨ (v3 = 1 ∧ rTo (aZ S) (mI S 91 6).toInt ((aZ S) 128 ((mI S 71 l2.toNatClampNeg)).toNatClampNeg).toInt ≠ -1 ∧ aZ S2 = rM1 (aZ S) ((mI S 71 l2.toNatClampNeg)).toNatClampNeg (rTo (aZ S) (mI S 91 6).toInt ((aZ S) 128 ((mI S 71 l2.toNatClampNeg)).toNatClampNeg).toInt) ∧ (mI S2 91 6).toInt = rTo (aZ S) (mI S 91 6).toInt ((aZ S) 128 ((mI S 71 l2.toNatClampNeg)).toNatClampNeg).toInt) := rp1_S2
                have b53 := i_bd v3
                refine zd (fun h54 => ?_) (fun h54 => ?_)
                · skip
                  have g55 := i_eq h54
                  exact K ((0 : Int32)) _ hI_S2 (by decide) (show xB S2 (mR S2 70) from by first | (exact xB_x (xC_o (W := 75) rp0_S2).2)) (show ((0 : Int32) = 1 ∧ (rM2 ab r1.toInt tg).2.2 = true ∧ aZ S2 = ma_u (ma_u (rM2 ab r1.toInt tg).1 93 r1.toInt.toNat 0) 92 r1.toInt.toNat 0 ∧ (mI S2 91 6).toInt = (rM2 ab r1.toInt tg).2.1 ∧ qRv (aZ S2) ∧ qLv (aZ S2) (mI S2 91 6).toInt) ∨ ((0 : Int32) = 0 ∧ (rM2 ab r1.toInt tg).2.2 = false ∧ aZ S2 = (rM2 ab r1.toInt tg).1 ∧ (mI S2 91 6).toInt = (rM2 ab r1.toInt tg).2.1 ∧ qRv (aZ S2) ∧ qLv (aZ S2) (mI S2 91 6).toInt) from by first | (have o := zz_y (x := l2) hi7 rg_c1 (by omega) (by omega); have ty := xB_th (W := 75) hi7 rg_c1; have ob0 : 0 ≤ (zOb (aZ S) l2.toInt).toInt := (by rw [o.1]; exact ty.1); have e3 := hi11; rcases rp1_S2 with w | w; (have z := Mv_no (e := l3.toInt) (t := (mI S 91 6).toInt) (by omega) ob0 (by rw [o.1]; exact w.2.2.2); rw [hi8] at z; refine Or.inr ⟨by first | rfl | assumption | exact w.1, by rw [z], by rw [z]; exact w.2.1, by rw [z]; exact w.2.2.1, ?_, ?_⟩; (rw [w.2.1]; exact hi9.1); (rw [w.2.1, w.2.2.1]; exact hi10)); (exfalso; first | exact absurd w.1 (by decide) | (have w1 := congrArg Int32.toInt w.1; have o1 : (1 : Int32).toInt = 1 := rfl; have o0 : (0 : Int32).toInt = 0 := rfl; omega))))
                · skip
                  have g56 := i_ne h54
                  have b57 := i_bd l1
                  have f58 := zG_th hI th_c1
                  first | have e59 : (l2 + (mI S c1 2)).toInt = l2.toInt + (mI S c1 2).toInt := i_add (by omega) (by omega) | have b60 := i_bd (l2 + (mI S c1 2))
                  exact IH _ (by omega) _ (l1) ((l2 + (mI S c1 2))) (l3) rfl hI_S2 (by omega) (by omega) (by omega) (by omega) (by omega) (by omega) (show (l1) = r1 from by first | (exact rfl) | (exact hi6)) (show xB S2 (mR S2 70) from by first | (exact xB_x (xC_o (W := 75) rp0_S2).2)) (show rMv (aZ S2) (l3).toInt ((l2 + (mI S c1 2))).toInt (mI S2 91 6).toInt = rM2 ab r1.toInt tg from by first | (have o := zz_y (x := l2) hi7 rg_c1 (by omega) (by omega); have ty := xB_th (W := 75) hi7 rg_c1; have ob0 : 0 ≤ (zOb (aZ S) l2.toInt).toInt := (by rw [o.1]; exact ty.1); have e3 := hi11; rcases rp1_S2 with w | w; (exfalso; have w1 := congrArg Int32.toInt w.1; have o1 : (1 : Int32).toInt = 1 := rfl; have o0 : (0 : Int32).toInt = 0 := rfl; omega); (have z := Mv_go (S1_I hi9.1.1) (e := l3.toInt) (t := (mI S 91 6).toInt) (by omega) ob0 (by rw [o.1]; exact w.2.1); rw [o.1] at z; rw [w.2.2.1, w.2.2.2]; refine Eq.trans ?_ (z.symm.trans hi8); rw [o.2]; congr 1 <;> omega))) (show qJr (aZ S2) r1.toInt ((l2 + (mI S c1 2))).toInt (mI S2 91 6).toInt from by first | (have o := zz_y (x := l2) hi7 rg_c1 (by omega) (by omega); have ty := xB_th (W := 75) hi7 rg_c1; have ob0 : 0 ≤ (zOb (aZ S) l2.toInt).toInt := (by rw [o.1]; exact ty.1); have e3 := hi11; rcases rp1_S2 with w | w; (exfalso; have w1 := congrArg Int32.toInt w.1; have o1 : (1 : Int32).toInt = 1 := rfl; have o0 : (0 : Int32).toInt = 0 := rfl; omega); (have z := Jr_go hi9 (by omega) ob0 (by rw [o.1]; exact w.2.1); rw [o.1, o.2] at z; rw [w.2.2.1, w.2.2.2, o.2]; refine (show ∀ {b : Nat → Nat → Int32} {p p2 t : Int}, qJr b r1.toInt p t → p = p2 → qJr b r1.toInt p2 t from fun h h1 => h1 ▸ h) z ?_; omega))) (show qLv (aZ S2) (mI S2 91 6).toInt from by first | (have o := zz_y (x := l2) hi7 rg_c1 (by omega) (by omega); have ty := xB_th (W := 75) hi7 rg_c1; have ob0 : 0 ≤ (zOb (aZ S) l2.toInt).toInt := (by rw [o.1]; exact ty.1); have e3 := hi11; rcases rp1_S2 with w | w; (exfalso; have w1 := congrArg Int32.toInt w.1; have o1 : (1 : Int32).toInt = 1 := rfl; have o0 : (0 : Int32).toInt = 0 := rfl; omega); (have z := Lv_go hi9 hi10 (by omega) ob0 (by rw [o.1]; exact w.2.1); rw [o.1] at z; rw [w.2.2.1, w.2.2.2]; exact z))) (show (l3).toInt = r1.toInt * (aZ S2 87 3).toInt + (aZ S2 92 r1.toInt.toNat).toInt from by first | (have o := zz_y (x := l2) hi7 rg_c1 (by omega) (by omega); have ty := xB_th (W := 75) hi7 rg_c1; have ob0 : 0 ≤ (zOb (aZ S) l2.toInt).toInt := (by rw [o.1]; exact ty.1); have e3 := hi11; rcases rp1_S2 with w | w; (exfalso; have w1 := congrArg Int32.toInt w.1; have o1 : (1 : Int32).toInt = 1 := rfl; have o0 : (0 : Int32).toInt = 0 := rfl; omega); (have z := Jr_e3 hi9 (by omega) ob0 (by rw [o.1]; exact w.2.1); rw [o.1] at z; rw [w.2.2.1]; exact e3.trans z.symm)))
theorem sp_49_91_sz {X : Nat × (Nat → Int32)} {d w : Nat} {f : Nat → Nat → Int32} {r : Nat → Nat → Option Nat} {C Z N : Nat} {Q : Option ma_V ⊕ Nat → ma_S → Prop} {ab : Nat→Nat→Int32} {tg : Int} {S : ma_S} (r1 : Int32) (hd : 3 ≤ d) (hw : 136 ≤ w) (hI : zL91 f r C Z N S) (hpre0 : 0 ≤ r1.toInt) (hpre1 : r1.toInt ≤ 92) (hpre2 : xB S (mR S 70)) (hpre3 : aZ S = ab) (hpre4 : (mI S 91 6).toInt = tg) (hpre5 : qJr ab r1.toInt (r1.toInt * (ab 87 3).toInt) tg) (hpre6 : qLv ab tg) (K : ∀ v S₉, zL91 f r C Z N S₉ → (v = 0 ∨ v = 1) → (xB S₉ (mR S₉ 70)) → ((v = 1 ∧ (rM2 ab r1.toInt tg).2.2 = true ∧ aZ S₉ = ma_u (ma_u (rM2 ab r1.toInt tg).1 93 r1.toInt.toNat 0) 92 r1.toInt.toNat 0 ∧ (mI S₉ 91 6).toInt = (rM2 ab r1.toInt tg).2.1 ∧ qRv (aZ S₉) ∧ qLv (aZ S₉) (mI S₉ 91 6).toInt) ∨ (v = 0 ∧ (rM2 ab r1.toInt tg).2.2 = false ∧ aZ S₉ = (rM2 ab r1.toInt tg).1 ∧ (mI S₉ 91 6).toInt = (rM2 ab r1.toInt tg).2.1 ∧ qRv (aZ S₉) ∧ qLv (aZ S₉) (mI S₉ 91 6).toInt)) → Q (.inl (some (.inl v))) S₉) : ma_wp X d w 49 0 [(0, .inr (.inr (some 91))), (1, .inl r1)] [] S Q := by
  refine g_49_91_sz_0 r1 (by omega) (by omega) (zG_T hI) ?_
  have b1 := i_bd r1
  have li2 : (0 : Int32).toInt = 0 := rfl
  refine zd (fun h3 => ?_) (fun h3 => ?_)
  · skip
    have g4 := i_lt h3
    have f5 := zG_s hI (0) (1500) (c := 91) (k := 2) (by decide)
    first | have f6 := i_muln (x := r1) (y := (mI S 91 2)) (by omega) (by omega) (by omega) (by omega) | have b7 := i_bd (r1 * (mI S 91 2))
    first | have e8 : ((r1 * (mI S 91 2)) + (0 : Int32)).toInt = (r1 * (mI S 91 2)).toInt + (0) := i_addk rfl (by omega) (by omega) | have b9 := i_bd ((r1 * (mI S 91 2)) + (0 : Int32))
    have f10 := zG_s hI (-1) (92) (c := 91) (k := 6) (by decide)
    exact lp_49_91_sz_15 (by omega) (by omega) K _ _ (r1) ((r1 * (mI S 91 2))) (((r1 * (mI S 91 2)) + (0 : Int32))) rfl hI (by omega) (by omega) (by omega) (by omega) (by omega) (by omega) (show (r1) = r1 from by first | (exact rfl)) (show xB S (mR S 70) from by first | (exact xB_x (xC_o (W := 75) hpre2).2)) (show rMv (aZ S) (((r1 * (mI S 91 2)) + (0 : Int32))).toInt ((r1 * (mI S 91 2))).toInt (mI S 91 6).toInt = rM2 ab r1.toInt tg from by first | (have s3 : mI S 91 2 = ab 87 3 := (by rw [← hpre3]; rfl); have i3 := congrArg Int32.toInt s3; have js := hpre5.1.2.2.1; have jr := hpre5.2.1; have mm := i_muln (x := r1) (y := mI S 91 2) (by omega) (by omega) (by omega) (by omega); have e2 : (r1 * mI S 91 2).toInt = r1.toInt * (ab 87 3).toInt := (by rw [mm.2.2, i3]); have t9 := congrArg Int32.toInt (show mI S 92 r1.toNatClampNeg = ab 92 r1.toInt.toNat from (aZ_9 (Or.inl rfl)).symm.trans (congrFun (congrFun hpre3 92) _)); have tp := (hpre5.1.2.2.2.1 r1.toInt.toNat (by omega)).1; rw [hpre3, hpre4]; exact M2_e (by omega) (by omega))) (show qJr (aZ S) r1.toInt ((r1 * (mI S 91 2))).toInt (mI S 91 6).toInt from by first | (have s3 : mI S 91 2 = ab 87 3 := (by rw [← hpre3]; rfl); have i3 := congrArg Int32.toInt s3; have js := hpre5.1.2.2.1; have jr := hpre5.2.1; have mm := i_muln (x := r1) (y := mI S 91 2) (by omega) (by omega) (by omega) (by omega); have e2 : (r1 * mI S 91 2).toInt = r1.toInt * (ab 87 3).toInt := (by rw [mm.2.2, i3]); have t9 := congrArg Int32.toInt (show mI S 92 r1.toNatClampNeg = ab 92 r1.toInt.toNat from (aZ_9 (Or.inl rfl)).symm.trans (congrFun (congrFun hpre3 92) _)); have tp := (hpre5.1.2.2.2.1 r1.toInt.toNat (by omega)).1; rw [hpre3, hpre4, e2]; exact hpre5)) (show qLv (aZ S) (mI S 91 6).toInt from by first | (rw [hpre3, hpre4]; exact hpre6)) (show (((r1 * (mI S 91 2)) + (0 : Int32))).toInt = r1.toInt * (aZ S 87 3).toInt + (aZ S 92 r1.toInt.toNat).toInt from by first | (have s3 : mI S 91 2 = ab 87 3 := (by rw [← hpre3]; rfl); have i3 := congrArg Int32.toInt s3; have js := hpre5.1.2.2.1; have jr := hpre5.2.1; have mm := i_muln (x := r1) (y := mI S 91 2) (by omega) (by omega) (by omega) (by omega); have e2 : (r1 * mI S 91 2).toInt = r1.toInt * (ab 87 3).toInt := (by rw [mm.2.2, i3]); have t9 := congrArg Int32.toInt (show mI S 92 r1.toNatClampNeg = ab 92 r1.toInt.toNat from (aZ_9 (Or.inl rfl)).symm.trans (congrFun (congrFun hpre3 92) _)); have tp := (hpre5.1.2.2.2.1 r1.toInt.toNat (by omega)).1; rw [hpre3]; omega))
  · skip
    have g11 := i_nlt h3
    have li12 : (93 : Int32).toInt = 93 := rfl
    refine zd (fun h13 => ?_) (fun h13 => ?_)
    · skip
      have g14 := i_le h13
      have f15 := zG_s hI (0) (1500) (c := 91) (k := 2) (by decide)
      first | have f16 := i_muln (x := r1) (y := (mI S 91 2)) (by omega) (by omega) (by omega) (by omega) | have b17 := i_bd (r1 * (mI S 91 2))
      first | have e18 : ((r1 * (mI S 91 2)) + (0 : Int32)).toInt = (r1 * (mI S 91 2)).toInt + (0) := i_addk rfl (by omega) (by omega) | have b19 := i_bd ((r1 * (mI S 91 2)) + (0 : Int32))
      have f20 := zG_s hI (-1) (92) (c := 91) (k := 6) (by decide)
      exact lp_49_91_sz_15 (by omega) (by omega) K _ _ (r1) ((r1 * (mI S 91 2))) (((r1 * (mI S 91 2)) + (0 : Int32))) rfl hI (by omega) (by omega) (by omega) (by omega) (by omega) (by omega) (show (r1) = r1 from by first | (exact rfl)) (show xB S (mR S 70) from by first | (exact xB_x (xC_o (W := 75) hpre2).2)) (show rMv (aZ S) (((r1 * (mI S 91 2)) + (0 : Int32))).toInt ((r1 * (mI S 91 2))).toInt (mI S 91 6).toInt = rM2 ab r1.toInt tg from by first | (have s3 : mI S 91 2 = ab 87 3 := (by rw [← hpre3]; rfl); have i3 := congrArg Int32.toInt s3; have js := hpre5.1.2.2.1; have jr := hpre5.2.1; have mm := i_muln (x := r1) (y := mI S 91 2) (by omega) (by omega) (by omega) (by omega); have e2 : (r1 * mI S 91 2).toInt = r1.toInt * (ab 87 3).toInt := (by rw [mm.2.2, i3]); have t9 := congrArg Int32.toInt (show mI S 92 r1.toNatClampNeg = ab 92 r1.toInt.toNat from (aZ_9 (Or.inl rfl)).symm.trans (congrFun (congrFun hpre3 92) _)); have tp := (hpre5.1.2.2.2.1 r1.toInt.toNat (by omega)).1; rw [hpre3, hpre4]; exact M2_e (by omega) (by omega))) (show qJr (aZ S) r1.toInt ((r1 * (mI S 91 2))).toInt (mI S 91 6).toInt from by first | (have s3 : mI S 91 2 = ab 87 3 := (by rw [← hpre3]; rfl); have i3 := congrArg Int32.toInt s3; have js := hpre5.1.2.2.1; have jr := hpre5.2.1; have mm := i_muln (x := r1) (y := mI S 91 2) (by omega) (by omega) (by omega) (by omega); have e2 : (r1 * mI S 91 2).toInt = r1.toInt * (ab 87 3).toInt := (by rw [mm.2.2, i3]); have t9 := congrArg Int32.toInt (show mI S 92 r1.toNatClampNeg = ab 92 r1.toInt.toNat from (aZ_9 (Or.inl rfl)).symm.trans (congrFun (congrFun hpre3 92) _)); have tp := (hpre5.1.2.2.2.1 r1.toInt.toNat (by omega)).1; rw [hpre3, hpre4, e2]; exact hpre5)) (show qLv (aZ S) (mI S 91 6).toInt from by first | (rw [hpre3, hpre4]; exact hpre6)) (show (((r1 * (mI S 91 2)) + (0 : Int32))).toInt = r1.toInt * (aZ S 87 3).toInt + (aZ S 92 r1.toInt.toNat).toInt from by first | (have s3 : mI S 91 2 = ab 87 3 := (by rw [← hpre3]; rfl); have i3 := congrArg Int32.toInt s3; have js := hpre5.1.2.2.1; have jr := hpre5.2.1; have mm := i_muln (x := r1) (y := mI S 91 2) (by omega) (by omega) (by omega) (by omega); have e2 : (r1 * mI S 91 2).toInt = r1.toInt * (ab 87 3).toInt := (by rw [mm.2.2, i3]); have t9 := congrArg Int32.toInt (show mI S 92 r1.toNatClampNeg = ab 92 r1.toInt.toNat from (aZ_9 (Or.inl rfl)).symm.trans (congrFun (congrFun hpre3 92) _)); have tp := (hpre5.1.2.2.2.1 r1.toInt.toNat (by omega)).1; rw [hpre3]; omega))
    · skip
      have g21 := i_nle h13
      refine ⟨i_ix (by omega) (by omega), ?_⟩
      have f22 := zG_s hI (0) (1500) (c := 91) (k := 2) (by decide)
      first | have f23 := i_muln (x := r1) (y := (mI S 91 2)) (by omega) (by omega) (by omega) (by omega) | have b24 := i_bd (r1 * (mI S 91 2))
      first | have f25 := zG_a hI 93 (0) (3000) (c := 92) (k := r1.toNatClampNeg) (by decide) (i_ix (n := 93) (by omega) (by omega)).2 | have b26 := i_bd (mI S 92 r1.toNatClampNeg)
      first | have e27 : ((r1 * (mI S 91 2)) + (mI S 92 r1.toNatClampNeg)).toInt = (r1 * (mI S 91 2)).toInt + (mI S 92 r1.toNatClampNeg).toInt := i_add (by omega) (by omega) | have b28 := i_bd ((r1 * (mI S 91 2)) + (mI S 92 r1.toNatClampNeg))
      have f29 := zG_s hI (-1) (92) (c := 91) (k := 6) (by decide)
      exact lp_49_91_sz_15 (by omega) (by omega) K _ _ (r1) ((r1 * (mI S 91 2))) (((r1 * (mI S 91 2)) + (mI S 92 r1.toNatClampNeg))) rfl hI (by omega) (by omega) (by omega) (by omega) (by omega) (by omega) (show (r1) = r1 from by first | (exact rfl)) (show xB S (mR S 70) from by first | (exact xB_x (xC_o (W := 75) hpre2).2)) (show rMv (aZ S) (((r1 * (mI S 91 2)) + (mI S 92 r1.toNatClampNeg))).toInt ((r1 * (mI S 91 2))).toInt (mI S 91 6).toInt = rM2 ab r1.toInt tg from by first | (have s3 : mI S 91 2 = ab 87 3 := (by rw [← hpre3]; rfl); have i3 := congrArg Int32.toInt s3; have js := hpre5.1.2.2.1; have jr := hpre5.2.1; have mm := i_muln (x := r1) (y := mI S 91 2) (by omega) (by omega) (by omega) (by omega); have e2 : (r1 * mI S 91 2).toInt = r1.toInt * (ab 87 3).toInt := (by rw [mm.2.2, i3]); have t9 := congrArg Int32.toInt (show mI S 92 r1.toNatClampNeg = ab 92 r1.toInt.toNat from (aZ_9 (Or.inl rfl)).symm.trans (congrFun (congrFun hpre3 92) _)); have tp := (hpre5.1.2.2.2.1 r1.toInt.toNat (by omega)).1; rw [hpre3, hpre4]; exact M2_e (by omega) (by omega))) (show qJr (aZ S) r1.toInt ((r1 * (mI S 91 2))).toInt (mI S 91 6).toInt from by first | (have s3 : mI S 91 2 = ab 87 3 := (by rw [← hpre3]; rfl); have i3 := congrArg Int32.toInt s3; have js := hpre5.1.2.2.1; have jr := hpre5.2.1; have mm := i_muln (x := r1) (y := mI S 91 2) (by omega) (by omega) (by omega) (by omega); have e2 : (r1 * mI S 91 2).toInt = r1.toInt * (ab 87 3).toInt := (by rw [mm.2.2, i3]); have t9 := congrArg Int32.toInt (show mI S 92 r1.toNatClampNeg = ab 92 r1.toInt.toNat from (aZ_9 (Or.inl rfl)).symm.trans (congrFun (congrFun hpre3 92) _)); have tp := (hpre5.1.2.2.2.1 r1.toInt.toNat (by omega)).1; rw [hpre3, hpre4, e2]; exact hpre5)) (show qLv (aZ S) (mI S 91 6).toInt from by first | (rw [hpre3, hpre4]; exact hpre6)) (show (((r1 * (mI S 91 2)) + (mI S 92 r1.toNatClampNeg))).toInt = r1.toInt * (aZ S 87 3).toInt + (aZ S 92 r1.toInt.toNat).toInt from by first | (have s3 : mI S 91 2 = ab 87 3 := (by rw [← hpre3]; rfl); have i3 := congrArg Int32.toInt s3; have js := hpre5.1.2.2.1; have jr := hpre5.2.1; have mm := i_muln (x := r1) (y := mI S 91 2) (by omega) (by omega) (by omega) (by omega); have e2 : (r1 * mI S 91 2).toInt = r1.toInt * (ab 87 3).toInt := (by rw [mm.2.2, i3]); have t9 := congrArg Int32.toInt (show mI S 92 r1.toNatClampNeg = ab 92 r1.toInt.toNat from (aZ_9 (Or.inl rfl)).symm.trans (congrFun (congrFun hpre3 92) _)); have tp := (hpre5.1.2.2.2.1 r1.toInt.toNat (by omega)).1; rw [hpre3]; omega))

