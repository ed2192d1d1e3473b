/-! regions (written by wip/tools/gen95a.py) -/
theorem g_49_91_0 {X : Nat × (Nat → Int32)} {d w : Nat} {S : ma_S} {Q : Option ma_V ⊕ Nat → ma_S → Prop} (r1 : Int32) (hd : 3 ≤ d) (hw : 114 ≤ w) (hS : zT S) (h : if r1 < 0 then (ma_wp X d w 49 15 [(0, .inr (.inr (some 91))), (1, .inl r1), (2, .inl (r1 * (mI S 91 2))), (3, .inl ((r1 * (mI S 91 2)) + (0 : Int32)))] [] S Q) else (if (93 : Int32) ≤ r1 then (ma_wp X d w 49 15 [(0, .inr (.inr (some 91))), (1, .inl r1), (2, .inl (r1 * (mI S 91 2))), (3, .inl ((r1 * (mI S 91 2)) + (0 : Int32)))] [] S Q) else ((0 ≤ r1 ∧ r1.toNatClampNeg < 93) ∧ (ma_wp X d w 49 15 [(0, .inr (.inr (some 91))), (1, .inl r1), (2, .inl (r1 * (mI S 91 2))), (3, .inl ((r1 * (mI S 91 2)) + (mI S 92 r1.toNatClampNeg)))] [] S Q)))) : ma_wp X d w 49 0 [(0, .inr (.inr (some 91))), (1, .inl r1)] [] S Q := by
  refine zw_push hm_49 dX4_moveAll_0 (v := .inl r1) rfl ?_
  refine zw_push hm_49 dX4_moveAll_1 (v := .inr (.inr (some 91))) rfl ?_
  refine zw_gf hm_49 dX4_moveAll_2 (v := .inl (mI S 91 2)) (zT_is hS s_91) (zT_t hS s_91) rfl f_4_18_4 rfl ?_
  refine zw_stk hm_49 dX4_moveAll_5 (st' := [.inl (r1 * (mI S 91 2))]) rfl rfl ?_
  refine zw_sto hm_49 dX4_moveAll_6 [(2, .inl (r1 * (mI S 91 2))), (0, .inr (.inr (some 91))), (1, .inl r1)] rfl rfl rfl ?_
  refine zw_push hm_49 dX4_moveAll_7 (v := .inl (r1 * (mI S 91 2))) rfl ?_
  refine zw_push hm_49 dX4_moveAll_8 (v := .inr (.inr (some 91))) rfl ?_
  refine zw_push hm_49 dX4_moveAll_9 (v := .inl r1) rfl ?_
  refine zw_cv hm_49 dX4_moveAll_10 v_4_93_4 hm_50 [.inl r1] [.inl (r1 * (mI S 91 2))] rfl (zT_rt hS s_91 rfl) ⟨by omega, by omega⟩ rfl ?_
  show ma_wp X (d - 1) (w - 21) 50 0 [(0, .inr (.inr (some 91))), (1, .inl r1)] [] S _
  refine zw_push hm_50 dX4_topOf_0 (v := .inl r1) rfl ?_
  refine zw_if0 hm_50 dX4_topOf_1 (t := 19) rfl zc0_lt ?_ ?_
  · intro hc
    rw [if_pos hc] at h
    refine zw_push hm_50 dX4_topOf_19 (v := .inl (0 : Int32)) rfl ?_
    refine zw_iret hm_50 dX4_topOf_20 ?_
    show ma_wp X d w 49 13 [(2, .inl (r1 * (mI S 91 2))), (0, .inr (.inr (some 91))), (1, .inl r1)] [.inl (0 : Int32), .inl (r1 * (mI S 91 2))] S _
    refine zw_stk hm_49 dX4_moveAll_13 (st' := [.inl ((r1 * (mI S 91 2)) + (0 : Int32))]) rfl rfl ?_
    refine zw_sto hm_49 dX4_moveAll_14 [(3, .inl ((r1 * (mI S 91 2)) + (0 : Int32))), (2, .inl (r1 * (mI S 91 2))), (0, .inr (.inr (some 91))), (1, .inl r1)] rfl rfl rfl ?_
    exact zw_sub (ma_nd_of (ks := [0, 1, 2, 3]) rfl (by decide)) (ma_nd_of (ks := [3, 2, 0, 1]) rfl (by decide)) (ma_le_cons rfl (ma_le_cons rfl (ma_le_cons rfl (ma_le_cons rfl (ma_le_nil _))))) h
  · intro hc
    rw [if_neg hc] at h
    refine zw_push hm_50 dX4_topOf_4 (v := .inl r1) rfl ?_
    refine zw_push hm_50 dX4_topOf_5 (v := .inl (93 : Int32)) rfl ?_
    refine zw_if2 hm_50 dX4_topOf_7 (t := 19) rfl zc2_ge ?_ ?_
    · intro hc
      rw [if_pos hc] at h
      refine zw_push hm_50 dX4_topOf_19 (v := .inl (0 : Int32)) rfl ?_
      refine zw_iret hm_50 dX4_topOf_20 ?_
      show ma_wp X d w 49 13 [(2, .inl (r1 * (mI S 91 2))), (0, .inr (.inr (some 91))), (1, .inl r1)] [.inl (0 : Int32), .inl (r1 * (mI S 91 2))] S _
      refine zw_stk hm_49 dX4_moveAll_13 (st' := [.inl ((r1 * (mI S 91 2)) + (0 : Int32))]) rfl rfl ?_
      refine zw_sto hm_49 dX4_moveAll_14 [(3, .inl ((r1 * (mI S 91 2)) + (0 : Int32))), (2, .inl (r1 * (mI S 91 2))), (0, .inr (.inr (some 91))), (1, .inl r1)] rfl rfl rfl ?_
      exact zw_sub (ma_nd_of (ks := [0, 1, 2, 3]) rfl (by decide)) (ma_nd_of (ks := [3, 2, 0, 1]) rfl (by decide)) (ma_le_cons rfl (ma_le_cons rfl (ma_le_cons rfl (ma_le_cons rfl (ma_le_nil _))))) h
    · intro hc
      rw [if_neg hc] at h
      refine zw_push hm_50 dX4_topOf_10 (v := .inr (.inr (some 91))) rfl ?_
      refine zw_gf hm_50 dX4_topOf_11 (v := .inr (.inr (some 92))) (zT_is hS s_91) (zT_t hS s_91) rfl f_4_9_4 (zT_f hS r_91_7) ?_
      refine zw_push hm_50 dX4_topOf_14 (v := .inl r1) rfl ?_
      obtain ⟨hg, h⟩ := h
      refine zw_ia hm_50 dX4_topOf_15 (zT_is hS s_92) (zT_h hS s_92) rfl hg ?_
      show ma_wp X (d - 1) (w - 21) 50 16 [(0, .inr (.inr (some 91))), (1, .inl r1)] [.inl (mI S 92 r1.toNatClampNeg)] S _
      refine zw_goto hm_50 dX4_topOf_16 (t := 20) rfl ?_
      refine zw_iret hm_50 dX4_topOf_20 ?_
      show ma_wp X d w 49 13 [(2, .inl (r1 * (mI S 91 2))), (0, .inr (.inr (some 91))), (1, .inl r1)] [.inl (mI S 92 r1.toNatClampNeg), .inl (r1 * (mI S 91 2))] S _
      refine zw_stk hm_49 dX4_moveAll_13 (st' := [.inl ((r1 * (mI S 91 2)) + (mI S 92 r1.toNatClampNeg))]) rfl rfl ?_
      refine zw_sto hm_49 dX4_moveAll_14 [(3, .inl ((r1 * (mI S 91 2)) + (mI S 92 r1.toNatClampNeg))), (2, .inl (r1 * (mI S 91 2))), (0, .inr (.inr (some 91))), (1, .inl r1)] rfl rfl rfl ?_
      exact zw_sub (ma_nd_of (ks := [0, 1, 2, 3]) rfl (by decide)) (ma_nd_of (ks := [3, 2, 0, 1]) rfl (by decide)) (ma_le_cons rfl (ma_le_cons rfl (ma_le_cons rfl (ma_le_cons rfl (ma_le_nil _))))) h
theorem g_49_91_15 {X : Nat × (Nat → Int32)} {d w : Nat} {S : ma_S} {Q : Option ma_V ⊕ Nat → ma_S → Prop} (l1 : Int32) (l2 : Int32) (l3 : Int32) (hd : 3 ≤ d) (hw : 136 ≤ w) (hS : zT S) (h : if l3 ≤ l2 then (if l1 < 0 then (Q (.inl (some (.inl (1 : Int32)))) S) else (if (93 : Int32) ≤ l1 then (Q (.inl (some (.inl (1 : Int32)))) S) else ((0 ≤ l1 ∧ l1.toNatClampNeg < 93) ∧ ((0 ≤ l1 ∧ l1.toNatClampNeg < 93) ∧ (Q (.inl (some (.inl (1 : Int32)))) (ma_put (ma_put S 93 l1.toNatClampNeg (.inl (0 : Int32))) 92 l1.toNatClampNeg (.inl (0 : Int32)))))))) else (if l2 < 0 then (ma_wp X d w 49 15 [(0, .inr (.inr (some 91))), (1, .inl l1), (2, .inl (l2 + (1 : Int32))), (3, .inl l3)] [] S Q) else (if (4500 : Int32) ≤ l2 then (ma_wp X d w 49 15 [(0, .inr (.inr (some 91))), (1, .inl l1), (2, .inl (l2 + (1 : Int32))), (3, .inl l3)] [] S Q) else ((0 ≤ l2 ∧ l2.toNatClampNeg < 4500) ∧ (if (mI S 71 l2.toNatClampNeg) < 0 then (ma_wp X d w 49 15 [(0, .inr (.inr (some 91))), (1, .inl l1), (2, .inl (l2 + (1 : Int32))), (3, .inl l3)] [] S Q) else (if (512 : Int32) ≤ (mI S 71 l2.toNatClampNeg) then (ma_wp X d w 49 15 [(0, .inr (.inr (some 91))), (1, .inl l1), (2, .inl (l2 + (1 : Int32))), (3, .inl l3)] [] S Q) else ((0 ≤ (mI S 71 l2.toNatClampNeg) ∧ (mI S 71 l2.toNatClampNeg).toNatClampNeg < 512) ∧ (((mR S 70 (mI S 71 l2.toNatClampNeg).toNatClampNeg) = none → ma_wp X d w 49 15 [(0, .inr (.inr (some 91))), (1, .inl l1), (2, .inl (l2 + (1 : Int32))), (3, .inl l3)] [] S Q) ∧ (∀ c1, (mR S 70 (mI S 71 l2.toNatClampNeg).toNatClampNeg) = some c1 → (126 ≤ c1 ∧ c1 < mN S) ∧ (ma_wp X (d - 1) (w - 22) 51 0 [(0, .inr (.inr (some 91))), (1, .inr (.inr (some c1)))] [] S (zi (fun v3 S2 => zT S2 ∧ (if v3 = 0 then (Q (.inl (some (.inl (0 : Int32)))) S2) else (ma_wp X d w 49 15 [(0, .inr (.inr (some 91))), (1, .inl l1), (2, .inl (l2 + (mI S c1 2))), (3, .inl l3)] [] S2 Q))) (fun x S9 => Q (.inr x) S9)))))))))))) : ma_wp X d w 49 15 [(0, .inr (.inr (some 91))), (1, .inl l1), (2, .inl l2), (3, .inl l3)] [] S Q := by
  refine zw_push hm_49 dX4_moveAll_15 (v := .inl l2) rfl ?_
  refine zw_push hm_49 dX4_moveAll_16 (v := .inl l3) rfl ?_
  refine zw_if2 hm_49 dX4_moveAll_17 (t := 63) rfl zc2_ge ?_ ?_
  · intro hc
    rw [if_pos hc] at h
    refine zw_push hm_49 dX4_moveAll_63 (v := .inl l1) rfl ?_
    refine zw_if0 hm_49 dX4_moveAll_64 (t := 87) rfl zc0_lt ?_ ?_
    · intro hc
      rw [if_pos hc] at h
      refine zw_push hm_49 dX4_moveAll_87 (v := .inl (1 : Int32)) rfl ?_
      exact zw_bret hm_49 dX4_moveAll_88 (by decide) h
    · intro hc
      rw [if_neg hc] at h
      refine zw_push hm_49 dX4_moveAll_67 (v := .inl l1) rfl ?_
      refine zw_push hm_49 dX4_moveAll_68 (v := .inl (93 : Int32)) rfl ?_
      refine zw_if2 hm_49 dX4_moveAll_70 (t := 87) rfl zc2_ge ?_ ?_
      · intro hc
        rw [if_pos hc] at h
        refine zw_push hm_49 dX4_moveAll_87 (v := .inl (1 : Int32)) rfl ?_
        exact zw_bret hm_49 dX4_moveAll_88 (by decide) h
      · intro hc
        rw [if_neg hc] at h
        refine zw_push hm_49 dX4_moveAll_73 (v := .inr (.inr (some 91))) rfl ?_
        refine zw_gf hm_49 dX4_moveAll_74 (v := .inr (.inr (some 93))) (zT_is hS s_91) (zT_t hS s_91) rfl f_4_15_4 (zT_f hS r_91_8) ?_
        refine zw_push hm_49 dX4_moveAll_77 (v := .inl l1) rfl ?_
        refine zw_push hm_49 dX4_moveAll_78 (v := .inl (0 : Int32)) rfl ?_
        obtain ⟨hg, h⟩ := h
        refine zw_ias hm_49 dX4_moveAll_79 (zT_is hS s_93) (zT_h hS s_93) rfl hg ?_
        refine zw_push hm_49 dX4_moveAll_80 (v := .inr (.inr (some 91))) rfl ?_
        refine zw_gf hm_49 dX4_moveAll_81 (v := .inr (.inr (some 92))) (zT_is (zT_pi hS) s_91) (zT_t (zT_pi hS) s_91) rfl f_4_9_4 (zT_f (zT_pi hS) r_91_7) ?_
        refine zw_push hm_49 dX4_moveAll_84 (v := .inl l1) rfl ?_
        refine zw_push hm_49 dX4_moveAll_85 (v := .inl (0 : Int32)) rfl ?_
        obtain ⟨hg, h⟩ := h
        refine zw_ias hm_49 dX4_moveAll_86 (zT_is (zT_pi hS) s_92) (zT_h (zT_pi hS) s_92) rfl hg ?_
        refine zw_push hm_49 dX4_moveAll_87 (v := .inl (1 : Int32)) rfl ?_
        exact zw_bret hm_49 dX4_moveAll_88 (by decide) h
  · intro hc
    rw [if_neg hc] at h
    refine zw_push hm_49 dX4_moveAll_20 (v := .inr (.inr (some 91))) rfl ?_
    refine zw_gf hm_49 dX4_moveAll_21 (v := .inr (.inr (some 69))) (zT_is hS s_91) (zT_t hS s_91) rfl f_4_100_4 (zT_f hS r_91_0) ?_
    refine zw_push hm_49 dX4_moveAll_24 (v := .inl l2) rfl ?_
    refine zw_cv hm_49 dX4_moveAll_25 v_4_120_7 hm_89 [.inl l2] [] rfl (zT_rt hS s_69 rfl) ⟨by omega, by omega⟩ rfl ?_
    show ma_wp X (d - 1) (w - 22) 89 0 [(0, .inr (.inr (some 69))), (1, .inl l2)] [] S _
    refine zw_push hm_89 dX7_thingFrom_0 (v := .inl l2) rfl ?_
    refine zw_if0 hm_89 dX7_thingFrom_1 (t := 20) rfl zc0_lt ?_ ?_
    · intro hc
      rw [if_pos hc] at h
      refine zw_push hm_89 dX7_thingFrom_20 (v := .inl (-1 : Int32)) rfl ?_
      refine zw_sto hm_89 dX7_thingFrom_21 [(2, .inl (-1 : Int32)), (0, .inr (.inr (some 69))), (1, .inl l2)] rfl rfl rfl ?_
      refine zw_push hm_89 dX7_thingFrom_22 (v := .inl (-1 : Int32)) rfl ?_
      refine zw_if0 hm_89 dX7_thingFrom_23 (t := 42) rfl zc0_lt (fun _ => ?_) (fun hc => absurd (by decide) hc)
      refine zw_push hm_89 dX7_thingFrom_42 (v := .inr (.inr none)) rfl ?_
      refine zw_aret hm_89 dX7_thingFrom_43 ?_
      show ma_wp X d w 49 28 [(0, .inr (.inr (some 91))), (1, .inl l1), (2, .inl l2), (3, .inl l3)] [.inr (.inr none)] S _
      refine zw_sto hm_49 dX4_moveAll_28 [(4, .inr (.inr none)), (0, .inr (.inr (some 91))), (1, .inl l1), (2, .inl l2), (3, .inl l3)] rfl rfl rfl ?_
      refine zw_push hm_49 dX4_moveAll_30 (v := .inr (.inr none)) rfl ?_
      refine zw_ifnonnull hm_49 dX4_moveAll_32 (t := 41) rfl (fun _ => ?_) (fun _ z => by cases z)
      refine zw_sto hm_49 dX4_moveAll_35 [(2, .inl (l2 + (1 : Int32))), (4, .inr (.inr none)), (0, .inr (.inr (some 91))), (1, .inl l1), (3, .inl l3)] rfl rfl rfl ?_
      refine zw_goto hm_49 dX4_moveAll_38 (t := 60) rfl ?_
      refine zw_goto hm_49 dX4_moveAll_60 (t := 15) rfl ?_
      exact zw_sub (ma_nd_of (ks := [0, 1, 2, 3]) rfl (by decide)) (ma_nd_of (ks := [2, 4, 0, 1, 3]) rfl (by decide)) (ma_le_cons rfl (ma_le_cons rfl (ma_le_cons rfl (ma_le_cons rfl (ma_le_nil _))))) h
    · intro hc
      rw [if_neg hc] at h
      refine zw_push hm_89 dX7_thingFrom_4 (v := .inl l2) rfl ?_
      refine zw_push hm_89 dX7_thingFrom_5 (v := .inl (4500 : Int32)) rfl ?_
      refine zw_if2 hm_89 dX7_thingFrom_8 (t := 20) rfl zc2_ge ?_ ?_
      · intro hc
        rw [if_pos hc] at h
        refine zw_push hm_89 dX7_thingFrom_20 (v := .inl (-1 : Int32)) rfl ?_
        refine zw_sto hm_89 dX7_thingFrom_21 [(2, .inl (-1 : Int32)), (0, .inr (.inr (some 69))), (1, .inl l2)] rfl rfl rfl ?_
        refine zw_push hm_89 dX7_thingFrom_22 (v := .inl (-1 : Int32)) rfl ?_
        refine zw_if0 hm_89 dX7_thingFrom_23 (t := 42) rfl zc0_lt (fun _ => ?_) (fun hc => absurd (by decide) hc)
        refine zw_push hm_89 dX7_thingFrom_42 (v := .inr (.inr none)) rfl ?_
        refine zw_aret hm_89 dX7_thingFrom_43 ?_
        show ma_wp X d w 49 28 [(0, .inr (.inr (some 91))), (1, .inl l1), (2, .inl l2), (3, .inl l3)] [.inr (.inr none)] S _
        refine zw_sto hm_49 dX4_moveAll_28 [(4, .inr (.inr none)), (0, .inr (.inr (some 91))), (1, .inl l1), (2, .inl l2), (3, .inl l3)] rfl rfl rfl ?_
        refine zw_push hm_49 dX4_moveAll_30 (v := .inr (.inr none)) rfl ?_
        refine zw_ifnonnull hm_49 dX4_moveAll_32 (t := 41) rfl (fun _ => ?_) (fun _ z => by cases z)
        refine zw_sto hm_49 dX4_moveAll_35 [(2, .inl (l2 + (1 : Int32))), (4, .inr (.inr none)), (0, .inr (.inr (some 91))), (1, .inl l1), (3, .inl l3)] rfl rfl rfl ?_
        refine zw_goto hm_49 dX4_moveAll_38 (t := 60) rfl ?_
        refine zw_goto hm_49 dX4_moveAll_60 (t := 15) rfl ?_
        exact zw_sub (ma_nd_of (ks := [0, 1, 2, 3]) rfl (by decide)) (ma_nd_of (ks := [2, 4, 0, 1, 3]) rfl (by decide)) (ma_le_cons rfl (ma_le_cons rfl (ma_le_cons rfl (ma_le_cons rfl (ma_le_nil _))))) h
      · intro hc
        rw [if_neg hc] at h
        refine zw_push hm_89 dX7_thingFrom_11 (v := .inr (.inr (some 69))) rfl ?_
        refine zw_gf hm_89 dX7_thingFrom_12 (v := .inr (.inr (some 71))) (zT_is hS s_69) (zT_t hS s_69) rfl f_7_17_7 (zT_f hS r_69_1) ?_
        refine zw_push hm_89 dX7_thingFrom_15 (v := .inl l2) rfl ?_
        obtain ⟨hg, h⟩ := h
        refine zw_ia hm_89 dX7_thingFrom_16 (zT_is hS s_71) (zT_h hS s_71) rfl hg ?_
        show ma_wp X (d - 1) (w - 22) 89 17 [(0, .inr (.inr (some 69))), (1, .inl l2)] [.inl (mI S 71 l2.toNatClampNeg)] S _
        refine zw_goto hm_89 dX7_thingFrom_17 (t := 21) rfl ?_
        refine zw_sto hm_89 dX7_thingFrom_21 [(2, .inl (mI S 71 l2.toNatClampNeg)), (0, .inr (.inr (some 69))), (1, .inl l2)] rfl rfl rfl ?_
        refine zw_push hm_89 dX7_thingFrom_22 (v := .inl (mI S 71 l2.toNatClampNeg)) rfl ?_
        refine zw_if0 hm_89 dX7_thingFrom_23 (t := 42) rfl zc0_lt ?_ ?_
        · intro hc
          rw [if_pos hc] at h
          refine zw_push hm_89 dX7_thingFrom_42 (v := .inr (.inr none)) rfl ?_
          refine zw_aret hm_89 dX7_thingFrom_43 ?_
          show ma_wp X d w 49 28 [(0, .inr (.inr (some 91))), (1, .inl l1), (2, .inl l2), (3, .inl l3)] [.inr (.inr none)] S _
          refine zw_sto hm_49 dX4_moveAll_28 [(4, .inr (.inr none)), (0, .inr (.inr (some 91))), (1, .inl l1), (2, .inl l2), (3, .inl l3)] rfl rfl rfl ?_
          refine zw_push hm_49 dX4_moveAll_30 (v := .inr (.inr none)) rfl ?_
          refine zw_ifnonnull hm_49 dX4_moveAll_32 (t := 41) rfl (fun _ => ?_) (fun _ z => by cases z)
          refine zw_sto hm_49 dX4_moveAll_35 [(2, .inl (l2 + (1 : Int32))), (4, .inr (.inr none)), (0, .inr (.inr (some 91))), (1, .inl l1), (3, .inl l3)] rfl rfl rfl ?_
          refine zw_goto hm_49 dX4_moveAll_38 (t := 60) rfl ?_
          refine zw_goto hm_49 dX4_moveAll_60 (t := 15) rfl ?_
          exact zw_sub (ma_nd_of (ks := [0, 1, 2, 3]) rfl (by decide)) (ma_nd_of (ks := [2, 4, 0, 1, 3]) rfl (by decide)) (ma_le_cons rfl (ma_le_cons rfl (ma_le_cons rfl (ma_le_cons rfl (ma_le_nil _))))) h
        · intro hc
          rw [if_neg hc] at h
          refine zw_push hm_89 dX7_thingFrom_26 (v := .inl (mI S 71 l2.toNatClampNeg)) rfl ?_
          refine zw_push hm_89 dX7_thingFrom_27 (v := .inl (512 : Int32)) rfl ?_
          refine zw_if2 hm_89 dX7_thingFrom_30 (t := 42) rfl zc2_ge ?_ ?_
          · intro hc
            rw [if_pos hc] at h
            refine zw_push hm_89 dX7_thingFrom_42 (v := .inr (.inr none)) rfl ?_
            refine zw_aret hm_89 dX7_thingFrom_43 ?_
            show ma_wp X d w 49 28 [(0, .inr (.inr (some 91))), (1, .inl l1), (2, .inl l2), (3, .inl l3)] [.inr (.inr none)] S _
            refine zw_sto hm_49 dX4_moveAll_28 [(4, .inr (.inr none)), (0, .inr (.inr (some 91))), (1, .inl l1), (2, .inl l2), (3, .inl l3)] rfl rfl rfl ?_
            refine zw_push hm_49 dX4_moveAll_30 (v := .inr (.inr none)) rfl ?_
            refine zw_ifnonnull hm_49 dX4_moveAll_32 (t := 41) rfl (fun _ => ?_) (fun _ z => by cases z)
            refine zw_sto hm_49 dX4_moveAll_35 [(2, .inl (l2 + (1 : Int32))), (4, .inr (.inr none)), (0, .inr (.inr (some 91))), (1, .inl l1), (3, .inl l3)] rfl rfl rfl ?_
            refine zw_goto hm_49 dX4_moveAll_38 (t := 60) rfl ?_
            refine zw_goto hm_49 dX4_moveAll_60 (t := 15) rfl ?_
            exact zw_sub (ma_nd_of (ks := [0, 1, 2, 3]) rfl (by decide)) (ma_nd_of (ks := [2, 4, 0, 1, 3]) rfl (by decide)) (ma_le_cons rfl (ma_le_cons rfl (ma_le_cons rfl (ma_le_cons rfl (ma_le_nil _))))) h
          · intro hc
            rw [if_neg hc] at h
            refine zw_push hm_89 dX7_thingFrom_33 (v := .inr (.inr (some 69))) rfl ?_
            refine zw_gf hm_89 dX7_thingFrom_34 (v := .inr (.inr (some 70))) (zT_is hS s_69) (zT_t hS s_69) rfl f_7_11_7 (zT_f hS r_69_0) ?_
            refine zw_push hm_89 dX7_thingFrom_37 (v := .inl (mI S 71 l2.toNatClampNeg)) rfl ?_
            obtain ⟨hg, h⟩ := h
            refine zw_aa hm_89 dX7_thingFrom_38 (zT_is hS s_70) (zT_h hS s_70) rfl rfl hg rfl ?_
            show ma_wp X (d - 1) (w - 22) 89 39 [(2, .inl (mI S 71 l2.toNatClampNeg)), (0, .inr (.inr (some 69))), (1, .inl l2)] [.inr (.inr (mR S 70 (mI S 71 l2.toNatClampNeg).toNatClampNeg))] S _
            refine zw_goto hm_89 dX7_thingFrom_39 (t := 43) rfl ?_
            refine zw_aret hm_89 dX7_thingFrom_43 ?_
            show ma_wp X d w 49 28 [(0, .inr (.inr (some 91))), (1, .inl l1), (2, .inl l2), (3, .inl l3)] [.inr (.inr (mR S 70 (mI S 71 l2.toNatClampNeg).toNatClampNeg))] S _
            refine zw_sto hm_49 dX4_moveAll_28 [(4, .inr (.inr (mR S 70 (mI S 71 l2.toNatClampNeg).toNatClampNeg))), (0, .inr (.inr (some 91))), (1, .inl l1), (2, .inl l2), (3, .inl l3)] rfl rfl rfl ?_
            refine zw_push hm_49 dX4_moveAll_30 (v := .inr (.inr (mR S 70 (mI S 71 l2.toNatClampNeg).toNatClampNeg))) rfl ?_
            refine zw_ifnonnull hm_49 dX4_moveAll_32 (t := 41) rfl ?_ ?_
            · intro hc
              have h := h.1 hc
              (try rw [hc])
              show ma_wp X d w 49 35 [(4, .inr (.inr none)), (0, .inr (.inr (some 91))), (1, .inl l1), (2, .inl l2), (3, .inl l3)] [] S _
              refine zw_sto hm_49 dX4_moveAll_35 [(2, .inl (l2 + (1 : Int32))), (4, .inr (.inr none)), (0, .inr (.inr (some 91))), (1, .inl l1), (3, .inl l3)] rfl rfl rfl ?_
              refine zw_goto hm_49 dX4_moveAll_38 (t := 60) rfl ?_
              refine zw_goto hm_49 dX4_moveAll_60 (t := 15) rfl ?_
              exact zw_sub (ma_nd_of (ks := [0, 1, 2, 3]) rfl (by decide)) (ma_nd_of (ks := [2, 4, 0, 1, 3]) rfl (by decide)) (ma_le_cons rfl (ma_le_cons rfl (ma_le_cons rfl (ma_le_cons rfl (ma_le_nil _))))) h
            · intro c1 hc
              have h := h.2 c1 hc
              (try rw [hc])
              show ma_wp X d w 49 41 [(4, .inr (.inr (some c1))), (0, .inr (.inr (some 91))), (1, .inl l1), (2, .inl l2), (3, .inl l3)] [] S _
              refine zw_push hm_49 dX4_moveAll_41 (v := .inl l2) rfl ?_
              refine zw_push hm_49 dX4_moveAll_42 (v := .inr (.inr (some c1))) rfl ?_
              obtain ⟨hg, h⟩ := h
              refine zw_gf hm_49 dX4_moveAll_44 (v := .inl (mI S c1 2)) (zT_tis hS hg) (zT_tt hS hg) rfl f_4_63_9 rfl ?_
              refine zw_stk hm_49 dX4_moveAll_47 (st' := [.inl (l2 + (mI S c1 2))]) rfl rfl ?_
              refine zw_sto hm_49 dX4_moveAll_48 [(2, .inl (l2 + (mI S c1 2))), (4, .inr (.inr (some c1))), (0, .inr (.inr (some 91))), (1, .inl l1), (3, .inl l3)] rfl rfl rfl ?_
              refine zw_push hm_49 dX4_moveAll_49 (v := .inr (.inr (some 91))) rfl ?_
              refine zw_push hm_49 dX4_moveAll_50 (v := .inr (.inr (some c1))) rfl ?_
              refine zw_cv hm_49 dX4_moveAll_52 v_4_123_4 hm_51 [.inr (.inr (some c1))] [] rfl (zT_rt hS s_91 rfl) ⟨by omega, by omega⟩ rfl (zw_mono h (zi_go ?_ ?_))
              · intro v3 S2 hv
                obtain ⟨hS2, h⟩ := hv
                refine zw_if0 hm_49 dX4_moveAll_55 (t := 60) rfl zc0_ne ?_ ?_
                · intro hc
                  rw [if_neg hc] at h
                  refine zw_goto hm_49 dX4_moveAll_60 (t := 15) rfl ?_
                  exact zw_sub (ma_nd_of (ks := [0, 1, 2, 3]) rfl (by decide)) (ma_nd_of (ks := [2, 4, 0, 1, 3]) rfl (by decide)) (ma_le_cons rfl (ma_le_cons rfl (ma_le_cons rfl (ma_le_cons rfl (ma_le_nil _))))) h
                · intro hc
                  rw [if_pos (Classical.not_not.mp hc)] at h
                  refine zw_push hm_49 dX4_moveAll_58 (v := .inl (0 : Int32)) rfl ?_
                  exact zw_bret hm_49 dX4_moveAll_59 (by decide) h
              · intro x S9 hx
                exact ⟨by decide, hx⟩
theorem lp_49_91_15 {X : Nat × (Nat → Int32)} {d w : Nat} {f : Nat → Nat → Int32} {r : Nat → Nat → Option Nat} {C Z N : Nat} {Q : Option ma_V ⊕ Nat → ma_S → Prop} (hd : 3 ≤ d) (hw : 136 ≤ w) (K : ∀ v S', zL91 f r C Z N S' → (v = 0 ∨ v = 1) → Q (.inl (some (.inl v))) S') : ∀ (n : Nat) (S : ma_S) (l1 : Int32) (l2 : Int32) (l3 : Int32), (l3.toInt - l2.toInt).toNat = n → zL91 f r C Z N S → (0 ≤ l1.toInt) → (l1.toInt ≤ 92) → (0 ≤ l2.toInt) → (l3.toInt ≤ 280000) → (l2.toInt ≤ 300000) → ma_wp X d w 49 15 [(0, .inr (.inr (some 91))), (1, .inl l1), (2, .inl l2), (3, .inl l3)] [] S Q := by
  intro n
  induction n using Nat.strongRecOn with
  | _ n IH =>
    intro S l1 l2 l3 hmu hI  hi0 hi1 hi2 hi3 hi4
    refine g_49_91_15 l1 l2 l3 (by omega) (by omega) (zG_T hI) ?_
    have b1 := i_bd l3
    have b2 := i_bd l2
    refine zd (fun h3 => ?_) (fun h3 => ?_)
    · skip
      have g4 := i_le h3
      have b5 := i_bd l1
      have li6 : (0 : Int32).toInt = 0 := rfl
      refine zd (fun h7 => ?_) (fun h7 => ?_)
      · skip
        have g8 := i_lt h7
        have li9 : (1 : Int32).toInt = 1 := rfl
        exact K ((1 : Int32)) _ hI (by decide)
      · skip
        have g10 := i_nlt h7
        have li11 : (93 : Int32).toInt = 93 := rfl
        refine zd (fun h12 => ?_) (fun h12 => ?_)
        · skip
          have g13 := i_le h12
          have li14 : (1 : Int32).toInt = 1 := rfl
          exact K ((1 : Int32)) _ hI (by decide)
        · skip
          have g15 := i_nle h12
          refine ⟨i_ix (by omega) (by omega), ?_⟩
          refine ⟨i_ix (by omega) (by omega), ?_⟩
          have hI16 : zL91 f r C Z N (ma_put S 93 l1.toNatClampNeg (.inl (0 : Int32))) := zG_fa hI rfl (by decide) (by decide) (by decide) trivial
          have hI17 : zL91 f r C Z N (ma_put (ma_put S 93 l1.toNatClampNeg (.inl (0 : Int32))) 92 l1.toNatClampNeg (.inl (0 : Int32))) := zG_sa hI16 (0) (3000) rfl (by decide) (by decide) (by decide) trivial (by omega) (by omega)
          have li18 : (1 : Int32).toInt = 1 := rfl
          exact K ((1 : Int32)) _ hI17 (by decide)
    · skip
      have g19 := i_nle h3
      have li20 : (0 : Int32).toInt = 0 := rfl
      refine zd (fun h21 => ?_) (fun h21 => ?_)
      · skip
        have g22 := i_lt h21
        have b23 := i_bd l1
        first | have e24 : (l2 + (1 : Int32)).toInt = l2.toInt + (1) := i_addk rfl (by omega) (by omega) | have b25 := i_bd (l2 + (1 : Int32))
        exact IH _ (by omega) _ (l1) ((l2 + (1 : Int32))) (l3) rfl hI (by omega) (by omega) (by omega) (by omega) (by omega)
      · skip
        have g26 := i_nlt h21
        have li27 : (4500 : Int32).toInt = 4500 := rfl
        refine zd (fun h28 => ?_) (fun h28 => ?_)
        · skip
          have g29 := i_le h28
          have b30 := i_bd l1
          first | have e31 : (l2 + (1 : Int32)).toInt = l2.toInt + (1) := i_addk rfl (by omega) (by omega) | have b32 := i_bd (l2 + (1 : Int32))
          exact IH _ (by omega) _ (l1) ((l2 + (1 : Int32))) (l3) rfl hI (by omega) (by omega) (by omega) (by omega) (by omega)
        · skip
          have g33 := i_nle h28
          refine ⟨i_ix (by omega) (by omega), ?_⟩
          have b34 := i_bd (mI S 71 l2.toNatClampNeg)
          refine zd (fun h35 => ?_) (fun h35 => ?_)
          · skip
            have g36 := i_lt h35
            have b37 := i_bd l1
            first | have e38 : (l2 + (1 : Int32)).toInt = l2.toInt + (1) := i_addk rfl (by omega) (by omega) | have b39 := i_bd (l2 + (1 : Int32))
            exact IH _ (by omega) _ (l1) ((l2 + (1 : Int32))) (l3) rfl hI (by omega) (by omega) (by omega) (by omega) (by omega)
          · skip
            have g40 := i_nlt h35
            have li41 : (512 : Int32).toInt = 512 := rfl
            refine zd (fun h42 => ?_) (fun h42 => ?_)
            · skip
              have g43 := i_le h42
              have b44 := i_bd l1
              first | have e45 : (l2 + (1 : Int32)).toInt = l2.toInt + (1) := i_addk rfl (by omega) (by omega) | have b46 := i_bd (l2 + (1 : Int32))
              exact IH _ (by omega) _ (l1) ((l2 + (1 : Int32))) (l3) rfl hI (by omega) (by omega) (by omega) (by omega) (by omega)
            · skip
              have g47 := i_nle h42
              refine ⟨i_ix (by omega) (by omega), ?_⟩
              refine ⟨fun _ => ?_, fun c1 hc => ?_⟩
              · skip
                have b48 := i_bd l1
                first | have e49 : (l2 + (1 : Int32)).toInt = l2.toInt + (1) := i_addk rfl (by omega) (by omega) | have b50 := i_bd (l2 + (1 : Int32))
                exact IH _ (by omega) _ (l1) ((l2 + (1 : Int32))) (l3) rfl hI (by omega) (by omega) (by omega) (by omega) (by omega)
              · skip
                have th_c1 := (fun _ z => zG_70 hI (c := 70) (by decide) z) c1 hc
                refine ⟨zG_n hI th_c1, ?_⟩
                refine sp_51_91 c1 (by omega) (by omega) hI th_c1 (fun v3 S2 hI_S2 hp_v3 => zi_n ⟨zG_T hI_S2, ?_⟩)
                have b51 := i_bd v3
                refine zd (fun h52 => ?_) (fun h52 => ?_)
                · skip
                  have g53 := i_eq h52
                  exact K ((0 : Int32)) _ hI_S2 (by decide)
                · skip
                  have g54 := i_ne h52
                  have b55 := i_bd l1
                  have f56 := zG_th hI th_c1
                  first | have e57 : (l2 + (mI S c1 2)).toInt = l2.toInt + (mI S c1 2).toInt := i_add (by omega) (by omega) | have b58 := i_bd (l2 + (mI S c1 2))
                  exact IH _ (by omega) _ (l1) ((l2 + (mI S c1 2))) (l3) rfl hI_S2 (by omega) (by omega) (by omega) (by omega) (by omega)
theorem sp_49_91 {X : Nat × (Nat → Int32)} {d w : Nat} {f : Nat → Nat → Int32} {r : Nat → Nat → Option Nat} {C Z N : Nat} {Q : Option ma_V ⊕ Nat → ma_S → Prop} {S : ma_S} (r1 : Int32) (hd : 3 ≤ d) (hw : 136 ≤ w) (hI : zL91 f r C Z N S) (hpre0 : 0 ≤ r1.toInt) (hpre1 : r1.toInt ≤ 92) (K : ∀ v S', zL91 f r C Z N S' → (v = 0 ∨ v = 1) → Q (.inl (some (.inl v))) S') : ma_wp X d w 49 0 [(0, .inr (.inr (some 91))), (1, .inl r1)] [] S Q := by
  refine g_49_91_0 r1 (by omega) (by omega) (zG_T hI) ?_
  have b1 := i_bd r1
  have li2 : (0 : Int32).toInt = 0 := rfl
  refine zd (fun h3 => ?_) (fun h3 => ?_)
  · skip
    have g4 := i_lt h3
    have f5 := zG_s hI (0) (1500) (c := 91) (k := 2) (by decide)
    first | have f6 := i_muln (x := r1) (y := (mI S 91 2)) (by omega) (by omega) (by omega) (by omega) | have b7 := i_bd (r1 * (mI S 91 2))
    first | have e8 : ((r1 * (mI S 91 2)) + (0 : Int32)).toInt = (r1 * (mI S 91 2)).toInt + (0) := i_addk rfl (by omega) (by omega) | have b9 := i_bd ((r1 * (mI S 91 2)) + (0 : Int32))
    exact lp_49_91_15 (by omega) (by omega) K _ _ (r1) ((r1 * (mI S 91 2))) (((r1 * (mI S 91 2)) + (0 : Int32))) rfl hI (by omega) (by omega) (by omega) (by omega) (by omega)
  · skip
    have g10 := i_nlt h3
    have li11 : (93 : Int32).toInt = 93 := rfl
    refine zd (fun h12 => ?_) (fun h12 => ?_)
    · skip
      have g13 := i_le h12
      have f14 := zG_s hI (0) (1500) (c := 91) (k := 2) (by decide)
      first | have f15 := i_muln (x := r1) (y := (mI S 91 2)) (by omega) (by omega) (by omega) (by omega) | have b16 := i_bd (r1 * (mI S 91 2))
      first | have e17 : ((r1 * (mI S 91 2)) + (0 : Int32)).toInt = (r1 * (mI S 91 2)).toInt + (0) := i_addk rfl (by omega) (by omega) | have b18 := i_bd ((r1 * (mI S 91 2)) + (0 : Int32))
      exact lp_49_91_15 (by omega) (by omega) K _ _ (r1) ((r1 * (mI S 91 2))) (((r1 * (mI S 91 2)) + (0 : Int32))) rfl hI (by omega) (by omega) (by omega) (by omega) (by omega)
    · skip
      have g19 := i_nle h12
      refine ⟨i_ix (by omega) (by omega), ?_⟩
      have f20 := zG_s hI (0) (1500) (c := 91) (k := 2) (by decide)
      first | have f21 := i_muln (x := r1) (y := (mI S 91 2)) (by omega) (by omega) (by omega) (by omega) | have b22 := i_bd (r1 * (mI S 91 2))
      first | have f23 := zG_a hI 93 (0) (3000) (c := 92) (k := r1.toNatClampNeg) (by decide) (i_ix (n := 93) (by omega) (by omega)).2 | have b24 := i_bd (mI S 92 r1.toNatClampNeg)
      first | have e25 : ((r1 * (mI S 91 2)) + (mI S 92 r1.toNatClampNeg)).toInt = (r1 * (mI S 91 2)).toInt + (mI S 92 r1.toNatClampNeg).toInt := i_add (by omega) (by omega) | have b26 := i_bd ((r1 * (mI S 91 2)) + (mI S 92 r1.toNatClampNeg))
      exact lp_49_91_15 (by omega) (by omega) K _ _ (r1) ((r1 * (mI S 91 2))) (((r1 * (mI S 91 2)) + (mI S 92 r1.toNatClampNeg))) rfl hI (by omega) (by omega) (by omega) (by omega) (by omega)
