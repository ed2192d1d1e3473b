/-! AGES, the class (written by wip/tools/gen15y.py) -/
theorem g_15_82_sy_0 {X : Nat × (Nat → Int32)} {d w : Nat} {S : ma_S} {Q : Option ma_V ⊕ Nat → ma_S → Prop}  (hd : 3 ≤ d) (hw : 113 ≤ w) (hS : zT S) (h : ma_wp X d w 15 33 [(0, .inr (.inr (some 82))), (1, .inl (0 : Int32))] [] (ma_put (ma_put S 82 7 (.inl ((((mI S 82 3) + (mI S 82 2)) + (mI S 82 3)) - (mI S 82 7)))) 82 8 (.inl ((((mI S 82 3) + (mI S 82 2)) + (mI S 82 3)) - (mI S 82 7)))) Q) : ma_wp X d w 15 0 [(0, .inr (.inr (some 82)))] [] S Q := by
  refine zw_push hm_15 dX0_moveKept_0 (v := .inr (.inr (some 82))) rfl ?_
  refine zw_push hm_15 dX0_moveKept_1 (v := .inr (.inr (some 82))) rfl ?_
  refine zw_gf hm_15 dX0_moveKept_2 (v := .inl (mI S 82 3)) (zT_is hS s_82) (zT_t hS s_82) rfl f_1_19_1 rfl ?_
  refine zw_push hm_15 dX0_moveKept_5 (v := .inr (.inr (some 82))) rfl ?_
  refine zw_gf hm_15 dX0_moveKept_6 (v := .inl (mI S 82 2)) (zT_is hS s_82) (zT_t hS s_82) rfl f_1_15_1 rfl ?_
  refine zw_stk hm_15 dX0_moveKept_9 (st' := [.inl ((mI S 82 3) + (mI S 82 2)), .inr (.inr (some 82))]) rfl rfl ?_
  refine zw_push hm_15 dX0_moveKept_10 (v := .inr (.inr (some 82))) rfl ?_
  refine zw_gf hm_15 dX0_moveKept_11 (v := .inl (mI S 82 3)) (zT_is hS s_82) (zT_t hS s_82) rfl f_1_19_1 rfl ?_
  refine zw_stk hm_15 dX0_moveKept_14 (st' := [.inl (((mI S 82 3) + (mI S 82 2)) + (mI S 82 3)), .inr (.inr (some 82))]) rfl rfl ?_
  refine zw_push hm_15 dX0_moveKept_15 (v := .inr (.inr (some 82))) rfl ?_
  refine zw_gf hm_15 dX0_moveKept_16 (v := .inl (mI S 82 7)) (zT_is hS s_82) (zT_t hS s_82) rfl f_1_31_1 rfl ?_
  refine zw_stk hm_15 dX0_moveKept_19 (st' := [.inl ((((mI S 82 3) + (mI S 82 2)) + (mI S 82 3)) - (mI S 82 7)), .inr (.inr (some 82))]) rfl rfl ?_
  refine zw_pf hm_15 dX0_moveKept_20 (zT_is hS s_82) (zT_t hS s_82) p_1_31_1 zk_int ?_
  refine zw_push hm_15 dX0_moveKept_23 (v := .inr (.inr (some 82))) rfl ?_
  refine zw_push hm_15 dX0_moveKept_24 (v := .inr (.inr (some 82))) rfl ?_
  refine zw_gf hm_15 dX0_moveKept_25 (v := .inl ((((mI S 82 3) + (mI S 82 2)) + (mI S 82 3)) - (mI S 82 7))) (zT_is (zT_pi hS) s_82) (zT_t (zT_pi hS) s_82) rfl f_1_31_1 rfl ?_
  refine zw_pf hm_15 dX0_moveKept_28 (zT_is (zT_pi hS) s_82) (zT_t (zT_pi hS) s_82) p_1_34_1 zk_int ?_
  refine zw_push hm_15 dX0_moveKept_31 (v := .inl (0 : Int32)) rfl ?_
  refine zw_sto hm_15 dX0_moveKept_32 [(1, .inl (0 : Int32)), (0, .inr (.inr (some 82)))] rfl rfl rfl ?_
  exact zw_sub (ma_nd_of (ks := [0, 1]) rfl (by decide)) (ma_nd_of (ks := [1, 0]) rfl (by decide)) (ma_le_cons rfl (ma_le_cons rfl (ma_le_nil _))) h
theorem g_15_82_sy_33 {X : Nat × (Nat → Int32)} {d w : Nat} {S : ma_S} {Q : Option ma_V ⊕ Nat → ma_S → Prop} (l1 : Int32) (hd : 3 ≤ d) (hw : 135 ≤ w) (hS : zT S) (h : if (mI S 75 4) ≤ l1 then (Q (.inl none) S) else (ma_wp X (d - 1) (w - 21) 124 0 [(0, .inr (.inr (some 75))), (1, .inl l1)] [] S (zo (fun v2 S1 => zT S1 ∧ ((v2 = none → ma_wp X d w 15 33 [(0, .inr (.inr (some 82))), (1, .inl (l1 + (1 : Int32)))] [] S1 Q) ∧ (∀ c3, v2 = some c3 → (126 ≤ c3 ∧ c3 < mN S1) ∧ ((126 ≤ c3 ∧ c3 < mN S1) ∧ ((126 ≤ c3 ∧ c3 < mN (ma_put S1 c3 5 (.inl ((mI S1 c3 5) + (1 : Int32))))) ∧ (if (mI (ma_put S1 c3 5 (.inl ((mI S1 c3 5) + (1 : Int32)))) c3 5) < (mI (ma_put S1 c3 5 (.inl ((mI S1 c3 5) + (1 : Int32)))) 82 4) then (ma_wp X ((d - 1) - 1) ((w - 21) - 24) 90 0 [(0, .inr (.inr (some 69))), (1, .inr (.inr (some c3))), (2, .inl (mI (ma_put S1 c3 5 (.inl ((mI S1 c3 5) + (1 : Int32)))) 82 8))] [] (ma_put S1 c3 5 (.inl ((mI S1 c3 5) + (1 : Int32)))) (zv (fun S4 => zT S4 ∧ ((126 ≤ c3 ∧ c3 < mN S4) ∧ (ma_wp X d w 15 33 [(0, .inr (.inr (some 82))), (1, .inl (l1 + (1 : Int32)))] [] (ma_put S4 82 8 (.inl ((mI S4 82 8) + (mI S4 c3 2)))) Q))) (fun _ _ => False))) else (ma_wp X ((d - 1) - 1) ((w - 21) - 24) 90 0 [(0, .inr (.inr (some 69))), (1, .inr (.inr (some c3))), (2, .inl (mI (ma_put S1 c3 5 (.inl ((mI S1 c3 5) + (1 : Int32)))) 82 6))] [] (ma_put S1 c3 5 (.inl ((mI S1 c3 5) + (1 : Int32)))) (zv (fun S6 => zT S6 ∧ ((126 ≤ c3 ∧ c3 < mN S6) ∧ (ma_wp X d w 15 33 [(0, .inr (.inr (some 82))), (1, .inl (l1 + (1 : Int32)))] [] (ma_put S6 82 6 (.inl ((mI S6 82 6) + (mI S6 c3 2)))) Q))) (fun _ _ => False))))))))) (fun x S9 => Q (.inr x) S9)))) : ma_wp X d w 15 33 [(0, .inr (.inr (some 82))), (1, .inl l1)] [] S Q := by
  refine zw_push hm_15 dX0_moveKept_33 (v := .inl l1) rfl ?_
  refine zw_push hm_15 dX0_moveKept_34 (v := .inr (.inr (some 82))) rfl ?_
  refine zw_gf hm_15 dX0_moveKept_35 (v := .inr (.inr (some 75))) (zT_is hS s_82) (zT_t hS s_82) rfl f_1_70_1 (zT_f hS r_82_1) ?_
  refine zw_gf hm_15 dX0_moveKept_38 (v := .inl (mI S 75 4)) (zT_is hS s_75) (zT_t hS s_75) rfl f_1_147_10 rfl ?_
  refine zw_if2 hm_15 dX0_moveKept_41 (t := 68) rfl zc2_ge ?_ ?_
  · intro hc
    rw [if_pos hc] at h
    exact zw_vret hm_15 dX0_moveKept_68 h
  · intro hc
    rw [if_neg hc] at h
    refine zw_push hm_15 dX0_moveKept_44 (v := .inr (.inr (some 82))) rfl ?_
    refine zw_gf hm_15 dX0_moveKept_45 (v := .inr (.inr (some 75))) (zT_is hS s_82) (zT_t hS s_82) rfl f_1_70_1 (zT_f hS r_82_1) ?_
    refine zw_push hm_15 dX0_moveKept_48 (v := .inl l1) rfl ?_
    refine zw_cv hm_15 dX0_moveKept_49 v_1_150_10 hm_124 [.inl l1] [] rfl (zT_rt hS s_75 rfl) ⟨by omega, by omega⟩ rfl (zw_mono h (zo_go ?_ ?_))
    · intro v2 S1 hv
      obtain ⟨hS1, h⟩ := hv
      refine zw_sto hm_15 dX0_moveKept_52 [(2, .inr (.inr v2)), (0, .inr (.inr (some 82))), (1, .inl l1)] rfl rfl rfl ?_
      refine zw_push hm_15 dX0_moveKept_53 (v := .inr (.inr v2)) rfl ?_
      refine zw_ifnull hm_15 dX0_moveKept_54 (t := 62) rfl ?_ ?_
      · intro hc
        have h := h.1 hc
        (try rw [hc])
        show ma_wp X d w 15 62 [(2, .inr (.inr none)), (0, .inr (.inr (some 82))), (1, .inl l1)] [] S1 _
        refine zw_sto hm_15 dX0_moveKept_62 [(1, .inl (l1 + (1 : Int32))), (2, .inr (.inr none)), (0, .inr (.inr (some 82)))] rfl rfl rfl ?_
        refine zw_goto hm_15 dX0_moveKept_65 (t := 33) rfl ?_
        exact zw_sub (ma_nd_of (ks := [0, 1]) rfl (by decide)) (ma_nd_of (ks := [1, 2, 0]) rfl (by decide)) (ma_le_cons rfl (ma_le_cons rfl (ma_le_nil _))) h
      · intro c3 hc
        have h := h.2 c3 hc
        (try rw [hc])
        show ma_wp X d w 15 57 [(2, .inr (.inr (some c3))), (0, .inr (.inr (some 82))), (1, .inl l1)] [] S1 _
        refine zw_push hm_15 dX0_moveKept_57 (v := .inr (.inr (some 82))) rfl ?_
        refine zw_push hm_15 dX0_moveKept_58 (v := .inr (.inr (some c3))) rfl ?_
        refine zw_cv hm_15 dX0_moveKept_59 v_1_153_1 hm_16 [.inr (.inr (some c3))] [] rfl (zT_rt hS1 s_82 rfl) ⟨by omega, by omega⟩ rfl ?_
        show ma_wp X (d - 1) (w - 21) 16 0 [(0, .inr (.inr (some 82))), (1, .inr (.inr (some c3)))] [] S1 _
        refine zw_push hm_16 dX0_moveOlder_0 (v := .inr (.inr (some c3))) rfl ?_
        refine zw_stk hm_16 dX0_moveOlder_1 (st' := [.inr (.inr (some c3)), .inr (.inr (some c3))]) rfl rfl ?_
        obtain ⟨hg, h⟩ := h
        refine zw_gf hm_16 dX0_moveOlder_2 (v := .inl (mI S1 c3 5)) (zT_tis hS1 hg) (zT_tt hS1 hg) rfl f_1_126_9 rfl ?_
        refine zw_push hm_16 dX0_moveOlder_5 (v := .inl (1 : Int32)) rfl ?_
        refine zw_stk hm_16 dX0_moveOlder_6 (st' := [.inl ((mI S1 c3 5) + (1 : Int32)), .inr (.inr (some c3))]) rfl rfl ?_
        obtain ⟨hg, h⟩ := h
        refine zw_pf hm_16 dX0_moveOlder_7 (zT_tis hS1 hg) (zT_tt hS1 hg) p_1_126_9 zk_int ?_
        refine zw_push hm_16 dX0_moveOlder_10 (v := .inr (.inr (some c3))) rfl ?_
        obtain ⟨hg, h⟩ := h
        refine zw_gf hm_16 dX0_moveOlder_11 (v := .inl (mI (ma_put S1 c3 5 (.inl ((mI S1 c3 5) + (1 : Int32)))) c3 5)) (zT_tis (zT_pi hS1) hg) (zT_tt (zT_pi hS1) hg) rfl f_1_126_9 rfl ?_
        refine zw_push hm_16 dX0_moveOlder_14 (v := .inr (.inr (some 82))) rfl ?_
        refine zw_gf hm_16 dX0_moveOlder_15 (v := .inl (mI (ma_put S1 c3 5 (.inl ((mI S1 c3 5) + (1 : Int32)))) 82 4)) (zT_is (zT_pi hS1) s_82) (zT_t (zT_pi hS1) s_82) rfl f_1_22_1 rfl ?_
        refine zw_if2 hm_16 dX0_moveOlder_18 (t := 49) rfl zc2_lt ?_ ?_
        · intro hc
          rw [if_pos hc] at h
          refine zw_push hm_16 dX0_moveOlder_49 (v := .inr (.inr (some 82))) rfl ?_
          refine zw_gf hm_16 dX0_moveOlder_50 (v := .inr (.inr (some 69))) (zT_is (zT_pi hS1) s_82) (zT_t (zT_pi hS1) s_82) rfl f_1_80_1 (zT_f (zT_pi hS1) r_82_0) ?_
          refine zw_push hm_16 dX0_moveOlder_53 (v := .inr (.inr (some c3))) rfl ?_
          refine zw_push hm_16 dX0_moveOlder_54 (v := .inr (.inr (some 82))) rfl ?_
          refine zw_gf hm_16 dX0_moveOlder_55 (v := .inl (mI (ma_put S1 c3 5 (.inl ((mI S1 c3 5) + (1 : Int32)))) 82 8)) (zT_is (zT_pi hS1) s_82) (zT_t (zT_pi hS1) s_82) rfl f_1_34_1 rfl ?_
          refine zw_cv hm_16 dX0_moveOlder_58 v_1_156_7 hm_90 [.inl (mI (ma_put S1 c3 5 (.inl ((mI S1 c3 5) + (1 : Int32)))) 82 8), .inr (.inr (some c3))] [] rfl (zT_rt (zT_pi hS1) s_69 rfl) ⟨by omega, by omega⟩ rfl (zw_mono h (zv_go ?_ ?_))
          · intro S4 hv
            obtain ⟨hS4, h⟩ := hv
            refine zw_push hm_16 dX0_moveOlder_61 (v := .inr (.inr (some 82))) rfl ?_
            refine zw_stk hm_16 dX0_moveOlder_62 (st' := [.inr (.inr (some 82)), .inr (.inr (some 82))]) rfl rfl ?_
            refine zw_gf hm_16 dX0_moveOlder_63 (v := .inl (mI S4 82 8)) (zT_is hS4 s_82) (zT_t hS4 s_82) rfl f_1_34_1 rfl ?_
            refine zw_push hm_16 dX0_moveOlder_66 (v := .inr (.inr (some c3))) rfl ?_
            obtain ⟨hg, h⟩ := h
            refine zw_gf hm_16 dX0_moveOlder_67 (v := .inl (mI S4 c3 2)) (zT_tis hS4 hg) (zT_tt hS4 hg) rfl f_1_67_9 rfl ?_
            refine zw_stk hm_16 dX0_moveOlder_70 (st' := [.inl ((mI S4 82 8) + (mI S4 c3 2)), .inr (.inr (some 82))]) rfl rfl ?_
            refine zw_pf hm_16 dX0_moveOlder_71 (zT_is hS4 s_82) (zT_t hS4 s_82) p_1_34_1 zk_int ?_
            refine zw_vret hm_16 dX0_moveOlder_74 ?_
            show ma_wp X d w 15 62 [(2, .inr (.inr (some c3))), (0, .inr (.inr (some 82))), (1, .inl l1)] [] (ma_put S4 82 8 (.inl ((mI S4 82 8) + (mI S4 c3 2)))) _
            refine zw_sto hm_15 dX0_moveKept_62 [(1, .inl (l1 + (1 : Int32))), (2, .inr (.inr (some c3))), (0, .inr (.inr (some 82)))] rfl rfl rfl ?_
            refine zw_goto hm_15 dX0_moveKept_65 (t := 33) rfl ?_
            exact zw_sub (ma_nd_of (ks := [0, 1]) rfl (by decide)) (ma_nd_of (ks := [1, 2, 0]) rfl (by decide)) (ma_le_cons rfl (ma_le_cons rfl (ma_le_nil _))) h
          · intro x S9 hx
            exact hx.elim
        · intro hc
          rw [if_neg hc] at h
          refine zw_push hm_16 dX0_moveOlder_21 (v := .inr (.inr (some 82))) rfl ?_
          refine zw_gf hm_16 dX0_moveOlder_22 (v := .inr (.inr (some 69))) (zT_is (zT_pi hS1) s_82) (zT_t (zT_pi hS1) s_82) rfl f_1_80_1 (zT_f (zT_pi hS1) r_82_0) ?_
          refine zw_push hm_16 dX0_moveOlder_25 (v := .inr (.inr (some c3))) rfl ?_
          refine zw_push hm_16 dX0_moveOlder_26 (v := .inr (.inr (some 82))) rfl ?_
          refine zw_gf hm_16 dX0_moveOlder_27 (v := .inl (mI (ma_put S1 c3 5 (.inl ((mI S1 c3 5) + (1 : Int32)))) 82 6)) (zT_is (zT_pi hS1) s_82) (zT_t (zT_pi hS1) s_82) rfl f_1_28_1 rfl ?_
          refine zw_cv hm_16 dX0_moveOlder_30 v_1_156_7 hm_90 [.inl (mI (ma_put S1 c3 5 (.inl ((mI S1 c3 5) + (1 : Int32)))) 82 6), .inr (.inr (some c3))] [] rfl (zT_rt (zT_pi hS1) s_69 rfl) ⟨by omega, by omega⟩ rfl (zw_mono h (zv_go ?_ ?_))
          · intro S6 hv
            obtain ⟨hS6, h⟩ := hv
            refine zw_push hm_16 dX0_moveOlder_33 (v := .inr (.inr (some 82))) rfl ?_
            refine zw_stk hm_16 dX0_moveOlder_34 (st' := [.inr (.inr (some 82)), .inr (.inr (some 82))]) rfl rfl ?_
            refine zw_gf hm_16 dX0_moveOlder_35 (v := .inl (mI S6 82 6)) (zT_is hS6 s_82) (zT_t hS6 s_82) rfl f_1_28_1 rfl ?_
            refine zw_push hm_16 dX0_moveOlder_38 (v := .inr (.inr (some c3))) rfl ?_
            obtain ⟨hg, h⟩ := h
            refine zw_gf hm_16 dX0_moveOlder_39 (v := .inl (mI S6 c3 2)) (zT_tis hS6 hg) (zT_tt hS6 hg) rfl f_1_67_9 rfl ?_
            refine zw_stk hm_16 dX0_moveOlder_42 (st' := [.inl ((mI S6 82 6) + (mI S6 c3 2)), .inr (.inr (some 82))]) rfl rfl ?_
            refine zw_pf hm_16 dX0_moveOlder_43 (zT_is hS6 s_82) (zT_t hS6 s_82) p_1_28_1 zk_int ?_
            refine zw_goto hm_16 dX0_moveOlder_46 (t := 74) rfl ?_
            refine zw_vret hm_16 dX0_moveOlder_74 ?_
            show ma_wp X d w 15 62 [(2, .inr (.inr (some c3))), (0, .inr (.inr (some 82))), (1, .inl l1)] [] (ma_put S6 82 6 (.inl ((mI S6 82 6) + (mI S6 c3 2)))) _
            refine zw_sto hm_15 dX0_moveKept_62 [(1, .inl (l1 + (1 : Int32))), (2, .inr (.inr (some c3))), (0, .inr (.inr (some 82)))] rfl rfl rfl ?_
            refine zw_goto hm_15 dX0_moveKept_65 (t := 33) rfl ?_
            exact zw_sub (ma_nd_of (ks := [0, 1]) rfl (by decide)) (ma_nd_of (ks := [1, 2, 0]) rfl (by decide)) (ma_le_cons rfl (ma_le_cons rfl (ma_le_nil _))) h
          · intro x S9 hx
            exact hx.elim
    · intro x S9 hx
      exact ⟨by decide, hx⟩
theorem lp_15_82_sy_33 {X : Nat × (Nat → Int32)} {d w : Nat} {f : Nat → Nat → Int32} {r : Nat → Nat → Option Nat} {C Z N : Nat} {Q : Option ma_V ⊕ Nat → ma_S → Prop} {ab : Nat→Nat→Int32} {st : Int} {ot : Int} {o0 : Int} {PP : Nat→Int} {NN : Nat→Int} (hd : 3 ≤ d) (hw : 135 ≤ w) (K : ∀ S', zJ82 f r C Z N S' → (xB S' (mR S' 70)) → (aG S' = gMf (ab 75 4).toInt.toNat 0 (gM9 ab)) → Q (.inl none) S') : ∀ (n : Nat) (S : ma_S) (l1 : Int32), (512 - l1.toInt).toNat = n → zJ82 f r C Z N S → (0 ≤ l1.toInt) → ((mI S 82 6).toInt ≤ 1500 + 61 * l1.toInt) → ((mI S 82 8).toInt ≤ 3000 + 61 * l1.toInt) → (xB S (mR S 70)) → (gMf ((mI S 75 4).toInt - l1.toInt).toNat l1.toNatClampNeg (aG S) = gMf (ab 75 4).toInt.toNat 0 (gM9 ab)) → (qJg (aG S) st ot o0 PP NN l1.toNatClampNeg) → ma_wp X d w 15 33 [(0, .inr (.inr (some 82))), (1, .inl l1)] [] S Q := by
  intro n
  induction n using Nat.strongRecOn with
  | _ n IH =>
    intro S l1 hmu hI  hi0 hi1 hi2 hi3 hi4 hi5
    refine g_15_82_sy_33 l1 (by omega) (by omega) (zG_T hI) ?_
    have f1 := zG_s hI (0) (512) (c := 75) (k := 4) (by decide)
    have b2 := i_bd l1
    refine zd (fun h3 => ?_) (fun h3 => ?_)
    · skip
      have g4 := i_le h3
      exact K _ hI (show xB S (mR S 70) from by first | (exact xB_x (xC_o (W := 75) hi3).2)) (show aG S = gMf (ab 75 4).toInt.toNat 0 (gM9 ab) from by first | (have z := hi4; rw [show ((mI S 75 4).toInt - l1.toInt).toNat = 0 from by omega] at z; exact z))
    · skip
      have g5 := i_nle h3
      refine sp_124_75_s (l1) (by omega) (by omega) (zJ82_dn hI) (show xB S (mR S 70) from by first | (exact xB_x (xC_o (W := 75) hi3).2)) (by omega) (show l1.toInt < (mI S 75 4).toInt from by omega) (fun v2 S1 eS_S1 hq_v2 rp0_S1 => zo_n ⟨(by rw [eS_S1]; exact zG_T hI), ?_⟩)
      replace eS_S1 := eS_S1.symm; subst eS_S1
      have rp0_S1 : v2 = zTa (mR S 70) (mI S 76 l1.toNatClampNeg) := rp0_S1
      refine ⟨fun hc => ?_, fun c3 hc => ?_⟩
      · skip
        have rn_c3 : zTa (mR S 70) (mI S 76 l1.toNatClampNeg) = none := rp0_S1.symm.trans hc
        first | have e6 : (l1 + (1 : Int32)).toInt = l1.toInt + (1) := i_addk rfl (by omega) (by omega) | have b7 := i_bd (l1 + (1 : Int32))
        have f8 := zG_s hI (0) (400000) (c := 82) (k := 6) (by decide)
        have f9 := zG_s hI (0) (400000) (c := 82) (k := 8) (by decide)
        exact IH _ (by omega) _ ((l1 + (1 : Int32))) rfl hI (by omega) (show (mI S 82 6).toInt ≤ 1500 + 61 * ((l1 + (1 : Int32))).toInt from by omega) (show (mI S 82 8).toInt ≤ 3000 + 61 * ((l1 + (1 : Int32))).toInt from by omega) (show xB S (mR S 70) from by first | (exact (Jg_no hi5 (by omega) (by omega) hi3 rn_c3).elim)) (show gMf ((mI S 75 4).toInt - ((l1 + (1 : Int32))).toInt).toNat ((l1 + (1 : Int32))).toNatClampNeg (aG S) = gMf (ab 75 4).toInt.toNat 0 (gM9 ab) from by first | (exact (Jg_no hi5 (by omega) (by omega) hi3 rn_c3).elim)) (show qJg (aG S) st ot o0 PP NN ((l1 + (1 : Int32))).toNatClampNeg from by first | (exact (Jg_no hi5 (by omega) (by omega) hi3 rn_c3).elim))
      · skip
        have th_c3 := hq_v2 c3 hc
        have rg_c3 : zTa (mR S 70) (mI S 76 l1.toNatClampNeg) = some c3 := rp0_S1.symm.trans hc
        subst hc
        refine ⟨zG_n hI th_c3, ?_⟩
        refine ⟨zG_n hI th_c3, ?_⟩
        have hI10 : zJ82 f r C Z N (ma_put S c3 5 (.inl ((mI S c3 5) + (1 : Int32)))) := zG_tf hI th_c3.1 zJ82_t (by decide) (by decide) (zJ82_xt (S := S) th_c3.1 (zG_x hI)) (by decide) (by decide) (by decide)
        refine ⟨zG_n hI10 th_c3, ?_⟩
        have b11 := i_bd (mI (ma_put S c3 5 (.inl ((mI S c3 5) + (1 : Int32)))) c3 5)
        have b12 := i_bd (mI S 82 4)
        have q13 : (mI (ma_put S c3 5 (.inl ((mI S c3 5) + (1 : Int32)))) 82 4).toInt = (mI S 82 4).toInt := zp_th th_c3.1 (by decide)
        have b14 := i_bd (mI (ma_put S c3 5 (.inl ((mI S c3 5) + (1 : Int32)))) 82 4)
        refine zd (fun h15 => ?_) (fun h15 => ?_)
        · skip
          have g16 := i_lt h15
          have f17 := zG_s hI (0) (400000) (c := 82) (k := 8) (by decide)
          have q18 : (mI (ma_put S c3 5 (.inl ((mI S c3 5) + (1 : Int32)))) 82 8).toInt = (mI S 82 8).toInt := zp_th th_c3.1 (by decide)
          have f19 := zG_s hI10 (0) (400000) (c := 82) (k := 8) (by decide)
          refine sp_90_69_s (ab := (aS 75 (ma_put S c3 5 (.inl ((mI S c3 5) + (1 : Int32)))))) (R := (mR (ma_put S c3 5 (.inl ((mI S c3 5) + (1 : Int32)))) 70)) (y := ((mI S 76 l1.toNatClampNeg))) c3 ((mI (ma_put S c3 5 (.inl ((mI S c3 5) + (1 : Int32)))) 82 8)) (by omega) (by omega) (zJ82_dn hI10) th_c3 (show xB (ma_put S c3 5 (.inl ((mI S c3 5) + (1 : Int32)))) (mR (ma_put S c3 5 (.inl ((mI S c3 5) + (1 : Int32)))) 70) from by first | (exact xB_x (xC_t (k := 5) (x := ((mI S c3 5) + (1 : Int32))) (xC_o (W := 75) hi3) xW75 rg_c3 rfl).2)) (show aS 75 (ma_put S c3 5 (.inl ((mI S c3 5) + (1 : Int32)))) = (aS 75 (ma_put S c3 5 (.inl ((mI S c3 5) + (1 : Int32))))) from by first | (exact rfl)) (show zTa (mR (ma_put S c3 5 (.inl ((mI S c3 5) + (1 : Int32)))) 70) ((mI S 76 l1.toNatClampNeg)) = some c3 from by first | (exact rg_c3)) (show qMv (aS 75 (ma_put S c3 5 (.inl ((mI S c3 5) + (1 : Int32))))) ((mI S 76 l1.toNatClampNeg)).toNatClampNeg (mI (ma_put S c3 5 (.inl ((mI S c3 5) + (1 : Int32)))) 82 8) from by first | (have r5 : mI (ma_put S c3 5 (.inl (mI S c3 5 + (1 : Int32)))) c3 5 = mI S c3 5 + (1 : Int32) := if_pos ⟨rfl, rfl⟩; have r82 : ∀ k, mI (ma_put S c3 5 (.inl (mI S c3 5 + (1 : Int32)))) 82 k = mI S 82 k := fun k => if_neg (fun z => by have := z.1; have := th_c3.1; omega); have r5i := congrArg Int32.toInt r5; have r4i := congrArg Int32.toInt (r82 4); exact Qm_g hi5 (by omega) (by omega) hi3 rg_c3 (G_p5 hi3 rg_c3) ((if_pos (by omega)).trans (r82 _).symm)) | (have r5 : mI (ma_put S c3 5 (.inl (mI S c3 5 + (1 : Int32)))) c3 5 = mI S c3 5 + (1 : Int32) := if_pos ⟨rfl, rfl⟩; have r82 : ∀ k, mI (ma_put S c3 5 (.inl (mI S c3 5 + (1 : Int32)))) 82 k = mI S 82 k := fun k => if_neg (fun z => by have := z.1; have := th_c3.1; omega); have r5i := congrArg Int32.toInt r5; have r4i := congrArg Int32.toInt (r82 4); exact Qm_g hi5 (by omega) (by omega) hi3 rg_c3 (G_p5 hi3 rg_c3) ((if_neg (by omega)).trans (r82 _).symm))) (by omega) (fun S4 hL_S4 rp0_S4 rp1_S4 => zv_n ⟨zG_T hL_S4, ?_⟩)
          have hI_S4 := zJ82_up hI10 hL_S4
          have rp0_S4 : xB S4 (mR (ma_put S c3 5 (.inl ((mI S c3 5) + (1 : Int32)))) 70) := by
            have z := rp0_S4
            (try rw [show mI (ma_put S c3 5 (.inl ((mI S c3 5) + (1 : Int32)))) 65 = f 65 from funext (fun k => zG_z hI10 rfl)] at z)
            (try rw [show mI (ma_put S c3 5 (.inl ((mI S c3 5) + (1 : Int32)))) 64 1 = f 64 1 from zG_z hI10 rfl] at z)
            exact z
          have rp1_S4 : aS 75 S4 = aMo (aS 75 (ma_put S c3 5 (.inl ((mI S c3 5) + (1 : Int32))))) ((mI S 76 l1.toNatClampNeg)).toNatClampNeg (mI (ma_put S c3 5 (.inl ((mI S c3 5) + (1 : Int32)))) 82 8) := by
            have z := rp1_S4
            (try rw [show mI (ma_put S c3 5 (.inl ((mI S c3 5) + (1 : Int32)))) 65 = f 65 from funext (fun k => zG_z hI10 rfl)] at z)
            (try rw [show mI (ma_put S c3 5 (.inl ((mI S c3 5) + (1 : Int32)))) 64 1 = f 64 1 from zG_z hI10 rfl] at z)
            exact z
          refine ⟨zG_n hI_S4 th_c3, ?_⟩
          have q21 : (mI S4 82 8).toInt = (mI (ma_put S c3 5 (.inl ((mI S c3 5) + (1 : Int32)))) 82 8).toInt := zG_zi hL_S4 rfl
          have f22 := zG_s hI_S4 (0) (400000) (c := 82) (k := 8) (by decide)
          have f23 := zG_th hI_S4 th_c3
          first | have e24 : ((mI S4 82 8) + (mI S4 c3 2)).toInt = (mI S4 82 8).toInt + (mI S4 c3 2).toInt := i_add (by omega) (by omega) | have b25 := i_bd ((mI S4 82 8) + (mI S4 c3 2))
          have hI20 : zJ82 f r C Z N (ma_put S4 82 8 (.inl ((mI S4 82 8) + (mI S4 c3 2)))) := zG_sp hI_S4 (0) (400000) rfl (by decide) (by decide) (by decide) (show zJ82_x (mI S4) from zG_x hI_S4) (by omega) (by omega)
          first | have e26 : (l1 + (1 : Int32)).toInt = l1.toInt + (1) := i_addk rfl (by omega) (by omega) | have b27 := i_bd (l1 + (1 : Int32))
          have f28 := zG_s hI (0) (400000) (c := 82) (k := 6) (by decide)
          have q29 : (mI (ma_put S c3 5 (.inl ((mI S c3 5) + (1 : Int32)))) 82 6).toInt = (mI S 82 6).toInt := zp_th th_c3.1 (by decide)
          have f30 := zG_s hI10 (0) (400000) (c := 82) (k := 6) (by decide)
          have q31 : (mI S4 82 6).toInt = (mI (ma_put S c3 5 (.inl ((mI S c3 5) + (1 : Int32)))) 82 6).toInt := zG_zi hL_S4 rfl
          have f32 := zG_s hI_S4 (0) (400000) (c := 82) (k := 6) (by decide)
          have f33 := zG_s hI_S4 (0) (512) (c := 75) (k := 4) (by decide)
          exact IH _ (by omega) _ ((l1 + (1 : Int32))) rfl hI20 (by omega) (show (mI S4 82 6).toInt ≤ 1500 + 61 * ((l1 + (1 : Int32))).toInt from by omega) (show ((mI S4 82 8) + (mI S4 c3 2)).toInt ≤ 3000 + 61 * ((l1 + (1 : Int32))).toInt from by omega) (show xB (ma_put S4 82 8 (.inl ((mI S4 82 8) + (mI S4 c3 2)))) (mR (ma_put S4 82 8 (.inl ((mI S4 82 8) + (mI S4 c3 2)))) 70) from by first | (exact xB_x (xC_n (c := 82) (k := 8) (x := ((mI S4 82 8) + (mI S4 c3 2))) (xC_o (W := 75) rp0_S4) ⟨by decide, Or.inl ⟨rfl, rfl⟩⟩).2)) (show gMf ((mI S4 75 4).toInt - ((l1 + (1 : Int32))).toInt).toNat ((l1 + (1 : Int32))).toNatClampNeg (aG (ma_put S4 82 8 (.inl ((mI S4 82 8) + (mI S4 c3 2))))) = gMf (ab 75 4).toInt.toNat 0 (gM9 ab) from by first | (have r5 : mI (ma_put S c3 5 (.inl (mI S c3 5 + (1 : Int32)))) c3 5 = mI S c3 5 + (1 : Int32) := if_pos ⟨rfl, rfl⟩; have r82 : ∀ k, mI (ma_put S c3 5 (.inl (mI S c3 5 + (1 : Int32)))) 82 k = mI S 82 k := fun k => if_neg (fun z => by have := z.1; have := th_c3.1; omega); have r5i := congrArg Int32.toInt r5; have r4i := congrArg Int32.toInt (r82 4); have z0 : aG (ma_put S c3 5 (.inl ((mI S c3 5) + (1 : Int32)))) = ma_u (aG S) 131 (mI S 76 l1.toNatClampNeg).toNatClampNeg (mI S c3 5 + (1 : Int32)) := G_p5 hi3 rg_c3; have z1 := G_mo rp1_S4 (show mI S4 82 = mI (ma_put S c3 5 (.inl ((mI S c3 5) + (1 : Int32)))) 82 from funext (fun _ => zG_z hL_S4 rfl)) (show mI S4 83 = mI (ma_put S c3 5 (.inl ((mI S c3 5) + (1 : Int32)))) 83 from funext (fun _ => zG_z hL_S4 rfl)); rw [r82] at z1; have zz := ((G_pk (n := 8) (k := 4) (x := ((mI S4 82 8) + (mI S4 c3 2))) (xC_o (W := 75) rp0_S4).2 (by decide)).trans (congrArg (fun q => ma_u q 87 4 ((mI S4 82 8) + (mI S4 c3 2))) (show aG S4 = aG S4 from rfl))); rw [M1_n hi3 rg_c3 (by omega) z0 z1 rp0_S4 rfl] at zz; exact (Mf_st hi4 hi5 (by omega) (by omega) zz (by omega)).1)) (show qJg (aG (ma_put S4 82 8 (.inl ((mI S4 82 8) + (mI S4 c3 2))))) st ot o0 PP NN ((l1 + (1 : Int32))).toNatClampNeg from by first | (have r5 : mI (ma_put S c3 5 (.inl (mI S c3 5 + (1 : Int32)))) c3 5 = mI S c3 5 + (1 : Int32) := if_pos ⟨rfl, rfl⟩; have r82 : ∀ k, mI (ma_put S c3 5 (.inl (mI S c3 5 + (1 : Int32)))) 82 k = mI S 82 k := fun k => if_neg (fun z => by have := z.1; have := th_c3.1; omega); have r5i := congrArg Int32.toInt r5; have r4i := congrArg Int32.toInt (r82 4); have z0 : aG (ma_put S c3 5 (.inl ((mI S c3 5) + (1 : Int32)))) = ma_u (aG S) 131 (mI S 76 l1.toNatClampNeg).toNatClampNeg (mI S c3 5 + (1 : Int32)) := G_p5 hi3 rg_c3; have z1 := G_mo rp1_S4 (show mI S4 82 = mI (ma_put S c3 5 (.inl ((mI S c3 5) + (1 : Int32)))) 82 from funext (fun _ => zG_z hL_S4 rfl)) (show mI S4 83 = mI (ma_put S c3 5 (.inl ((mI S c3 5) + (1 : Int32)))) 83 from funext (fun _ => zG_z hL_S4 rfl)); rw [r82] at z1; have zz := ((G_pk (n := 8) (k := 4) (x := ((mI S4 82 8) + (mI S4 c3 2))) (xC_o (W := 75) rp0_S4).2 (by decide)).trans (congrArg (fun q => ma_u q 87 4 ((mI S4 82 8) + (mI S4 c3 2))) (show aG S4 = aG S4 from rfl))); rw [M1_n hi3 rg_c3 (by omega) z0 z1 rp0_S4 rfl] at zz; exact (Mf_st hi4 hi5 (by omega) (by omega) zz (by omega)).2))
        · skip
          have g34 := i_nlt h15
          have f35 := zG_s hI (0) (400000) (c := 82) (k := 6) (by decide)
          have q36 : (mI (ma_put S c3 5 (.inl ((mI S c3 5) + (1 : Int32)))) 82 6).toInt = (mI S 82 6).toInt := zp_th th_c3.1 (by decide)
          have f37 := zG_s hI10 (0) (400000) (c := 82) (k := 6) (by decide)
          refine sp_90_69_s (ab := (aS 75 (ma_put S c3 5 (.inl ((mI S c3 5) + (1 : Int32)))))) (R := (mR (ma_put S c3 5 (.inl ((mI S c3 5) + (1 : Int32)))) 70)) (y := ((mI S 76 l1.toNatClampNeg))) c3 ((mI (ma_put S c3 5 (.inl ((mI S c3 5) + (1 : Int32)))) 82 6)) (by omega) (by omega) (zJ82_dn hI10) th_c3 (show xB (ma_put S c3 5 (.inl ((mI S c3 5) + (1 : Int32)))) (mR (ma_put S c3 5 (.inl ((mI S c3 5) + (1 : Int32)))) 70) from by first | (exact xB_x (xC_t (k := 5) (x := ((mI S c3 5) + (1 : Int32))) (xC_o (W := 75) hi3) xW75 rg_c3 rfl).2)) (show aS 75 (ma_put S c3 5 (.inl ((mI S c3 5) + (1 : Int32)))) = (aS 75 (ma_put S c3 5 (.inl ((mI S c3 5) + (1 : Int32))))) from by first | (exact rfl)) (show zTa (mR (ma_put S c3 5 (.inl ((mI S c3 5) + (1 : Int32)))) 70) ((mI S 76 l1.toNatClampNeg)) = some c3 from by first | (exact rg_c3)) (show qMv (aS 75 (ma_put S c3 5 (.inl ((mI S c3 5) + (1 : Int32))))) ((mI S 76 l1.toNatClampNeg)).toNatClampNeg (mI (ma_put S c3 5 (.inl ((mI S c3 5) + (1 : Int32)))) 82 6) from by first | (have r5 : mI (ma_put S c3 5 (.inl (mI S c3 5 + (1 : Int32)))) c3 5 = mI S c3 5 + (1 : Int32) := if_pos ⟨rfl, rfl⟩; have r82 : ∀ k, mI (ma_put S c3 5 (.inl (mI S c3 5 + (1 : Int32)))) 82 k = mI S 82 k := fun k => if_neg (fun z => by have := z.1; have := th_c3.1; omega); have r5i := congrArg Int32.toInt r5; have r4i := congrArg Int32.toInt (r82 4); exact Qm_g hi5 (by omega) (by omega) hi3 rg_c3 (G_p5 hi3 rg_c3) ((if_pos (by omega)).trans (r82 _).symm)) | (have r5 : mI (ma_put S c3 5 (.inl (mI S c3 5 + (1 : Int32)))) c3 5 = mI S c3 5 + (1 : Int32) := if_pos ⟨rfl, rfl⟩; have r82 : ∀ k, mI (ma_put S c3 5 (.inl (mI S c3 5 + (1 : Int32)))) 82 k = mI S 82 k := fun k => if_neg (fun z => by have := z.1; have := th_c3.1; omega); have r5i := congrArg Int32.toInt r5; have r4i := congrArg Int32.toInt (r82 4); exact Qm_g hi5 (by omega) (by omega) hi3 rg_c3 (G_p5 hi3 rg_c3) ((if_neg (by omega)).trans (r82 _).symm))) (by omega) (fun S6 hL_S6 rp0_S6 rp1_S6 => zv_n ⟨zG_T hL_S6, ?_⟩)
          have hI_S6 := zJ82_up hI10 hL_S6
          have rp0_S6 : xB S6 (mR (ma_put S c3 5 (.inl ((mI S c3 5) + (1 : Int32)))) 70) := by
            have z := rp0_S6
            (try rw [show mI (ma_put S c3 5 (.inl ((mI S c3 5) + (1 : Int32)))) 65 = f 65 from funext (fun k => zG_z hI10 rfl)] at z)
            (try rw [show mI (ma_put S c3 5 (.inl ((mI S c3 5) + (1 : Int32)))) 64 1 = f 64 1 from zG_z hI10 rfl] at z)
            exact z
          have rp1_S6 : aS 75 S6 = aMo (aS 75 (ma_put S c3 5 (.inl ((mI S c3 5) + (1 : Int32))))) ((mI S 76 l1.toNatClampNeg)).toNatClampNeg (mI (ma_put S c3 5 (.inl ((mI S c3 5) + (1 : Int32)))) 82 6) := by
            have z := rp1_S6
            (try rw [show mI (ma_put S c3 5 (.inl ((mI S c3 5) + (1 : Int32)))) 65 = f 65 from funext (fun k => zG_z hI10 rfl)] at z)
            (try rw [show mI (ma_put S c3 5 (.inl ((mI S c3 5) + (1 : Int32)))) 64 1 = f 64 1 from zG_z hI10 rfl] at z)
            exact z
          refine ⟨zG_n hI_S6 th_c3, ?_⟩
          have q39 : (mI S6 82 6).toInt = (mI (ma_put S c3 5 (.inl ((mI S c3 5) + (1 : Int32)))) 82 6).toInt := zG_zi hL_S6 rfl
          have f40 := zG_s hI_S6 (0) (400000) (c := 82) (k := 6) (by decide)
          have f41 := zG_th hI_S6 th_c3
          first | have e42 : ((mI S6 82 6) + (mI S6 c3 2)).toInt = (mI S6 82 6).toInt + (mI S6 c3 2).toInt := i_add (by omega) (by omega) | have b43 := i_bd ((mI S6 82 6) + (mI S6 c3 2))
          have hI38 : zJ82 f r C Z N (ma_put S6 82 6 (.inl ((mI S6 82 6) + (mI S6 c3 2)))) := zG_sp hI_S6 (0) (400000) rfl (by decide) (by decide) (by decide) (show zJ82_x (mI S6) from zG_x hI_S6) (by omega) (by omega)
          first | have e44 : (l1 + (1 : Int32)).toInt = l1.toInt + (1) := i_addk rfl (by omega) (by omega) | have b45 := i_bd (l1 + (1 : Int32))
          have f46 := zG_s hI (0) (400000) (c := 82) (k := 8) (by decide)
          have q47 : (mI (ma_put S c3 5 (.inl ((mI S c3 5) + (1 : Int32)))) 82 8).toInt = (mI S 82 8).toInt := zp_th th_c3.1 (by decide)
          have f48 := zG_s hI10 (0) (400000) (c := 82) (k := 8) (by decide)
          have q49 : (mI S6 82 8).toInt = (mI (ma_put S c3 5 (.inl ((mI S c3 5) + (1 : Int32)))) 82 8).toInt := zG_zi hL_S6 rfl
          have f50 := zG_s hI_S6 (0) (400000) (c := 82) (k := 8) (by decide)
          have f51 := zG_s hI_S6 (0) (512) (c := 75) (k := 4) (by decide)
          exact IH _ (by omega) _ ((l1 + (1 : Int32))) rfl hI38 (by omega) (show ((mI S6 82 6) + (mI S6 c3 2)).toInt ≤ 1500 + 61 * ((l1 + (1 : Int32))).toInt from by omega) (show (mI S6 82 8).toInt ≤ 3000 + 61 * ((l1 + (1 : Int32))).toInt from by omega) (show xB (ma_put S6 82 6 (.inl ((mI S6 82 6) + (mI S6 c3 2)))) (mR (ma_put S6 82 6 (.inl ((mI S6 82 6) + (mI S6 c3 2)))) 70) from by first | (exact xB_x (xC_n (c := 82) (k := 6) (x := ((mI S6 82 6) + (mI S6 c3 2))) (xC_o (W := 75) rp0_S6) ⟨by decide, Or.inl ⟨rfl, rfl⟩⟩).2)) (show gMf ((mI S6 75 4).toInt - ((l1 + (1 : Int32))).toInt).toNat ((l1 + (1 : Int32))).toNatClampNeg (aG (ma_put S6 82 6 (.inl ((mI S6 82 6) + (mI S6 c3 2))))) = gMf (ab 75 4).toInt.toNat 0 (gM9 ab) from by first | (have r5 : mI (ma_put S c3 5 (.inl (mI S c3 5 + (1 : Int32)))) c3 5 = mI S c3 5 + (1 : Int32) := if_pos ⟨rfl, rfl⟩; have r82 : ∀ k, mI (ma_put S c3 5 (.inl (mI S c3 5 + (1 : Int32)))) 82 k = mI S 82 k := fun k => if_neg (fun z => by have := z.1; have := th_c3.1; omega); have r5i := congrArg Int32.toInt r5; have r4i := congrArg Int32.toInt (r82 4); have z0 : aG (ma_put S c3 5 (.inl ((mI S c3 5) + (1 : Int32)))) = ma_u (aG S) 131 (mI S 76 l1.toNatClampNeg).toNatClampNeg (mI S c3 5 + (1 : Int32)) := G_p5 hi3 rg_c3; have z1 := G_mo rp1_S6 (show mI S6 82 = mI (ma_put S c3 5 (.inl ((mI S c3 5) + (1 : Int32)))) 82 from funext (fun _ => zG_z hL_S6 rfl)) (show mI S6 83 = mI (ma_put S c3 5 (.inl ((mI S c3 5) + (1 : Int32)))) 83 from funext (fun _ => zG_z hL_S6 rfl)); rw [r82] at z1; have zz := ((G_pk (n := 6) (k := 10) (x := ((mI S6 82 6) + (mI S6 c3 2))) (xC_o (W := 75) rp0_S6).2 (by decide)).trans (congrArg (fun q => ma_u q 87 10 ((mI S6 82 6) + (mI S6 c3 2))) (show aG S6 = aG S6 from rfl))); rw [M1_y hi3 rg_c3 (by omega) z0 z1 rp0_S6 rfl] at zz; exact (Mf_st hi4 hi5 (by omega) (by omega) zz (by omega)).1)) (show qJg (aG (ma_put S6 82 6 (.inl ((mI S6 82 6) + (mI S6 c3 2))))) st ot o0 PP NN ((l1 + (1 : Int32))).toNatClampNeg from by first | (have r5 : mI (ma_put S c3 5 (.inl (mI S c3 5 + (1 : Int32)))) c3 5 = mI S c3 5 + (1 : Int32) := if_pos ⟨rfl, rfl⟩; have r82 : ∀ k, mI (ma_put S c3 5 (.inl (mI S c3 5 + (1 : Int32)))) 82 k = mI S 82 k := fun k => if_neg (fun z => by have := z.1; have := th_c3.1; omega); have r5i := congrArg Int32.toInt r5; have r4i := congrArg Int32.toInt (r82 4); have z0 : aG (ma_put S c3 5 (.inl ((mI S c3 5) + (1 : Int32)))) = ma_u (aG S) 131 (mI S 76 l1.toNatClampNeg).toNatClampNeg (mI S c3 5 + (1 : Int32)) := G_p5 hi3 rg_c3; have z1 := G_mo rp1_S6 (show mI S6 82 = mI (ma_put S c3 5 (.inl ((mI S c3 5) + (1 : Int32)))) 82 from funext (fun _ => zG_z hL_S6 rfl)) (show mI S6 83 = mI (ma_put S c3 5 (.inl ((mI S c3 5) + (1 : Int32)))) 83 from funext (fun _ => zG_z hL_S6 rfl)); rw [r82] at z1; have zz := ((G_pk (n := 6) (k := 10) (x := ((mI S6 82 6) + (mI S6 c3 2))) (xC_o (W := 75) rp0_S6).2 (by decide)).trans (congrArg (fun q => ma_u q 87 10 ((mI S6 82 6) + (mI S6 c3 2))) (show aG S6 = aG S6 from rfl))); rw [M1_y hi3 rg_c3 (by omega) z0 z1 rp0_S6 rfl] at zz; exact (Mf_st hi4 hi5 (by omega) (by omega) zz (by omega)).2))
theorem sp_15_82_sy {X : Nat × (Nat → Int32)} {d w : Nat} {f : Nat → Nat → Int32} {r : Nat → Nat → Option Nat} {C Z N : Nat} {Q : Option ma_V ⊕ Nat → ma_S → Prop} {ab : Nat→Nat→Int32} {st : Int} {ot : Int} {o0 : Int} {PP : Nat→Int} {NN : Nat→Int} {S : ma_S}  (hd : 3 ≤ d) (hw : 135 ≤ w) (hI : zJ82 f r C Z N S) (hpre0 : (mI S 82 6).toInt ≤ 1500) (hpre1 : xB S (mR S 70)) (hpre2 : aG S = ab) (hpre3 : qJg (gM9 ab) st ot o0 PP NN 0) (K : ∀ S', zJ82 f r C Z N S' → (xB S' (mR S' 70)) → (aG S' = gMf (ab 75 4).toInt.toNat 0 (gM9 ab)) → Q (.inl none) S') : ma_wp X d w 15 0 [(0, .inr (.inr (some 82)))] [] S Q := by
  refine g_15_82_sy_0  (by omega) (by omega) (zG_T hI) ?_
  have x2 : (mI S 82 3).toInt ≤ (mI S 82 7).toInt ∧ (mI S 82 7).toInt ≤ (mI S 82 3).toInt + (mI S 82 2).toInt := zG_x hI
  have f3 := zG_s hI (0) (1500) (c := 82) (k := 3) (by decide)
  have f4 := zG_s hI (0) (1500) (c := 82) (k := 2) (by decide)
  first | have e5 : ((mI S 82 3) + (mI S 82 2)).toInt = (mI S 82 3).toInt + (mI S 82 2).toInt := i_add (by omega) (by omega) | have b6 := i_bd ((mI S 82 3) + (mI S 82 2))
  first | have e7 : (((mI S 82 3) + (mI S 82 2)) + (mI S 82 3)).toInt = ((mI S 82 3) + (mI S 82 2)).toInt + (mI S 82 3).toInt := i_add (by omega) (by omega) | have b8 := i_bd (((mI S 82 3) + (mI S 82 2)) + (mI S 82 3))
  have f9 := zG_s hI (0) (3000) (c := 82) (k := 7) (by decide)
  first | have e10 : ((((mI S 82 3) + (mI S 82 2)) + (mI S 82 3)) - (mI S 82 7)).toInt = (((mI S 82 3) + (mI S 82 2)) + (mI S 82 3)).toInt - (mI S 82 7).toInt := i_sub (by omega) (by omega) | have b11 := i_bd ((((mI S 82 3) + (mI S 82 2)) + (mI S 82 3)) - (mI S 82 7))
  have hI1 : zJ82 f r C Z N (ma_put S 82 7 (.inl ((((mI S 82 3) + (mI S 82 2)) + (mI S 82 3)) - (mI S 82 7)))) := zG_sp hI (0) (3000) rfl (by decide) (by decide) (by decide) (show (mI S 82 3).toInt ≤ ((((mI S 82 3) + (mI S 82 2)) + (mI S 82 3)) - (mI S 82 7)).toInt ∧ ((((mI S 82 3) + (mI S 82 2)) + (mI S 82 3)) - (mI S 82 7)).toInt ≤ (mI S 82 3).toInt + (mI S 82 2).toInt from by omega) (by omega) (by omega)
  have hI12 : zJ82 f r C Z N (ma_put (ma_put S 82 7 (.inl ((((mI S 82 3) + (mI S 82 2)) + (mI S 82 3)) - (mI S 82 7)))) 82 8 (.inl ((((mI S 82 3) + (mI S 82 2)) + (mI S 82 3)) - (mI S 82 7)))) := zG_sp hI1 (0) (400000) rfl (by decide) (by decide) (by decide) (show zJ82_x (mI (ma_put S 82 7 (.inl ((((mI S 82 3) + (mI S 82 2)) + (mI S 82 3)) - (mI S 82 7))))) from zG_x hI1) (by omega) (by omega)
  have li13 : (0 : Int32).toInt = 0 := rfl
  have f14 := zG_s hI (0) (400000) (c := 82) (k := 6) (by decide)
  have f15 := zG_s hI (0) (512) (c := 75) (k := 4) (by decide)
  exact lp_15_82_sy_33 (by omega) (by omega) K _ _ ((0 : Int32)) rfl hI12 (by omega) (show (mI S 82 6).toInt ≤ 1500 + 61 * ((0 : Int32)).toInt from by omega) (show ((((mI S 82 3) + (mI S 82 2)) + (mI S 82 3)) - (mI S 82 7)).toInt ≤ 3000 + 61 * ((0 : Int32)).toInt from by omega) (show xB (ma_put (ma_put S 82 7 (.inl ((((mI S 82 3) + (mI S 82 2)) + (mI S 82 3)) - (mI S 82 7)))) 82 8 (.inl ((((mI S 82 3) + (mI S 82 2)) + (mI S 82 3)) - (mI S 82 7)))) (mR (ma_put (ma_put S 82 7 (.inl ((((mI S 82 3) + (mI S 82 2)) + (mI S 82 3)) - (mI S 82 7)))) 82 8 (.inl ((((mI S 82 3) + (mI S 82 2)) + (mI S 82 3)) - (mI S 82 7)))) 70) from by first | (exact xB_x (xC_n (c := 82) (k := 8) (x := ((((mI S 82 3) + (mI S 82 2)) + (mI S 82 3)) - (mI S 82 7))) (xC_n (c := 82) (k := 7) (x := ((((mI S 82 3) + (mI S 82 2)) + (mI S 82 3)) - (mI S 82 7))) (xC_o (W := 75) hpre1) ⟨by decide, Or.inl ⟨rfl, rfl⟩⟩) ⟨by decide, Or.inl ⟨rfl, rfl⟩⟩).2)) (show gMf ((mI S 75 4).toInt - ((0 : Int32)).toInt).toNat ((0 : Int32)).toNatClampNeg (aG (ma_put (ma_put S 82 7 (.inl ((((mI S 82 3) + (mI S 82 2)) + (mI S 82 3)) - (mI S 82 7)))) 82 8 (.inl ((((mI S 82 3) + (mI S 82 2)) + (mI S 82 3)) - (mI S 82 7))))) = gMf (ab 75 4).toInt.toNat 0 (gM9 ab) from by first | (have eX : mI S 82 3 + mI S 82 2 + mI S 82 3 - mI S 82 7 = ab 87 9 + ab 87 5 + ab 87 9 - ab 87 3 := (by rw [← hpre2]; rfl); rw [((G_pk (n := 8) (k := 4) (x := ((((mI S 82 3) + (mI S 82 2)) + (mI S 82 3)) - (mI S 82 7))) (xC_n (c := 82) (k := 7) (x := ((((mI S 82 3) + (mI S 82 2)) + (mI S 82 3)) - (mI S 82 7))) (xC_o (W := 75) hpre1) ⟨by decide, Or.inl ⟨rfl, rfl⟩⟩).2 (by decide)).trans (congrArg (fun q => ma_u q 87 4 ((((mI S 82 3) + (mI S 82 2)) + (mI S 82 3)) - (mI S 82 7))) ((G_pk (n := 7) (k := 3) (x := ((((mI S 82 3) + (mI S 82 2)) + (mI S 82 3)) - (mI S 82 7))) (xC_o (W := 75) hpre1).2 (by decide)).trans (congrArg (fun q => ma_u q 87 3 ((((mI S 82 3) + (mI S 82 2)) + (mI S 82 3)) - (mI S 82 7))) (show aG S = aG S from rfl))))), hpre2, eX]; have e4 : ab 75 4 = mI S 75 4 := (by rw [← hpre2]; exact (aG_o (by decide) (by decide)).trans rfl); rw [← e4, show ((ab 75 4).toInt - (0 : Int32).toInt).toNat = (ab 75 4).toInt.toNat from by rw [show (0 : Int32).toInt = 0 from rfl, Int.sub_zero]]; rfl)) (show qJg (aG (ma_put (ma_put S 82 7 (.inl ((((mI S 82 3) + (mI S 82 2)) + (mI S 82 3)) - (mI S 82 7)))) 82 8 (.inl ((((mI S 82 3) + (mI S 82 2)) + (mI S 82 3)) - (mI S 82 7))))) st ot o0 PP NN ((0 : Int32)).toNatClampNeg from by first | (have eX : mI S 82 3 + mI S 82 2 + mI S 82 3 - mI S 82 7 = ab 87 9 + ab 87 5 + ab 87 9 - ab 87 3 := (by rw [← hpre2]; rfl); rw [((G_pk (n := 8) (k := 4) (x := ((((mI S 82 3) + (mI S 82 2)) + (mI S 82 3)) - (mI S 82 7))) (xC_n (c := 82) (k := 7) (x := ((((mI S 82 3) + (mI S 82 2)) + (mI S 82 3)) - (mI S 82 7))) (xC_o (W := 75) hpre1) ⟨by decide, Or.inl ⟨rfl, rfl⟩⟩).2 (by decide)).trans (congrArg (fun q => ma_u q 87 4 ((((mI S 82 3) + (mI S 82 2)) + (mI S 82 3)) - (mI S 82 7))) ((G_pk (n := 7) (k := 3) (x := ((((mI S 82 3) + (mI S 82 2)) + (mI S 82 3)) - (mI S 82 7))) (xC_o (W := 75) hpre1).2 (by decide)).trans (congrArg (fun q => ma_u q 87 3 ((((mI S 82 3) + (mI S 82 2)) + (mI S 82 3)) - (mI S 82 7))) (show aG S = aG S from rfl))))), hpre2, eX]; exact hpre3))
