/-! from 95.u23 -/
/-! AGES, the class (written by wip/tools/gen15y.py) -/
theorem g_15_82_sy_0 {X : Nat × (Nat → Int32)} {d w : Nat} {S : ma_S} {Q : Option ma_V ⊕ Nat → ma_S → Prop}  (hd : 3 ≤ d) (hw : 113 ≤ w) (hS : zT S) (h : ma_wp X d w 15 33 [(0, .inr (.inr (some 82))), (1, .inl (0 : Int32))] [] (ma_put (ma_put S 82 7 (.inl ((((mI S 82 3) + (mI S 82 2)) + (mI S 82 3)) - (mI S 82 7)))) 82 8 (.inl ((((mI S 82 3) + (mI S 82 2)) + (mI S 82 3)) - (mI S 82 7)))) Q) : ma_wp X d w 15 0 [(0, .inr (.inr (some 82)))] [] S Q := by
  refine zw_push hm_15 dX0_moveKept_0 (v := .inr (.inr (some 82))) rfl ?_
  refine zw_push hm_15 dX0_moveKept_1 (v := .inr (.inr (some 82))) rfl ?_
  refine zw_gf hm_15 dX0_moveKept_2 (v := .inl (mI S 82 3)) (zT_is hS s_82) (zT_t hS s_82) rfl f_1_19_1 rfl ?_
  refine zw_push hm_15 dX0_moveKept_5 (v := .inr (.inr (some 82))) rfl ?_
  refine zw_gf hm_15 dX0_moveKept_6 (v := .inl (mI S 82 2)) (zT_is hS s_82) (zT_t hS s_82) rfl f_1_15_1 rfl ?_
  refine zw_stk hm_15 dX0_moveKept_9 (st₉ := [.inl ((mI S 82 3) + (mI S 82 2)), .inr (.inr (some 82))]) rfl rfl ?_
  refine zw_push hm_15 dX0_moveKept_10 (v := .inr (.inr (some 82))) rfl ?_
  refine zw_gf hm_15 dX0_moveKept_11 (v := .inl (mI S 82 3)) (zT_is hS s_82) (zT_t hS s_82) rfl f_1_19_1 rfl ?_
  refine zw_stk hm_15 dX0_moveKept_14 (st₉ := [.inl (((mI S 82 3) + (mI S 82 2)) + (mI S 82 3)), .inr (.inr (some 82))]) rfl rfl ?_
  refine zw_push hm_15 dX0_moveKept_15 (v := .inr (.inr (some 82))) rfl ?_
  refine zw_gf hm_15 dX0_moveKept_16 (v := .inl (mI S 82 7)) (zT_is hS s_82) (zT_t hS s_82) rfl f_1_31_1 rfl ?_
  refine zw_stk hm_15 dX0_moveKept_19 (st₉ := [.inl ((((mI S 82 3) + (mI S 82 2)) + (mI S 82 3)) - (mI S 82 7)), .inr (.inr (some 82))]) rfl rfl ?_
  refine zw_pf hm_15 dX0_moveKept_20 (zT_is hS s_82) (zT_t hS s_82) p_1_31_1 zk_int ?_
  refine zw_push hm_15 dX0_moveKept_23 (v := .inr (.inr (some 82))) rfl ?_
  refine zw_push hm_15 dX0_moveKept_24 (v := .inr (.inr (some 82))) rfl ?_
  refine zw_gf hm_15 dX0_moveKept_25 (v := .inl ((((mI S 82 3) + (mI S 82 2)) + (mI S 82 3)) - (mI S 82 7))) (zT_is (zT_pi hS) s_82) (zT_t (zT_pi hS) s_82) rfl f_1_31_1 rfl ?_
  refine zw_pf hm_15 dX0_moveKept_28 (zT_is (zT_pi hS) s_82) (zT_t (zT_pi hS) s_82) p_1_34_1 zk_int ?_
  refine zw_push hm_15 dX0_moveKept_31 (v := .inl (0 : Int32)) rfl ?_
  refine zw_sto hm_15 dX0_moveKept_32 [(1, .inl (0 : Int32)), (0, .inr (.inr (some 82)))] rfl rfl rfl ?_
  exact zw_sub (ma_nd_of (ks := [0, 1]) rfl (by decide)) (ma_nd_of (ks := [1, 0]) rfl (by decide)) (ma_le_cons rfl (ma_le_cons rfl (ma_le_nil _))) h
theorem g_15_82_sy_33 {X : Nat × (Nat → Int32)} {d w : Nat} {S : ma_S} {Q : Option ma_V ⊕ Nat → ma_S → Prop} (l1 : Int32) (hd : 3 ≤ d) (hw : 135 ≤ w) (hS : zT S) (h : if (mI S 75 4) ≤ l1 then (Q (.inl none) S) else (ma_wp X (d - 1) (w - 21) 124 0 [(0, .inr (.inr (some 75))), (1, .inl l1)] [] S (zo (fun v2 S1 => zT S1 ∧ ((v2 = none → ma_wp X d w 15 33 [(0, .inr (.inr (some 82))), (1, .inl (l1 + (1 : Int32)))] [] S1 Q) ∧ (∀ c3, v2 = some c3 → (126 ≤ c3 ∧ c3 < mN S1) ∧ ((126 ≤ c3 ∧ c3 < mN S1) ∧ ((126 ≤ c3 ∧ c3 < mN (ma_put S1 c3 5 (.inl ((mI S1 c3 5) + (1 : Int32))))) ∧ (if (mI (ma_put S1 c3 5 (.inl ((mI S1 c3 5) + (1 : Int32)))) c3 5) < (mI (ma_put S1 c3 5 (.inl ((mI S1 c3 5) + (1 : Int32)))) 82 4) then (ma_wp X ((d - 1) - 1) ((w - 21) - 24) 90 0 [(0, .inr (.inr (some 69))), (1, .inr (.inr (some c3))), (2, .inl (mI (ma_put S1 c3 5 (.inl ((mI S1 c3 5) + (1 : Int32)))) 82 8))] [] (ma_put S1 c3 5 (.inl ((mI S1 c3 5) + (1 : Int32)))) (zv (fun S4 => zT S4 ∧ ((126 ≤ c3 ∧ c3 < mN S4) ∧ (ma_wp X d w 15 33 [(0, .inr (.inr (some 82))), (1, .inl (l1 + (1 : Int32)))] [] (ma_put S4 82 8 (.inl ((mI S4 82 8) + (mI S4 c3 2)))) Q))) (fun _ _ => False))) else (ma_wp X ((d - 1) - 1) ((w - 21) - 24) 90 0 [(0, .inr (.inr (some 69))), (1, .inr (.inr (some c3))), (2, .inl (mI (ma_put S1 c3 5 (.inl ((mI S1 c3 5) + (1 : Int32)))) 82 6))] [] (ma_put S1 c3 5 (.inl ((mI S1 c3 5) + (1 : Int32)))) (zv (fun S6 => zT S6 ∧ ((126 ≤ c3 ∧ c3 < mN S6) ∧ (ma_wp X d w 15 33 [(0, .inr (.inr (some 82))), (1, .inl (l1 + (1 : Int32)))] [] (ma_put S6 82 6 (.inl ((mI S6 82 6) + (mI S6 c3 2)))) Q))) (fun _ _ => False))))))))) (fun x S9 => Q (.inr x) S9)))) : ma_wp X d w 15 33 [(0, .inr (.inr (some 82))), (1, .inl l1)] [] S Q := by
  refine zw_push hm_15 dX0_moveKept_33 (v := .inl l1) rfl ?_
  refine zw_push hm_15 dX0_moveKept_34 (v := .inr (.inr (some 82))) rfl ?_
  refine zw_gf hm_15 dX0_moveKept_35 (v := .inr (.inr (some 75))) (zT_is hS s_82) (zT_t hS s_82) rfl f_1_70_1 (zT_f hS r_82_1) ?_
  refine zw_gf hm_15 dX0_moveKept_38 (v := .inl (mI S 75 4)) (zT_is hS s_75) (zT_t hS s_75) rfl f_1_147_10 rfl ?_
  refine zw_if2 hm_15 dX0_moveKept_41 (t := 68) rfl zc2_ge ?_ ?_
  · intro hc
    rw [if_pos hc] at h
    exact zw_vret hm_15 dX0_moveKept_68 h
  · intro hc
    rw [if_neg hc] at h
    refine zw_push hm_15 dX0_moveKept_44 (v := .inr (.inr (some 82))) rfl ?_
    refine zw_gf hm_15 dX0_moveKept_45 (v := .inr (.inr (some 75))) (zT_is hS s_82) (zT_t hS s_82) rfl f_1_70_1 (zT_f hS r_82_1) ?_
    refine zw_push hm_15 dX0_moveKept_48 (v := .inl l1) rfl ?_
    refine zw_cv hm_15 dX0_moveKept_49 v_1_150_10 hm_124 [.inl l1] [] rfl (zT_rt hS s_75 rfl) ⟨by omega, by omega⟩ rfl (zw_mono h (zo_go ?_ ?_))
    · intro v2 S1 hv
      obtain ⟨hS1, h⟩ := hv
      refine zw_sto hm_15 dX0_moveKept_52 [(2, .inr (.inr v2)), (0, .inr (.inr (some 82))), (1, .inl l1)] rfl rfl rfl ?_
      refine zw_push hm_15 dX0_moveKept_53 (v := .inr (.inr v2)) rfl ?_
      refine zw_ifnull hm_15 dX0_moveKept_54 (t := 62) rfl ?_ ?_
      · intro hc
        have h := h.1 hc
        (try rw [hc])
        show ma_wp X d w 15 62 [(2, .inr (.inr none)), (0, .inr (.inr (some 82))), (1, .inl l1)] [] S1 _
        refine zw_sto hm_15 dX0_moveKept_62 [(1, .inl (l1 + (1 : Int32))), (2, .inr (.inr none)), (0, .inr (.inr (some 82)))] rfl rfl rfl ?_
        refine zw_goto hm_15 dX0_moveKept_65 (t := 33) rfl ?_
        exact zw_sub (ma_nd_of (ks := [0, 1]) rfl (by decide)) (ma_nd_of (ks := [1, 2, 0]) rfl (by decide)) (ma_le_cons rfl (ma_le_cons rfl (ma_le_nil _))) h
      · intro c3 hc
        have h := h.2 c3 hc
        (try rw [hc])
        show ma_wp X d w 15 57 [(2, .inr (.inr (some c3))), (0, .inr (.inr (some 82))), (1, .inl l1)] [] S1 _
        refine zw_push hm_15 dX0_moveKept_57 (v := .inr (.inr (some 82))) rfl ?_
        refine zw_push hm_15 dX0_moveKept_58 (v := .inr (.inr (some c3))) rfl ?_
        refine zw_cv hm_15 dX0_moveKept_59 v_1_153_1 hm_16 [.inr (.inr (some c3))] [] rfl (zT_rt hS1 s_82 rfl) ⟨by omega, by omega⟩ rfl ?_
        show ma_wp X (d - 1) (w - 21) 16 0 [(0, .inr (.inr (some 82))), (1, .inr (.inr (some c3)))] [] S1 _
        refine zw_push hm_16 dX0_moveOlder_0 (v := .inr (.inr (some c3))) rfl ?_
        refine zw_stk hm_16 dX0_moveOlder_1 (st₉ := [.inr (.inr (some c3)), .inr (.inr (some c3))]) rfl rfl ?_
        obtain ⟨hg, h⟩ := h
        refine zw_gf hm_16 dX0_moveOlder_2 (v := .inl (mI S1 c3 5)) (zT_tis hS1 hg) (zT_tt hS1 hg) rfl f_1_126_9 rfl ?_
        refine zw_push hm_16 dX0_moveOlder_5 (v := .inl (1 : Int32)) rfl ?_
        refine zw_stk hm_16 dX0_moveOlder_6 (st₉ := [.inl ((mI S1 c3 5) + (1 : Int32)), .inr (.inr (some c3))]) rfl rfl ?_
        obtain ⟨hg, h⟩ := h
        refine zw_pf hm_16 dX0_moveOlder_7 (zT_tis hS1 hg) (zT_tt hS1 hg) p_1_126_9 zk_int ?_
        refine zw_push hm_16 dX0_moveOlder_10 (v := .inr (.inr (some c3))) rfl ?_
        obtain ⟨hg, h⟩ := h
        refine zw_gf hm_16 dX0_moveOlder_11 (v := .inl (mI (ma_put S1 c3 5 (.inl ((mI S1 c3 5) + (1 : Int32)))) c3 5)) (zT_tis (zT_pi hS1) hg) (zT_tt (zT_pi hS1) hg) rfl f_1_126_9 rfl ?_
        refine zw_push hm_16 dX0_moveOlder_14 (v := .inr (.inr (some 82))) rfl ?_
        refine zw_gf hm_16 dX0_moveOlder_15 (v := .inl (mI (ma_put S1 c3 5 (.inl ((mI S1 c3 5) + (1 : Int32)))) 82 4)) (zT_is (zT_pi hS1) s_82) (zT_t (zT_pi hS1) s_82) rfl f_1_22_1 rfl ?_
        refine zw_if2 hm_16 dX0_moveOlder_18 (t := 49) rfl zc2_lt ?_ ?_
        · intro hc
          rw [if_pos hc] at h
          refine zw_push hm_16 dX0_moveOlder_49 (v := .inr (.inr (some 82))) rfl ?_
          refine zw_gf hm_16 dX0_moveOlder_50 (v := .inr (.inr (some 69))) (zT_is (zT_pi hS1) s_82) (zT_t (zT_pi hS1) s_82) rfl f_1_80_1 (zT_f (zT_pi hS1) r_82_0) ?_
          refine zw_push hm_16 dX0_moveOlder_53 (v := .inr (.inr (some c3))) rfl ?_
          refine zw_push hm_16 dX0_moveOlder_54 (v := .inr (.inr (some 82))) rfl ?_
          refine zw_gf hm_16 dX0_moveOlder_55 (v := .inl (mI (ma_put S1 c3 5 (.inl ((mI S1 c3 5) + (1 : Int32)))) 82 8)) (zT_is (zT_pi hS1) s_82) (zT_t (zT_pi hS1) s_82) rfl f_1_34_1 rfl ?_
          refine zw_cv hm_16 dX0_moveOlder_58 v_1_156_7 hm_90 [.inl (mI (ma_put S1 c3 5 (.inl ((mI S1 c3 5) + (1 : Int32)))) 82 8), .inr (.inr (some c3))] [] rfl (zT_rt (zT_pi hS1) s_69 rfl) ⟨by omega, by omega⟩ rfl (zw_mono h (zv_go ?_ ?_))
          · intro S4 hv
            obtain ⟨hS4, h⟩ := hv
            refine zw_push hm_16 dX0_moveOlder_61 (v := .inr (.inr (some 82))) rfl ?_
            refine zw_stk hm_16 dX0_moveOlder_62 (st₉ := [.inr (.inr (some 82)), .inr (.inr (some 82))]) rfl rfl ?_
            refine zw_gf hm_16 dX0_moveOlder_63 (v := .inl (mI S4 82 8)) (zT_is hS4 s_82) (zT_t hS4 s_82) rfl f_1_34_1 rfl ?_
            refine zw_push hm_16 dX0_moveOlder_66 (v := .inr (.inr (some c3))) rfl ?_
            obtain ⟨hg, h⟩ := h
            refine zw_gf hm_16 dX0_moveOlder_67 (v := .inl (mI S4 c3 2)) (zT_tis hS4 hg) (zT_tt hS4 hg) rfl f_1_67_9 rfl ?_
            refine zw_stk hm_16 dX0_moveOlder_70 (st₉ := [.inl ((mI S4 82 8) + (mI S4 c3 2)), .inr (.inr (some 82))]) rfl rfl ?_
            refine zw_pf hm_16 dX0_moveOlder_71 (zT_is hS4 s_82) (zT_t hS4 s_82) p_1_34_1 zk_int ?_
            refine zw_vret hm_16 dX0_moveOlder_74 ?_
            show ma_wp X d w 15 62 [(2, .inr (.inr (some c3))), (0, .inr (.inr (some 82))), (1, .inl l1)] [] (ma_put S4 82 8 (.inl ((mI S4 82 8) + (mI S4 c3 2)))) _
            refine zw_sto hm_15 dX0_moveKept_62 [(1, .inl (l1 + (1 : Int32))), (2, .inr (.inr (some c3))), (0, .inr (.inr (some 82)))] rfl rfl rfl ?_
            refine zw_goto hm_15 dX0_moveKept_65 (t := 33) rfl ?_
            exact zw_sub (ma_nd_of (ks := [0, 1]) rfl (by decide)) (ma_nd_of (ks := [1, 2, 0]) rfl (by decide)) (ma_le_cons rfl (ma_le_cons rfl (ma_le_nil _))) h
          · intro x S9 hx
            exact hx.elim
        · intro hc
          rw [if_neg hc] at h
          refine zw_push hm_16 dX0_moveOlder_21 (v := .inr (.inr (some 82))) rfl ?_
          refine zw_gf hm_16 dX0_moveOlder_22 (v := .inr (.inr (some 69))) (zT_is (zT_pi hS1) s_82) (zT_t (zT_pi hS1) s_82) rfl f_1_80_1 (zT_f (zT_pi hS1) r_82_0) ?_
          refine zw_push hm_16 dX0_moveOlder_25 (v := .inr (.inr (some c3))) rfl ?_
          refine zw_push hm_16 dX0_moveOlder_26 (v := .inr (.inr (some 82))) rfl ?_
          refine zw_gf hm_16 dX0_moveOlder_27 (v := .inl (mI (ma_put S1 c3 5 (.inl ((mI S1 c3 5) + (1 : Int32)))) 82 6)) (zT_is (zT_pi hS1) s_82) (zT_t (zT_pi hS1) s_82) rfl f_1_28_1 rfl ?_
          refine zw_cv hm_16 dX0_moveOlder_30 v_1_156_7 hm_90 [.inl (mI (ma_put S1 c3 5 (.inl ((mI S1 c3 5) + (1 : Int32)))) 82 6), .inr (.inr (some c3))] [] rfl (zT_rt (zT_pi hS1) s_69 rfl) ⟨by omega, by omega⟩ rfl (zw_mono h (zv_go ?_ ?_))
          · intro S6 hv
            obtain ⟨hS6, h⟩ := hv
            refine zw_push hm_16 dX0_moveOlder_33 (v := .inr (.inr (some 82))) rfl ?_
            refine zw_stk hm_16 dX0_moveOlder_34 (st₉ := [.inr (.inr (some 82)), .inr (.inr (some 82))]) rfl rfl ?_
            refine zw_gf hm_16 dX0_moveOlder_35 (v := .inl (mI S6 82 6)) (zT_is hS6 s_82) (zT_t hS6 s_82) rfl f_1_28_1 rfl ?_
            refine zw_push hm_16 dX0_moveOlder_38 (v := .inr (.inr (some c3))) rfl ?_
            obtain ⟨hg, h⟩ := h
            refine zw_gf hm_16 dX0_moveOlder_39 (v := .inl (mI S6 c3 2)) (zT_tis hS6 hg) (zT_tt hS6 hg) rfl f_1_67_9 rfl ?_
            refine zw_stk hm_16 dX0_moveOlder_42 (st₉ := [.inl ((mI S6 82 6) + (mI S6 c3 2)), .inr (.inr (some 82))]) rfl rfl ?_
            refine zw_pf hm_16 dX0_moveOlder_43 (zT_is hS6 s_82) (zT_t hS6 s_82) p_1_28_1 zk_int ?_
            refine zw_goto hm_16 dX0_moveOlder_46 (t := 74) rfl ?_
            refine zw_vret hm_16 dX0_moveOlder_74 ?_
            show ma_wp X d w 15 62 [(2, .inr (.inr (some c3))), (0, .inr (.inr (some 82))), (1, .inl l1)] [] (ma_put S6 82 6 (.inl ((mI S6 82 6) + (mI S6 c3 2)))) _
            refine zw_sto hm_15 dX0_moveKept_62 [(1, .inl (l1 + (1 : Int32))), (2, .inr (.inr (some c3))), (0, .inr (.inr (some 82)))] rfl rfl rfl ?_
            refine zw_goto hm_15 dX0_moveKept_65 (t := 33) rfl ?_
            exact zw_sub (ma_nd_of (ks := [0, 1]) rfl (by decide)) (ma_nd_of (ks := [1, 2, 0]) rfl (by decide)) (ma_le_cons rfl (ma_le_cons rfl (ma_le_nil _))) h
          · intro x S9 hx
            exact hx.elim
    · intro x S9 hx
      exact ⟨by decide, hx⟩
theorem lp_15_82_sy_33 {X : Nat × (Nat → Int32)} {d w : Nat} {f : Nat → Nat → Int32} {r : Nat → Nat → Option Nat} {C Z N : Nat} {Q : Option ma_V ⊕ Nat → ma_S → Prop} {ab : Nat→Nat→Int32} {st : Int} {ot : Int} {o0 : Int} {PP : Nat→Int} {NN : Nat→Int} (hd : 3 ≤ d) (hw : 135 ≤ w) (K : ∀ S₉, zJ82 f r C Z N S₉ → (xB S₉ (mR S₉ 70)) → (aG S₉ = gMf (ab 75 4).toInt.toNat 0 (gM9 ab)) → Q (.inl none) S₉) : ∀ (n : Nat) (S : ma_S) (l1 : Int32), (512 - l1.toInt).toNat = n → zJ82 f r C Z N S → (0 ≤ l1.toInt) → ((mI S 82 6).toInt ≤ 1500 + 61 * l1.toInt) → ((mI S 82 8).toInt ≤ 3000 + 61 * l1.toInt) → (xB S (mR S 70)) → (gMf ((mI S 75 4).toInt - l1.toInt).toNat l1.toNatClampNeg (aG S) = gMf (ab 75 4).toInt.toNat 0 (gM9 ab)) → (qJg (aG S) st ot o0 PP NN l1.toNatClampNeg) → ma_wp X d w 15 33 [(0, .inr (.inr (some 82))), (1, .inl l1)] [] S Q := by
  intro n
  induction n using Nat.strongRecOn with
  | _ n IH =>
    intro S l1 hmu hI  hi0 hi1 hi2 hi3 hi4 hi5
    refine g_15_82_sy_33 l1 (by omega) (by omega) (zG_T hI) ?_
    have f1 := zG_s hI (0) (512) (c := 75) (k := 4) (by decide)
    have b2 := i_bd l1
    refine zd (fun h3 => ?_) (fun h3 => ?_)
    · skip
      have g4 := i_le h3
      exact K _ hI (show xB S (mR S 70) from by first | (exact xB_x (xC_o (W := 75) hi3).2)) (show aG S = gMf (ab 75 4).toInt.toNat 0 (gM9 ab) from by first | (have z := hi4; rw [show ((mI S 75 4).toInt - l1.toInt).toNat = 0 from by omega] at z; exact z))
    · skip
      have g5 := i_nle h3
      refine sp_124_75_s (l1) (by omega) (by omega) (zJ82_dn hI) (show xB S (mR S 70) from by first | (exact xB_x (xC_o (W := 75) hi3).2)) (by omega) (show l1.toInt < (mI S 75 4).toInt from by omega) (fun v2 S1 eS_S1 hq_v2 rp0_S1 => zo_n ⟨(by rw [eS_S1]; exact zG_T hI), ?_⟩)
      replace eS_S1 := eS_S1.symm; subst eS_S1
      have rp0_S1 : v2 = zTa (mR S 70) (mI S 76 l1.toNatClampNeg) := rp0_S1
      refine ⟨fun hc => ?_, fun c3 hc => ?_⟩
      · skip
        have rn_c3 : zTa (mR S 70) (mI S 76 l1.toNatClampNeg) = none := rp0_S1.symm.trans hc
        first | have e6 : (l1 + (1 : Int32)).toInt = l1.toInt + (1) := i_addk rfl (by omega) (by omega) | have b7 := i_bd (l1 + (1 : Int32))
        have f8 := zG_s hI (0) (400000) (c := 82) (k := 6) (by decide)
        have f9 := zG_s hI (0) (400000) (c := 82) (k := 8) (by decide)
        exact IH _ (by omega) _ ((l1 + (1 : Int32))) rfl hI (by omega) (show (mI S 82 6).toInt ≤ 1500 + 61 * ((l1 + (1 : Int32))).toInt from by omega) (show (mI S 82 8).toInt ≤ 3000 + 61 * ((l1 + (1 : Int32))).toInt from by omega) (show xB S (mR S 70) from by first | (exact (Jg_no hi5 (by omega) (by omega) hi3 rn_c3).elim)) (show gMf ((mI S 75 4).toInt - ((l1 + (1 : Int32))).toInt).toNat ((l1 + (1 : Int32))).toNatClampNeg (aG S) = gMf (ab 75 4).toInt.toNat 0 (gM9 ab) from by first | (exact (Jg_no hi5 (by omega) (by omega) hi3 rn_c3).elim)) (show qJg (aG S) st ot o0 PP NN ((l1 + (1 : Int32))).toNatClampNeg from by first | (exact (Jg_no hi5 (by omega) (by omega) hi3 rn_c3).elim))
      · skip
        have th_c3 := hq_v2 c3 hc
        have rg_c3 : zTa (mR S 70) (mI S 76 l1.toNatClampNeg) = some c3 := rp0_S1.symm.trans hc
        subst hc
        refine ⟨zG_n hI th_c3, ?_⟩
        refine ⟨zG_n hI th_c3, ?_⟩
        have hI10 : zJ82 f r C Z N (ma_put S c3 5 (.inl ((mI S c3 5) + (1 : Int32)))) := zG_tf hI th_c3.1 zJ82_t (by decide) (by decide) (zJ82_xt (S := S) th_c3.1 (zG_x hI)) (by decide) (by decide) (by decide)
        refine ⟨zG_n hI10 th_c3, ?_⟩
        have b11 := i_bd (mI (ma_put S c3 5 (.inl ((mI S c3 5) + (1 : Int32)))) c3 5)
        have b12 := i_bd (mI S 82 4)
        have q13 : (mI (ma_put S c3 5 (.inl ((mI S c3 5) + (1 : Int32)))) 82 4).toInt = (mI S 82 4).toInt := zp_th th_c3.1 (by decide)
        have b14 := i_bd (mI (ma_put S c3 5 (.inl ((mI S c3 5) + (1 : Int32)))) 82 4)
        refine zd (fun h15 => ?_) (fun h15 => ?_)
        · skip
          have g16 := i_lt h15
          have f17 := zG_s hI (0) (400000) (c := 82) (k := 8) (by decide)
          have q18 : (mI (ma_put S c3 5 (.inl ((mI S c3 5) + (1 : Int32)))) 82 8).toInt = (mI S 82 8).toInt := zp_th th_c3.1 (by decide)
          have f19 := zG_s hI10 (0) (400000) (c := 82) (k := 8) (by decide)
          refine sp_90_69_s (ab := (aS 75 (ma_put S c3 5 (.inl ((mI S c3 5) + (1 : Int32)))))) (R := (mR (ma_put S c3 5 (.inl ((mI S c3 5) + (1 : Int32)))) 70)) (y := ((mI S 76 l1.toNatClampNeg))) c3 ((mI (ma_put S c3 5 (.inl ((mI S c3 5) + (1 : Int32)))) 82 8)) (by omega) (by omega) (zJ82_dn hI10) th_c3 (show xB (ma_put S c3 5 (.inl ((mI S c3 5) + (1 : Int32)))) (mR (ma_put S c3 5 (.inl ((mI S c3 5) + (1 : Int32)))) 70) from by first | (exact xB_x (xC_t (k := 5) (x := ((mI S c3 5) + (1 : Int32))) (xC_o (W := 75) hi3) xW75 rg_c3 rfl).2)) (show aS 75 (ma_put S c3 5 (.inl ((mI S c3 5) + (1 : Int32)))) = (aS 75 (ma_put S c3 5 (.inl ((mI S c3 5) + (1 : Int32))))) from by first | (exact rfl)) (show zTa (mR (ma_put S c3 5 (.inl ((mI S c3 5) + (1 : Int32)))) 70) ((mI S 76 l1.toNatClampNeg)) = some c3 from by first | (exact rg_c3)) (show qMv (aS 75 (ma_put S c3 5 (.inl ((mI S c3 5) + (1 : Int32))))) ((mI S 76 l1.toNatClampNeg)).toNatClampNeg (mI (ma_put S c3 5 (.inl ((mI S c3 5) + (1 : Int32)))) 82 8) from by first | (have r5 : mI (ma_put S c3 5 (.inl (mI S c3 5 + (1 : Int32)))) c3 5 = mI S c3 5 + (1 : Int32) := if_pos ⟨rfl, rfl⟩; have r82 : ∀ k, mI (ma_put S c3 5 (.inl (mI S c3 5 + (1 : Int32)))) 82 k = mI S 82 k := fun k => if_neg (fun z => by have := z.1; have := th_c3.1; omega); have r5i := congrArg Int32.toInt r5; have r4i := congrArg Int32.toInt (r82 4); exact Qm_g hi5 (by omega) (by omega) hi3 rg_c3 (G_p5 hi3 rg_c3) ((if_pos (by omega)).trans (r82 _).symm)) | (have r5 : mI (ma_put S c3 5 (.inl (mI S c3 5 + (1 : Int32)))) c3 5 = mI S c3 5 + (1 : Int32) := if_pos ⟨rfl, rfl⟩; have r82 : ∀ k, mI (ma_put S c3 5 (.inl (mI S c3 5 + (1 : Int32)))) 82 k = mI S 82 k := fun k => if_neg (fun z => by have := z.1; have := th_c3.1; omega); have r5i := congrArg Int32.toInt r5; have r4i := congrArg Int32.toInt (r82 4); exact Qm_g hi5 (by omega) (by omega) hi3 rg_c3 (G_p5 hi3 rg_c3) ((if_neg (by omega)).trans (r82 _).symm))) (by omega) (fun S4 hL_S4 rp0_S4 rp1_S4 => zv_n ⟨zG_T hL_S4, ?_⟩)
          have hI_S4 := zJ82_up hI10 hL_S4
          have rp0_S4 : xB S4 (mR (ma_put S c3 5 (.inl ((mI S c3 5) + (1 : Int32)))) 70) := by
            have z := rp0_S4
            (try rw [show mI (ma_put S c3 5 (.inl ((mI S c3 5) + (1 : Int32)))) 65 = f 65 from funext (fun k => zG_z hI10 rfl)] at z)
            (try rw [show mI (ma_put S c3 5 (.inl ((mI S c3 5) + (1 : Int32)))) 64 1 = f 64 1 from zG_z hI10 rfl] at z)
            exact z
          have rp1_S4 : aS 75 S4 = aMo (aS 75 (ma_put S c3 5 (.inl ((mI S c3 5) + (1 : Int32))))) ((mI S 76 l1.toNatClampNeg)).toNatClampNeg (mI (ma_put S c3 5 (.inl ((mI S c3 5) + (1 : Int32)))) 82 8) := by
            have z := rp1_S4
            (try rw [show mI (ma_put S c3 5 (.inl ((mI S c3 5) + (1 : Int32)))) 65 = f 65 from funext (fun k => zG_z hI10 rfl)] at z)
            (try rw [show mI (ma_put S c3 5 (.inl ((mI S c3 5) + (1 : Int32)))) 64 1 = f 64 1 from zG_z hI10 rfl] at z)
            exact z
          refine ⟨zG_n hI_S4 th_c3, ?_⟩
          have q21 : (mI S4 82 8).toInt = (mI (ma_put S c3 5 (.inl ((mI S c3 5) + (1 : Int32)))) 82 8).toInt := zG_zi hL_S4 rfl
          have f22 := zG_s hI_S4 (0) (400000) (c := 82) (k := 8) (by decide)
          have f23 := zG_th hI_S4 th_c3
          first | have e24 : ((mI S4 82 8) + (mI S4 c3 2)).toInt = (mI S4 82 8).toInt + (mI S4 c3 2).toInt := i_add (by omega) (by omega) | have b25 := i_bd ((mI S4 82 8) + (mI S4 c3 2))
          have hI20 : zJ82 f r C Z N (ma_put S4 82 8 (.inl ((mI S4 82 8) + (mI S4 c3 2)))) := zG_sp hI_S4 (0) (400000) rfl (by decide) (by decide) (by decide) (show zJ82_x (mI S4) from zG_x hI_S4) (by omega) (by omega)
          first | have e26 : (l1 + (1 : Int32)).toInt = l1.toInt + (1) := i_addk rfl (by omega) (by omega) | have b27 := i_bd (l1 + (1 : Int32))
          have f28 := zG_s hI (0) (400000) (c := 82) (k := 6) (by decide)
          have q29 : (mI (ma_put S c3 5 (.inl ((mI S c3 5) + (1 : Int32)))) 82 6).toInt = (mI S 82 6).toInt := zp_th th_c3.1 (by decide)
          have f30 := zG_s hI10 (0) (400000) (c := 82) (k := 6) (by decide)
          have q31 : (mI S4 82 6).toInt = (mI (ma_put S c3 5 (.inl ((mI S c3 5) + (1 : Int32)))) 82 6).toInt := zG_zi hL_S4 rfl
          have f32 := zG_s hI_S4 (0) (400000) (c := 82) (k := 6) (by decide)
          have f33 := zG_s hI_S4 (0) (512) (c := 75) (k := 4) (by decide)
          exact IH _ (by omega) _ ((l1 + (1 : Int32))) rfl hI20 (by omega) (show (mI S4 82 6).toInt ≤ 1500 + 61 * ((l1 + (1 : Int32))).toInt from by omega) (show ((mI S4 82 8) + (mI S4 c3 2)).toInt ≤ 3000 + 61 * ((l1 + (1 : Int32))).toInt from by omega) (show xB (ma_put S4 82 8 (.inl ((mI S4 82 8) + (mI S4 c3 2)))) (mR (ma_put S4 82 8 (.inl ((mI S4 82 8) + (mI S4 c3 2)))) 70) from by first | (exact xB_x (xC_n (c := 82) (k := 8) (x := ((mI S4 82 8) + (mI S4 c3 2))) (xC_o (W := 75) rp0_S4) ⟨by decide, Or.inl ⟨rfl, rfl⟩⟩).2)) (show gMf ((mI S4 75 4).toInt - ((l1 + (1 : Int32))).toInt).toNat ((l1 + (1 : Int32))).toNatClampNeg (aG (ma_put S4 82 8 (.inl ((mI S4 82 8) + (mI S4 c3 2))))) = gMf (ab 75 4).toInt.toNat 0 (gM9 ab) from by first | (have r5 : mI (ma_put S c3 5 (.inl (mI S c3 5 + (1 : Int32)))) c3 5 = mI S c3 5 + (1 : Int32) := if_pos ⟨rfl, rfl⟩; have r82 : ∀ k, mI (ma_put S c3 5 (.inl (mI S c3 5 + (1 : Int32)))) 82 k = mI S 82 k := fun k => if_neg (fun z => by have := z.1; have := th_c3.1; omega); have r5i := congrArg Int32.toInt r5; have r4i := congrArg Int32.toInt (r82 4); have z0 : aG (ma_put S c3 5 (.inl ((mI S c3 5) + (1 : Int32)))) = ma_u (aG S) 131 (mI S 76 l1.toNatClampNeg).toNatClampNeg (mI S c3 5 + (1 : Int32)) := G_p5 hi3 rg_c3; have z1 := G_mo rp1_S4 (show mI S4 82 = mI (ma_put S c3 5 (.inl ((mI S c3 5) + (1 : Int32)))) 82 from funext (fun _ => zG_z hL_S4 rfl)) (show mI S4 83 = mI (ma_put S c3 5 (.inl ((mI S c3 5) + (1 : Int32)))) 83 from funext (fun _ => zG_z hL_S4 rfl)); rw [r82] at z1; have zz := ((G_pk (n := 8) (k := 4) (x := ((mI S4 82 8) + (mI S4 c3 2))) (xC_o (W := 75) rp0_S4).2 (by decide)).trans (congrArg (fun q => ma_u q 87 4 ((mI S4 82 8) + (mI S4 c3 2))) (show aG S4 = aG S4 from rfl))); rw [M1_n hi3 rg_c3 (by omega) z0 z1 rp0_S4 rfl] at zz; exact (Mf_st hi4 hi5 (by omega) (by omega) zz (by omega)).1)) (show qJg (aG (ma_put S4 82 8 (.inl ((mI S4 82 8) + (mI S4 c3 2))))) st ot o0 PP NN ((l1 + (1 : Int32))).toNatClampNeg from by first | (have r5 : mI (ma_put S c3 5 (.inl (mI S c3 5 + (1 : Int32)))) c3 5 = mI S c3 5 + (1 : Int32) := if_pos ⟨rfl, rfl⟩; have r82 : ∀ k, mI (ma_put S c3 5 (.inl (mI S c3 5 + (1 : Int32)))) 82 k = mI S 82 k := fun k => if_neg (fun z => by have := z.1; have := th_c3.1; omega); have r5i := congrArg Int32.toInt r5; have r4i := congrArg Int32.toInt (r82 4); have z0 : aG (ma_put S c3 5 (.inl ((mI S c3 5) + (1 : Int32)))) = ma_u (aG S) 131 (mI S 76 l1.toNatClampNeg).toNatClampNeg (mI S c3 5 + (1 : Int32)) := G_p5 hi3 rg_c3; have z1 := G_mo rp1_S4 (show mI S4 82 = mI (ma_put S c3 5 (.inl ((mI S c3 5) + (1 : Int32)))) 82 from funext (fun _ => zG_z hL_S4 rfl)) (show mI S4 83 = mI (ma_put S c3 5 (.inl ((mI S c3 5) + (1 : Int32)))) 83 from funext (fun _ => zG_z hL_S4 rfl)); rw [r82] at z1; have zz := ((G_pk (n := 8) (k := 4) (x := ((mI S4 82 8) + (mI S4 c3 2))) (xC_o (W := 75) rp0_S4).2 (by decide)).trans (congrArg (fun q => ma_u q 87 4 ((mI S4 82 8) + (mI S4 c3 2))) (show aG S4 = aG S4 from rfl))); rw [M1_n hi3 rg_c3 (by omega) z0 z1 rp0_S4 rfl] at zz; exact (Mf_st hi4 hi5 (by omega) (by omega) zz (by omega)).2))
        · skip
          have g34 := i_nlt h15
          have f35 := zG_s hI (0) (400000) (c := 82) (k := 6) (by decide)
          have q36 : (mI (ma_put S c3 5 (.inl ((mI S c3 5) + (1 : Int32)))) 82 6).toInt = (mI S 82 6).toInt := zp_th th_c3.1 (by decide)
          have f37 := zG_s hI10 (0) (400000) (c := 82) (k := 6) (by decide)
          refine sp_90_69_s (ab := (aS 75 (ma_put S c3 5 (.inl ((mI S c3 5) + (1 : Int32)))))) (R := (mR (ma_put S c3 5 (.inl ((mI S c3 5) + (1 : Int32)))) 70)) (y := ((mI S 76 l1.toNatClampNeg))) c3 ((mI (ma_put S c3 5 (.inl ((mI S c3 5) + (1 : Int32)))) 82 6)) (by omega) (by omega) (zJ82_dn hI10) th_c3 (show xB (ma_put S c3 5 (.inl ((mI S c3 5) + (1 : Int32)))) (mR (ma_put S c3 5 (.inl ((mI S c3 5) + (1 : Int32)))) 70) from by first | (exact xB_x (xC_t (k := 5) (x := ((mI S c3 5) + (1 : Int32))) (xC_o (W := 75) hi3) xW75 rg_c3 rfl).2)) (show aS 75 (ma_put S c3 5 (.inl ((mI S c3 5) + (1 : Int32)))) = (aS 75 (ma_put S c3 5 (.inl ((mI S c3 5) + (1 : Int32))))) from by first | (exact rfl)) (show zTa (mR (ma_put S c3 5 (.inl ((mI S c3 5) + (1 : Int32)))) 70) ((mI S 76 l1.toNatClampNeg)) = some c3 from by first | (exact rg_c3)) (show qMv (aS 75 (ma_put S c3 5 (.inl ((mI S c3 5) + (1 : Int32))))) ((mI S 76 l1.toNatClampNeg)).toNatClampNeg (mI (ma_put S c3 5 (.inl ((mI S c3 5) + (1 : Int32)))) 82 6) from by first | (have r5 : mI (ma_put S c3 5 (.inl (mI S c3 5 + (1 : Int32)))) c3 5 = mI S c3 5 + (1 : Int32) := if_pos ⟨rfl, rfl⟩; have r82 : ∀ k, mI (ma_put S c3 5 (.inl (mI S c3 5 + (1 : Int32)))) 82 k = mI S 82 k := fun k => if_neg (fun z => by have := z.1; have := th_c3.1; omega); have r5i := congrArg Int32.toInt r5; have r4i := congrArg Int32.toInt (r82 4); exact Qm_g hi5 (by omega) (by omega) hi3 rg_c3 (G_p5 hi3 rg_c3) ((if_pos (by omega)).trans (r82 _).symm)) | (have r5 : mI (ma_put S c3 5 (.inl (mI S c3 5 + (1 : Int32)))) c3 5 = mI S c3 5 + (1 : Int32) := if_pos ⟨rfl, rfl⟩; have r82 : ∀ k, mI (ma_put S c3 5 (.inl (mI S c3 5 + (1 : Int32)))) 82 k = mI S 82 k := fun k => if_neg (fun z => by have := z.1; have := th_c3.1; omega); have r5i := congrArg Int32.toInt r5; have r4i := congrArg Int32.toInt (r82 4); exact Qm_g hi5 (by omega) (by omega) hi3 rg_c3 (G_p5 hi3 rg_c3) ((if_neg (by omega)).trans (r82 _).symm))) (by omega) (fun S6 hL_S6 rp0_S6 rp1_S6 => zv_n ⟨zG_T hL_S6, ?_⟩)
          have hI_S6 := zJ82_up hI10 hL_S6
          have rp0_S6 : xB S6 (mR (ma_put S c3 5 (.inl ((mI S c3 5) + (1 : Int32)))) 70) := by
            have z := rp0_S6
            (try rw [show mI (ma_put S c3 5 (.inl ((mI S c3 5) + (1 : Int32)))) 65 = f 65 from funext (fun k => zG_z hI10 rfl)] at z)
            (try rw [show mI (ma_put S c3 5 (.inl ((mI S c3 5) + (1 : Int32)))) 64 1 = f 64 1 from zG_z hI10 rfl] at z)
            exact z
          have rp1_S6 : aS 75 S6 = aMo (aS 75 (ma_put S c3 5 (.inl ((mI S c3 5) + (1 : Int32))))) ((mI S 76 l1.toNatClampNeg)).toNatClampNeg (mI (ma_put S c3 5 (.inl ((mI S c3 5) + (1 : Int32)))) 82 6) := by
            have z := rp1_S6
            (try rw [show mI (ma_put S c3 5 (.inl ((mI S c3 5) + (1 : Int32)))) 65 = f 65 from funext (fun k => zG_z hI10 rfl)] at z)
            (try rw [show mI (ma_put S c3 5 (.inl ((mI S c3 5) + (1 : Int32)))) 64 1 = f 64 1 from zG_z hI10 rfl] at z)
            exact z
          refine ⟨zG_n hI_S6 th_c3, ?_⟩
          have q39 : (mI S6 82 6).toInt = (mI (ma_put S c3 5 (.inl ((mI S c3 5) + (1 : Int32)))) 82 6).toInt := zG_zi hL_S6 rfl
          have f40 := zG_s hI_S6 (0) (400000) (c := 82) (k := 6) (by decide)
          have f41 := zG_th hI_S6 th_c3
          first | have e42 : ((mI S6 82 6) + (mI S6 c3 2)).toInt = (mI S6 82 6).toInt + (mI S6 c3 2).toInt := i_add (by omega) (by omega) | have b43 := i_bd ((mI S6 82 6) + (mI S6 c3 2))
          have hI38 : zJ82 f r C Z N (ma_put S6 82 6 (.inl ((mI S6 82 6) + (mI S6 c3 2)))) := zG_sp hI_S6 (0) (400000) rfl (by decide) (by decide) (by decide) (show zJ82_x (mI S6) from zG_x hI_S6) (by omega) (by omega)
          first | have e44 : (l1 + (1 : Int32)).toInt = l1.toInt + (1) := i_addk rfl (by omega) (by omega) | have b45 := i_bd (l1 + (1 : Int32))
          have f46 := zG_s hI (0) (400000) (c := 82) (k := 8) (by decide)
          have q47 : (mI (ma_put S c3 5 (.inl ((mI S c3 5) + (1 : Int32)))) 82 8).toInt = (mI S 82 8).toInt := zp_th th_c3.1 (by decide)
          have f48 := zG_s hI10 (0) (400000) (c := 82) (k := 8) (by decide)
          have q49 : (mI S6 82 8).toInt = (mI (ma_put S c3 5 (.inl ((mI S c3 5) + (1 : Int32)))) 82 8).toInt := zG_zi hL_S6 rfl
          have f50 := zG_s hI_S6 (0) (400000) (c := 82) (k := 8) (by decide)
          have f51 := zG_s hI_S6 (0) (512) (c := 75) (k := 4) (by decide)
          exact IH _ (by omega) _ ((l1 + (1 : Int32))) rfl hI38 (by omega) (show ((mI S6 82 6) + (mI S6 c3 2)).toInt ≤ 1500 + 61 * ((l1 + (1 : Int32))).toInt from by omega) (show (mI S6 82 8).toInt ≤ 3000 + 61 * ((l1 + (1 : Int32))).toInt from by omega) (show xB (ma_put S6 82 6 (.inl ((mI S6 82 6) + (mI S6 c3 2)))) (mR (ma_put S6 82 6 (.inl ((mI S6 82 6) + (mI S6 c3 2)))) 70) from by first | (exact xB_x (xC_n (c := 82) (k := 6) (x := ((mI S6 82 6) + (mI S6 c3 2))) (xC_o (W := 75) rp0_S6) ⟨by decide, Or.inl ⟨rfl, rfl⟩⟩).2)) (show gMf ((mI S6 75 4).toInt - ((l1 + (1 : Int32))).toInt).toNat ((l1 + (1 : Int32))).toNatClampNeg (aG (ma_put S6 82 6 (.inl ((mI S6 82 6) + (mI S6 c3 2))))) = gMf (ab 75 4).toInt.toNat 0 (gM9 ab) from by first | (have r5 : mI (ma_put S c3 5 (.inl (mI S c3 5 + (1 : Int32)))) c3 5 = mI S c3 5 + (1 : Int32) := if_pos ⟨rfl, rfl⟩; have r82 : ∀ k, mI (ma_put S c3 5 (.inl (mI S c3 5 + (1 : Int32)))) 82 k = mI S 82 k := fun k => if_neg (fun z => by have := z.1; have := th_c3.1; omega); have r5i := congrArg Int32.toInt r5; have r4i := congrArg Int32.toInt (r82 4); have z0 : aG (ma_put S c3 5 (.inl ((mI S c3 5) + (1 : Int32)))) = ma_u (aG S) 131 (mI S 76 l1.toNatClampNeg).toNatClampNeg (mI S c3 5 + (1 : Int32)) := G_p5 hi3 rg_c3; have z1 := G_mo rp1_S6 (show mI S6 82 = mI (ma_put S c3 5 (.inl ((mI S c3 5) + (1 : Int32)))) 82 from funext (fun _ => zG_z hL_S6 rfl)) (show mI S6 83 = mI (ma_put S c3 5 (.inl ((mI S c3 5) + (1 : Int32)))) 83 from funext (fun _ => zG_z hL_S6 rfl)); rw [r82] at z1; have zz := ((G_pk (n := 6) (k := 10) (x := ((mI S6 82 6) + (mI S6 c3 2))) (xC_o (W := 75) rp0_S6).2 (by decide)).trans (congrArg (fun q => ma_u q 87 10 ((mI S6 82 6) + (mI S6 c3 2))) (show aG S6 = aG S6 from rfl))); rw [M1_y hi3 rg_c3 (by omega) z0 z1 rp0_S6 rfl] at zz; exact (Mf_st hi4 hi5 (by omega) (by omega) zz (by omega)).1)) (show qJg (aG (ma_put S6 82 6 (.inl ((mI S6 82 6) + (mI S6 c3 2))))) st ot o0 PP NN ((l1 + (1 : Int32))).toNatClampNeg from by first | (have r5 : mI (ma_put S c3 5 (.inl (mI S c3 5 + (1 : Int32)))) c3 5 = mI S c3 5 + (1 : Int32) := if_pos ⟨rfl, rfl⟩; have r82 : ∀ k, mI (ma_put S c3 5 (.inl (mI S c3 5 + (1 : Int32)))) 82 k = mI S 82 k := fun k => if_neg (fun z => by have := z.1; have := th_c3.1; omega); have r5i := congrArg Int32.toInt r5; have r4i := congrArg Int32.toInt (r82 4); have z0 : aG (ma_put S c3 5 (.inl ((mI S c3 5) + (1 : Int32)))) = ma_u (aG S) 131 (mI S 76 l1.toNatClampNeg).toNatClampNeg (mI S c3 5 + (1 : Int32)) := G_p5 hi3 rg_c3; have z1 := G_mo rp1_S6 (show mI S6 82 = mI (ma_put S c3 5 (.inl ((mI S c3 5) + (1 : Int32)))) 82 from funext (fun _ => zG_z hL_S6 rfl)) (show mI S6 83 = mI (ma_put S c3 5 (.inl ((mI S c3 5) + (1 : Int32)))) 83 from funext (fun _ => zG_z hL_S6 rfl)); rw [r82] at z1; have zz := ((G_pk (n := 6) (k := 10) (x := ((mI S6 82 6) + (mI S6 c3 2))) (xC_o (W := 75) rp0_S6).2 (by decide)).trans (congrArg (fun q => ma_u q 87 10 ((mI S6 82 6) + (mI S6 c3 2))) (show aG S6 = aG S6 from rfl))); rw [M1_y hi3 rg_c3 (by omega) z0 z1 rp0_S6 rfl] at zz; exact (Mf_st hi4 hi5 (by omega) (by omega) zz (by omega)).2))
theorem sp_15_82_sy {X : Nat × (Nat → Int32)} {d w : Nat} {f : Nat → Nat → Int32} {r : Nat → Nat → Option Nat} {C Z N : Nat} {Q : Option ma_V ⊕ Nat → ma_S → Prop} {ab : Nat→Nat→Int32} {st : Int} {ot : Int} {o0 : Int} {PP : Nat→Int} {NN : Nat→Int} {S : ma_S}  (hd : 3 ≤ d) (hw : 135 ≤ w) (hI : zJ82 f r C Z N S) (hpre0 : (mI S 82 6).toInt ≤ 1500) (hpre1 : xB S (mR S 70)) (hpre2 : aG S = ab) (hpre3 : qJg (gM9 ab) st ot o0 PP NN 0) (K : ∀ S₉, zJ82 f r C Z N S₉ → (xB S₉ (mR S₉ 70)) → (aG S₉ = gMf (ab 75 4).toInt.toNat 0 (gM9 ab)) → Q (.inl none) S₉) : ma_wp X d w 15 0 [(0, .inr (.inr (some 82)))] [] S Q := by
  refine g_15_82_sy_0  (by omega) (by omega) (zG_T hI) ?_
  have x2 : (mI S 82 3).toInt ≤ (mI S 82 7).toInt ∧ (mI S 82 7).toInt ≤ (mI S 82 3).toInt + (mI S 82 2).toInt := zG_x hI
  have f3 := zG_s hI (0) (1500) (c := 82) (k := 3) (by decide)
  have f4 := zG_s hI (0) (1500) (c := 82) (k := 2) (by decide)
  first | have e5 : ((mI S 82 3) + (mI S 82 2)).toInt = (mI S 82 3).toInt + (mI S 82 2).toInt := i_add (by omega) (by omega) | have b6 := i_bd ((mI S 82 3) + (mI S 82 2))
  first | have e7 : (((mI S 82 3) + (mI S 82 2)) + (mI S 82 3)).toInt = ((mI S 82 3) + (mI S 82 2)).toInt + (mI S 82 3).toInt := i_add (by omega) (by omega) | have b8 := i_bd (((mI S 82 3) + (mI S 82 2)) + (mI S 82 3))
  have f9 := zG_s hI (0) (3000) (c := 82) (k := 7) (by decide)
  first | have e10 : ((((mI S 82 3) + (mI S 82 2)) + (mI S 82 3)) - (mI S 82 7)).toInt = (((mI S 82 3) + (mI S 82 2)) + (mI S 82 3)).toInt - (mI S 82 7).toInt := i_sub (by omega) (by omega) | have b11 := i_bd ((((mI S 82 3) + (mI S 82 2)) + (mI S 82 3)) - (mI S 82 7))
  have hI1 : zJ82 f r C Z N (ma_put S 82 7 (.inl ((((mI S 82 3) + (mI S 82 2)) + (mI S 82 3)) - (mI S 82 7)))) := zG_sp hI (0) (3000) rfl (by decide) (by decide) (by decide) (show (mI S 82 3).toInt ≤ ((((mI S 82 3) + (mI S 82 2)) + (mI S 82 3)) - (mI S 82 7)).toInt ∧ ((((mI S 82 3) + (mI S 82 2)) + (mI S 82 3)) - (mI S 82 7)).toInt ≤ (mI S 82 3).toInt + (mI S 82 2).toInt from by omega) (by omega) (by omega)
  have hI12 : zJ82 f r C Z N (ma_put (ma_put S 82 7 (.inl ((((mI S 82 3) + (mI S 82 2)) + (mI S 82 3)) - (mI S 82 7)))) 82 8 (.inl ((((mI S 82 3) + (mI S 82 2)) + (mI S 82 3)) - (mI S 82 7)))) := zG_sp hI1 (0) (400000) rfl (by decide) (by decide) (by decide) (show zJ82_x (mI (ma_put S 82 7 (.inl ((((mI S 82 3) + (mI S 82 2)) + (mI S 82 3)) - (mI S 82 7))))) from zG_x hI1) (by omega) (by omega)
  have li13 : (0 : Int32).toInt = 0 := rfl
  have f14 := zG_s hI (0) (400000) (c := 82) (k := 6) (by decide)
  have f15 := zG_s hI (0) (512) (c := 75) (k := 4) (by decide)
  exact lp_15_82_sy_33 (by omega) (by omega) K _ _ ((0 : Int32)) rfl hI12 (by omega) (show (mI S 82 6).toInt ≤ 1500 + 61 * ((0 : Int32)).toInt from by omega) (show ((((mI S 82 3) + (mI S 82 2)) + (mI S 82 3)) - (mI S 82 7)).toInt ≤ 3000 + 61 * ((0 : Int32)).toInt from by omega) (show xB (ma_put (ma_put S 82 7 (.inl ((((mI S 82 3) + (mI S 82 2)) + (mI S 82 3)) - (mI S 82 7)))) 82 8 (.inl ((((mI S 82 3) + (mI S 82 2)) + (mI S 82 3)) - (mI S 82 7)))) (mR (ma_put (ma_put S 82 7 (.inl ((((mI S 82 3) + (mI S 82 2)) + (mI S 82 3)) - (mI S 82 7)))) 82 8 (.inl ((((mI S 82 3) + (mI S 82 2)) + (mI S 82 3)) - (mI S 82 7)))) 70) from by first | (exact xB_x (xC_n (c := 82) (k := 8) (x := ((((mI S 82 3) + (mI S 82 2)) + (mI S 82 3)) - (mI S 82 7))) (xC_n (c := 82) (k := 7) (x := ((((mI S 82 3) + (mI S 82 2)) + (mI S 82 3)) - (mI S 82 7))) (xC_o (W := 75) hpre1) ⟨by decide, Or.inl ⟨rfl, rfl⟩⟩) ⟨by decide, Or.inl ⟨rfl, rfl⟩⟩).2)) (show gMf ((mI S 75 4).toInt - ((0 : Int32)).toInt).toNat ((0 : Int32)).toNatClampNeg (aG (ma_put (ma_put S 82 7 (.inl ((((mI S 82 3) + (mI S 82 2)) + (mI S 82 3)) - (mI S 82 7)))) 82 8 (.inl ((((mI S 82 3) + (mI S 82 2)) + (mI S 82 3)) - (mI S 82 7))))) = gMf (ab 75 4).toInt.toNat 0 (gM9 ab) from by first | (have eX : mI S 82 3 + mI S 82 2 + mI S 82 3 - mI S 82 7 = ab 87 9 + ab 87 5 + ab 87 9 - ab 87 3 := (by rw [← hpre2]; rfl); rw [((G_pk (n := 8) (k := 4) (x := ((((mI S 82 3) + (mI S 82 2)) + (mI S 82 3)) - (mI S 82 7))) (xC_n (c := 82) (k := 7) (x := ((((mI S 82 3) + (mI S 82 2)) + (mI S 82 3)) - (mI S 82 7))) (xC_o (W := 75) hpre1) ⟨by decide, Or.inl ⟨rfl, rfl⟩⟩).2 (by decide)).trans (congrArg (fun q => ma_u q 87 4 ((((mI S 82 3) + (mI S 82 2)) + (mI S 82 3)) - (mI S 82 7))) ((G_pk (n := 7) (k := 3) (x := ((((mI S 82 3) + (mI S 82 2)) + (mI S 82 3)) - (mI S 82 7))) (xC_o (W := 75) hpre1).2 (by decide)).trans (congrArg (fun q => ma_u q 87 3 ((((mI S 82 3) + (mI S 82 2)) + (mI S 82 3)) - (mI S 82 7))) (show aG S = aG S from rfl))))), hpre2, eX]; have e4 : ab 75 4 = mI S 75 4 := (by rw [← hpre2]; exact (aG_o (by decide) (by decide)).trans rfl); rw [← e4, show ((ab 75 4).toInt - (0 : Int32).toInt).toNat = (ab 75 4).toInt.toNat from by rw [show (0 : Int32).toInt = 0 from rfl, Int.sub_zero]]; rfl)) (show qJg (aG (ma_put (ma_put S 82 7 (.inl ((((mI S 82 3) + (mI S 82 2)) + (mI S 82 3)) - (mI S 82 7)))) 82 8 (.inl ((((mI S 82 3) + (mI S 82 2)) + (mI S 82 3)) - (mI S 82 7))))) st ot o0 PP NN ((0 : Int32)).toNatClampNeg from by first | (have eX : mI S 82 3 + mI S 82 2 + mI S 82 3 - mI S 82 7 = ab 87 9 + ab 87 5 + ab 87 9 - ab 87 3 := (by rw [← hpre2]; rfl); rw [((G_pk (n := 8) (k := 4) (x := ((((mI S 82 3) + (mI S 82 2)) + (mI S 82 3)) - (mI S 82 7))) (xC_n (c := 82) (k := 7) (x := ((((mI S 82 3) + (mI S 82 2)) + (mI S 82 3)) - (mI S 82 7))) (xC_o (W := 75) hpre1) ⟨by decide, Or.inl ⟨rfl, rfl⟩⟩).2 (by decide)).trans (congrArg (fun q => ma_u q 87 4 ((((mI S 82 3) + (mI S 82 2)) + (mI S 82 3)) - (mI S 82 7))) ((G_pk (n := 7) (k := 3) (x := ((((mI S 82 3) + (mI S 82 2)) + (mI S 82 3)) - (mI S 82 7))) (xC_o (W := 75) hpre1).2 (by decide)).trans (congrArg (fun q => ma_u q 87 3 ((((mI S 82 3) + (mI S 82 2)) + (mI S 82 3)) - (mI S 82 7))) (show aG S = aG S from rfl))))), hpre2, eX]; exact hpre3))

/-! from 95.u24 -/
/-! AGES, the class (written by wip/tools/gen15y.py) -/
/-! AGES: the class's cleanings, put together -/
section F28
variable {a b c ab : Nat → Nat → Int32} {S S0 S1 S2 S3 S4 S5 S6 S7 S8 T0 T1 T2 T3 T4 T5 T6 T7 T8 : ma_S} {x y v w lm : Int32} {n k : Nat} {z : Int}
theorem I_aM (h : qI (aG S)) : qI (aM (zfG (mI S)) S) := I_cg h (G_aM (by decide)).symm (G_aM (by decide)).symm (G_aM (by decide)).symm (G_aM (by decide)).symm (G_aM (by decide)).symm (G_aM (by decide)).symm (fun j => (G_aM (by omega)).symm)
theorem Ma_e (hv : qAv a) (g0 : aG S = a) (sw : aS 75 S3 = aSw (aS 75 S)) (e1 : mI S3 82 = mI S 82) (e2 : mI S3 83 = mI S 83) (sd : aM (zfG (mI S3)) S4 = (zSd (aM (zfG (mI S3)) S3) lm.toInt 0 0).1) (sv : v.toInt = (zSd (aM (zfG (mI S3)) S3) lm.toInt 0 0).2) (hl : lm = mI S 82 3) (f1 : mI S4 82 = mI S3 82) (f2 : mI S4 83 = mI S3 83) : ma_u (aG S4) 87 10 v = ma_u (gSd a).1 87 10 (Int32.ofInt (gSd a).2) := by
  have g3 := G_sw sw e1 e2
  rw [g0] at g3
  have g4 := G_sd (lim := lm.toInt) sd (by rw [g3]; exact S1_I (I_sw hv.1)) f1 f2
  have l9 : lm.toInt = (a 87 9).toInt := by
    rw [hl, ← g0]
    rfl
  rw [g3, l9] at g4
  rw [l9] at sv
  have e : zSd (aSw a) (a 87 9).toInt 0 0 = gSd a := rfl
  rw [e] at g4
  rw [g4.1, ← g4.2, ← sv, Int32.ofInt_toInt]
theorem Qsd (hv : qAv a) (g0 : aG S = a) (sw : aS 75 S3 = aSw (aS 75 S)) (e1 : mI S3 82 = mI S 82) (e2 : mI S3 83 = mI S 83) : qI (aM (zfG (mI S3)) S3) := by
  have g3 := G_sw sw e1 e2
  rw [g0] at g3
  exact I_aM (by rw [g3]; exact I_sw hv.1)
theorem Mk_e (g0 : aG T0 = c) (r1 : aS 75 T1 = aWh (aS 75 T0) x) (hx : x = mI T0 82 3) (r2 : aS 75 T2 = aRo (aS 75 T1) 0) (r3 : aG T3 = gDp (aG T2) (aG T2 87 10).toInt 0) (r4 : aS 75 T4 = aSp 512 (aS 75 T3)) (r5 : aS 75 T5 = aGw (aS 75 T4) 0) (r6 : aS 75 T6 = aMv (aS 75 T5) 0) (a1 : mI T1 82 = mI T0 82) (b1 : mI T1 83 = mI T0 83) (a2 : mI T2 82 = mI T1 82) (b2 : mI T2 83 = mI T1 83) (a4 : mI T4 82 = mI T3 82) (b4 : mI T4 83 = mI T3 83) (a5 : mI T5 82 = mI T4 82) (b5 : mI T5 83 = mI T4 83) (a6 : mI T6 82 = mI T5 82) (b6 : mI T6 83 = mI T5 83) : aG T2 = aRo (aWh c (c 87 9)) 0 ∧ aG T5 = gKp c ∧ aG T6 = gMk0 c := by
  have g1 := G_wh r1 a1 b1
  have g2 := G_ro r2 a2 b2
  have g4 := G_sp r4 a4 b4
  have g5 := G_gw r5 a5 b5
  have g6 := G_mv r6 a6 b6
  have hx9 : x = c 87 9 := by
    rw [hx, ← g0]
    rfl
  rw [g0, hx9] at g1
  rw [g1] at g2
  have e10 : aG T2 87 10 = c 87 10 := by
    rw [g2, aRo_o ⟨by decide, by decide, by decide⟩, wh_9 (by decide)]
  have k5 : aG T5 = gKp c := by
    rw [g5, g4, r3, e10, g2]
    rfl
  exact ⟨g2, k5, by rw [g6, k5]; rfl⟩
theorem S1_t2 (hv : qAv c) (h : aG T2 = aRo (aWh c (c 87 9)) 0) : zS1 (aG T2) := by
  rw [h]
  refine S1_I (qI_of hv.1 (Of_tr wh_of (fun c₉ k₉ q1 q2 q3 => (aRo_o ⟨q1, q2, q3⟩).symm)))
theorem T2_e (g0 : aG T0 = c) (r1 : aS 75 T1 = aWh (aS 75 T0) x) (hx : x = mI T0 82 3) (r2 : aS 75 T2 = aRo (aS 75 T1) 0) (a1 : mI T1 82 = mI T0 82) (b1 : mI T1 83 = mI T0 83) (a2 : mI T2 82 = mI T1 82) (b2 : mI T2 83 = mI T1 83) : aG T2 = aRo (aWh c (c 87 9)) 0 := by
  have g1 := G_wh r1 a1 b1
  have g2 := G_ro r2 a2 b2
  have hx9 : x = c 87 9 := by
    rw [hx, ← g0]
    rfl
  rw [g0, hx9] at g1
  rw [g1] at g2
  exact g2
theorem Mf_I (hv : qAv c) (hf : ¬ gFu c) : qI (gMf (gMk0 c 75 4).toInt.toNat 0 (gM9 (gMk0 c))) ∧ gFd (gMf (gMk0 c 75 4).toInt.toNat 0 (gM9 (gMk0 c))) = gMv c := by
  have j := Jg_0 hv hf
  have q4 := j.2.1.2.2.2
  have e := gMf_J (gMk1 c 75 4).toInt.toNat 0 (gMk1 c) j (by omega)
  have r75 : gMk1 c 75 = gMk0 c 75 := by
    unfold gMk1
    rw [ma_u_ne _ _ _ (by decide), ma_u_ne _ _ _ (by decide)]
  rw [← M9_e, ← r75]
  exact ⟨e.1, rfl⟩
theorem J9 (hv : qAv c) (hf : ¬ gFu c) (h : aG T6 = gMk0 c) : qJg (gM9 (aG T6)) (2 * (c 87 9).toInt + (c 87 5).toInt - (c 87 3).toInt) (c 87 3).toInt (c 87 10).toInt (gPf (gMk1 c)) (gNf (gMk1 c)) 0 := by
  rw [h, ← M9_e]
  exact Jg_0 hv hf
theorem M0_y (h : gFu a) : gM0 a = gMa a ∧ gV0 a = aSv a := ⟨if_pos h, if_pos h⟩
theorem M0_n (h : ¬ gFu a) : gM0 a = a ∧ gV0 a = 0 := ⟨if_neg h, if_neg h⟩
theorem Mi_y (h : gFu (gM0 a)) : gMi a = gM0 a ∧ gVi a = gV0 a := ⟨if_pos h, if_pos h⟩
theorem Mi_n (h : ¬ gFu (gM0 a)) : gMi a = gMv (gM0 a) ∧ gVi a = gV0 a + (gMk0 (gM0 a) 69 11 - gKp (gM0 a) 69 11) := ⟨if_neg h, if_neg h⟩
/-! room -/
theorem R1_gy (h : gHs a z) : gR1 a z = a := if_pos h
theorem R1_gn (h : ¬ gHs a z) : gR1 a z = gMi a := if_neg h
theorem R2_gy (h : gHs a z) : gR2 a z = a := if_pos h
theorem R2_gn (h : ¬ gHs a z) : gR2 a z = gMi (gMa a) := if_neg h
theorem gRo_y (h : (a 87 9).toInt < (a 87 10).toInt + z) : gRo a z = gMa a := if_pos h
theorem Ro_n (h : ¬ (a 87 9).toInt < (a 87 10).toInt + z) : gRo a z = a := if_neg h
theorem Rs_go (h : (a 87 5).toInt / 2 < z) (e : gRo a z = b) : gRs a z = b ∧ ((b 87 9).toInt < (b 87 10).toInt + z → gRp a z = -1) ∧ (¬ (b 87 9).toInt < (b 87 10).toInt + z → gRp a z = (b 87 10).toInt) := by
  have r : gRs a z = b := by
    unfold gRs
    rw [if_pos h, e]
  refine ⟨r, fun w => ?_, fun w => ?_⟩
  · unfold gRp
    rw [if_pos h, r, if_pos w]
  · unfold gRp
    rw [if_pos h, r, if_neg w]
theorem Rs_gy (h : ¬ (a 87 5).toInt / 2 < z) (e1 : gR1 a z = c) (e : gR2 c z = b) : gRs a z = b ∧ (gHs b z → gRp a z = (b 87 4).toInt) ∧ (¬ gHs b z → gRp a z = -1) := by
  have r : gRs a z = b := by
    unfold gRs
    rw [if_neg h, e1, e]
  refine ⟨r, fun w => ?_, fun w => ?_⟩
  · unfold gRp
    rw [if_neg h, r]
    exact if_pos w
  · unfold gRp
    rw [if_neg h, r]
    exact if_neg w
end F28
theorem g_5_82_sy_0 {X : Nat × (Nat → Int32)} {d w : Nat} {S : ma_S} {Q : Option ma_V ⊕ Nat → ma_S → Prop}  (hd : 3 ≤ d) (hw : 138 ≤ w) (hS : zT S) (h : ma_wp X (d - 1) (w - 20) 116 0 [(0, .inr (.inr (some 75)))] [] S (zv (fun S1 => zT S1 ∧ (ma_wp X (d - 1) (w - 23) 83 0 [(0, .inr (.inr (some 69))), (1, .inr (.inr (some 75)))] [] S1 (zv (fun S3 => zT S3 ∧ (ma_wp X (d - 1) (w - 24) 86 0 [(0, .inr (.inr (some 69))), (1, .inr (.inr (some 75)))] [] S3 (zi (fun v6 S5 => zT S5 ∧ (ma_wp X (d - 1) (w - 24) 263 0 [(0, .inr (.inr (some 82))), (1, .inl (mI S5 82 3))] [] S5 (zi (fun v8 S7 => zT S7 ∧ (ma_wp X (d - 1) (w - 23) 6 0 [(0, .inr (.inr (some 82)))] [] (ma_put S7 82 6 (.inl v8)) (zv (fun S9 => zT S9 ∧ (Q (.inl (some (.inl v6))) S9)) (fun x S9 => Q (.inr x) S9)))) (fun _ _ => False)))) (fun x S9 => Q (.inr x) S9)))) (fun x S9 => Q (.inr x) S9)))) (fun x S9 => Q (.inr x) S9))) : ma_wp X d w 5 0 [(0, .inr (.inr (some 82)))] [] S Q := by
  refine zw_push hm_5 dX0_cleanOld_0 (v := .inr (.inr (some 82))) rfl ?_
  refine zw_gf hm_5 dX0_cleanOld_1 (v := .inr (.inr (some 75))) (zT_is hS s_82) (zT_t hS s_82) rfl f_1_70_1 (zT_f hS r_82_1) ?_
  refine zw_cv hm_5 dX0_cleanOld_4 v_1_74_10 hm_116 [] [] rfl (zT_rt hS s_75 rfl) ⟨by omega, by omega⟩ rfl (zw_mono h (zv_go ?_ ?_))
  · intro S1 hv
    obtain ⟨hS1, h⟩ := hv
    refine zw_push hm_5 dX0_cleanOld_7 (v := .inr (.inr (some 82))) rfl ?_
    refine zw_gf hm_5 dX0_cleanOld_8 (v := .inr (.inr (some 69))) (zT_is hS1 s_82) (zT_t hS1 s_82) rfl f_1_80_1 (zT_f hS1 r_82_0) ?_
    refine zw_push hm_5 dX0_cleanOld_11 (v := .inr (.inr (some 82))) rfl ?_
    refine zw_gf hm_5 dX0_cleanOld_12 (v := .inr (.inr (some 75))) (zT_is hS1 s_82) (zT_t hS1 s_82) rfl f_1_70_1 (zT_f hS1 r_82_1) ?_
    refine zw_cv hm_5 dX0_cleanOld_15 v_1_84_7 hm_83 [.inr (.inr (some 75))] [] rfl (zT_rt hS1 s_69 rfl) ⟨by omega, by omega⟩ rfl (zw_mono h (zv_go ?_ ?_))
    · intro S3 hv
      obtain ⟨hS3, h⟩ := hv
      refine zw_push hm_5 dX0_cleanOld_18 (v := .inr (.inr (some 82))) rfl ?_
      refine zw_gf hm_5 dX0_cleanOld_19 (v := .inr (.inr (some 69))) (zT_is hS3 s_82) (zT_t hS3 s_82) rfl f_1_80_1 (zT_f hS3 r_82_0) ?_
      refine zw_push hm_5 dX0_cleanOld_22 (v := .inr (.inr (some 82))) rfl ?_
      refine zw_gf hm_5 dX0_cleanOld_23 (v := .inr (.inr (some 75))) (zT_is hS3 s_82) (zT_t hS3 s_82) rfl f_1_70_1 (zT_f hS3 r_82_1) ?_
      refine zw_cv hm_5 dX0_cleanOld_26 v_1_90_7 hm_86 [.inr (.inr (some 75))] [] rfl (zT_rt hS3 s_69 rfl) ⟨by omega, by omega⟩ rfl (zw_mono h (zi_go ?_ ?_))
      · intro v6 S5 hv
        obtain ⟨hS5, h⟩ := hv
        refine zw_sto hm_5 dX0_cleanOld_29 [(1, .inl v6), (0, .inr (.inr (some 82)))] rfl rfl rfl ?_
        refine zw_push hm_5 dX0_cleanOld_30 (v := .inr (.inr (some 82))) rfl ?_
        refine zw_push hm_5 dX0_cleanOld_31 (v := .inr (.inr (some 82))) rfl ?_
        refine zw_push hm_5 dX0_cleanOld_32 (v := .inr (.inr (some 82))) rfl ?_
        refine zw_gf hm_5 dX0_cleanOld_33 (v := .inl (mI S5 82 3)) (zT_is hS5 s_82) (zT_t hS5 s_82) rfl f_1_19_1 rfl ?_
        refine zw_cv hm_5 dX0_cleanOld_36 v_1_94_1 hm_263 [.inl (mI S5 82 3)] [.inr (.inr (some 82))] rfl (zT_rt hS5 s_82 rfl) ⟨by omega, by omega⟩ rfl (zw_mono h (zi_go ?_ ?_))
        · intro v8 S7 hv
          obtain ⟨hS7, h⟩ := hv
          refine zw_pf hm_5 dX0_cleanOld_39 (zT_is hS7 s_82) (zT_t hS7 s_82) p_1_28_1 zk_int ?_
          refine zw_push hm_5 dX0_cleanOld_42 (v := .inr (.inr (some 82))) rfl ?_
          refine zw_cv hm_5 dX0_cleanOld_43 v_1_97_1 hm_6 [] [] rfl (zT_rt (zT_pi hS7) s_82 rfl) ⟨by omega, by omega⟩ rfl (zw_mono h (zv_go ?_ ?_))
          · intro S9 hv
            obtain ⟨hS9, h⟩ := hv
            refine zw_push hm_5 dX0_cleanOld_46 (v := .inl v6) rfl ?_
            exact zw_iret hm_5 dX0_cleanOld_47 h
          · intro x S9 hx
            exact ⟨by decide, hx⟩
        · intro x S9 hx
          exact hx.elim
      · intro x S9 hx
        exact ⟨by decide, hx⟩
    · intro x S9 hx
      exact ⟨by decide, hx⟩
  · intro x S9 hx
    exact ⟨by decide, hx⟩
theorem sp_5_82_sy {X : Nat × (Nat → Int32)} {d w : Nat} {f : Nat → Nat → Int32} {r : Nat → Nat → Option Nat} {C Z N : Nat} {Q : Option ma_V ⊕ Nat → ma_S → Prop} {ab : Nat→Nat→Int32} {S : ma_S}  (hd : 3 ≤ d) (hw : 138 ≤ w) (hI : zJ82 f r C Z N S) (hpre0 : xB S (mR S 70)) (hpre1 : aG S = ab) (hpre2 : qAv ab) (K : ∀ v S₉, zJ82 f r C Z N S₉ → (True) → (xB S₉ (mR S₉ 70)) → (aG S₉ = gMa ab ∧ v = aSv ab) → Q (.inl (some (.inl v))) S₉) : ma_wp X d w 5 0 [(0, .inr (.inr (some 82)))] [] S Q := by
  refine g_5_82_sy_0  (by omega) (by omega) (zG_T hI) ?_
  refine sp_116_75_s (ab := (aS 75 S)) (R := (mR S 70)) (a8 := (aS 88 S)) (by omega) (by omega) (zJ82_dn hI) (show xB S (mR S 70) from by first | (exact xB_x (xC_o (W := 75) hpre0).2)) (show aS 75 S = (aS 75 S) from by first | (exact rfl)) (show aS 88 S = (aS 88 S) from by first | (exact rfl)) (fun S1 hL_S1 rp0_S1 rp1_S1 rp2_S1 => zv_n ⟨zG_T hL_S1, ?_⟩)
  have hI_S1 := zJ82_up hI hL_S1
  have rp0_S1 : xB S1 (mR S 70) := by
    have z := rp0_S1
    (try rw [show mI S 65 = f 65 from funext (fun k => zG_z hI rfl)] at z)
    (try rw [show mI S 64 1 = f 64 1 from zG_z hI rfl] at z)
    exact z
  have rp1_S1 : aS 75 S1 = aSp 512 (aRo (aWh (aS 75 S) 0) 0) := by
    have z := rp1_S1
    (try rw [show mI S 65 = f 65 from funext (fun k => zG_z hI rfl)] at z)
    (try rw [show mI S 64 1 = f 64 1 from zG_z hI rfl] at z)
    exact z
  have rp2_S1 : aS 88 S1 = (aS 88 S) := by
    have z := rp2_S1
    (try rw [show mI S 65 = f 65 from funext (fun k => zG_z hI rfl)] at z)
    (try rw [show mI S 64 1 = f 64 1 from zG_z hI rfl] at z)
    exact z
  refine sp_83_69_75_s (ab := (aS 75 S1)) (R := (mR S1 70)) (by omega) (by omega) (zJ82_dn hI_S1) (show xB S1 (mR S1 70) from by first | (exact xB_x (xC_o (W := 75) rp0_S1).2)) (show aS 75 S1 = (aS 75 S1) from by first | (exact rfl)) (fun S3 hL_S3 rp0_S3 rp1_S3 => zv_n ⟨zG_T hL_S3, ?_⟩)
  have hI_S3 := zJ82_up hI_S1 hL_S3
  have rp0_S3 : xB S3 (mR S1 70) := by
    have z := rp0_S3
    (try rw [show mI S1 65 = f 65 from funext (fun k => zG_z hI_S1 rfl)] at z)
    (try rw [show mI S1 64 1 = f 64 1 from zG_z hI_S1 rfl] at z)
    exact z
  have rp1_S3 : aS 75 S3 = aGw (aS 75 S1) 0 := by
    have z := rp1_S3
    (try rw [show mI S1 65 = f 65 from funext (fun k => zG_z hI_S1 rfl)] at z)
    (try rw [show mI S1 64 1 = f 64 1 from zG_z hI_S1 rfl] at z)
    exact z
  refine sp_86_69_75_s (ab := (aS 75 S3)) (by omega) (by omega) (zJ82_dn hI_S3) (show xB S3 (mR S3 70) from by first | (exact xB_x (xC_o (W := 75) rp0_S3).2)) (show aS 75 S3 = (aS 75 S3) from by first | (exact rfl)) (fun v6 S5 hL_S5 hp_v6 rp0_S5 rp1_S5 => zi_n ⟨zG_T hL_S5, ?_⟩)
  have hI_S5 := zJ82_up hI_S3 hL_S5
  have rp0_S5 : xB S5 (mR S5 70) := by
    have z := rp0_S5
    (try rw [show mI S3 65 = f 65 from funext (fun k => zG_z hI_S3 rfl)] at z)
    (try rw [show mI S3 64 1 = f 64 1 from zG_z hI_S3 rfl] at z)
    exact z
  have rp1_S5 : aS 75 S5 = aMv (aS 75 S3) 0 ∧ v6 = aMv (aS 75 S3) 0 69 11 - (aS 75 S3) 69 11 := by
    have z := rp1_S5
    (try rw [show mI S3 65 = f 65 from funext (fun k => zG_z hI_S3 rfl)] at z)
    (try rw [show mI S3 64 1 = f 64 1 from zG_z hI_S3 rfl] at z)
    exact z
  have x1 : (mI S 82 3).toInt ≤ (mI S 82 7).toInt ∧ (mI S 82 7).toInt ≤ (mI S 82 3).toInt + (mI S 82 2).toInt := zG_x hI
  have f2 := zG_s hI (0) (1500) (c := 82) (k := 3) (by decide)
  have q3 : (mI S1 82 3).toInt = (mI S 82 3).toInt := zG_zi hL_S1 rfl
  have x4 : (mI S1 82 3).toInt ≤ (mI S1 82 7).toInt ∧ (mI S1 82 7).toInt ≤ (mI S1 82 3).toInt + (mI S1 82 2).toInt := zG_x hI_S1
  have f5 := zG_s hI_S1 (0) (1500) (c := 82) (k := 3) (by decide)
  have q6 : (mI S3 82 3).toInt = (mI S1 82 3).toInt := zG_zi hL_S3 rfl
  have x7 : (mI S3 82 3).toInt ≤ (mI S3 82 7).toInt ∧ (mI S3 82 7).toInt ≤ (mI S3 82 3).toInt + (mI S3 82 2).toInt := zG_x hI_S3
  have f8 := zG_s hI_S3 (0) (1500) (c := 82) (k := 3) (by decide)
  have q9 : (mI S5 82 3).toInt = (mI S3 82 3).toInt := zG_zi hL_S5 rfl
  have x10 : (mI S5 82 3).toInt ≤ (mI S5 82 7).toInt ∧ (mI S5 82 7).toInt ≤ (mI S5 82 3).toInt + (mI S5 82 2).toInt := zG_x hI_S5
  have f11 := zG_s hI_S5 (0) (1500) (c := 82) (k := 3) (by decide)
  refine sp_263_82_s (ab := (aM (zfG (mI S5)) S5)) (q := (zfG (mI S5))) ((mI S5 82 3)) (by omega) (by omega) (zJ82_dn hI_S5) (by omega) (show xB S5 (mR S5 70) from by first | (exact xB_x (xC_o (W := 75) rp0_S5).2)) (show aM (zfG (mI S5)) S5 = (aM (zfG (mI S5)) S5) from by first | (exact rfl)) (show qI (aM (zfG (mI S5)) S5) from by first | (exact Qsd hpre2 hpre1 (show aS 75 S5 = aSw (aS 75 S) from by rw [rp1_S5.1, rp1_S3, rp1_S1]; rfl) ((show mI S5 82 = mI S3 82 from funext (fun _ => zG_z hL_S5 rfl)).trans ((show mI S3 82 = mI S1 82 from funext (fun _ => zG_z hL_S3 rfl)).trans (show mI S1 82 = mI S 82 from funext (fun _ => zG_z hL_S1 rfl)))) ((show mI S5 83 = mI S3 83 from funext (fun _ => zG_z hL_S5 rfl)).trans ((show mI S3 83 = mI S1 83 from funext (fun _ => zG_z hL_S3 rfl)).trans (show mI S1 83 = mI S 83 from funext (fun _ => zG_z hL_S1 rfl)))))) (show ((zfG (mI S5)) 2).toInt = 0 from by first | (exact rfl)) (fun v8 S7 hL_S7 hp_v8 rp0_S7 rp1_S7 => zi_n ⟨zG_T hL_S7, ?_⟩)
  have hI_S7 := zJ82_up hI_S5 hL_S7
  have rp0_S7 : xB S7 (mR S7 70) := by
    have z := rp0_S7
    (try rw [show mI S5 65 = f 65 from funext (fun k => zG_z hI_S5 rfl)] at z)
    (try rw [show mI S5 64 1 = f 64 1 from zG_z hI_S5 rfl] at z)
    exact z
  have rp1_S7 : aM (zfG (mI S5)) S7 = (zSd (aM (zfG (mI S5)) S5) (mI S5 82 3).toInt 0 0).1 ∧ v8.toInt = (zSd (aM (zfG (mI S5)) S5) (mI S5 82 3).toInt 0 0).2 ∧ ∃ p, (mI S5 82 3).toInt ≤ p ∧ qJs (aM (zfG (mI S5)) S7) p v8.toInt := by
    have z := rp1_S7
    (try rw [show mI S5 65 = f 65 from funext (fun k => zG_z hI_S5 rfl)] at z)
    (try rw [show mI S5 64 1 = f 64 1 from zG_z hI_S5 rfl] at z)
    exact z
  have b13 := i_bd v8
  have hI12 : zJ82 f r C Z N (ma_put S7 82 6 (.inl v8)) := zG_sp hI_S7 (0) (400000) rfl (by decide) (by decide) (by decide) (show zJ82_x (mI S7) from zG_x hI_S7) (by omega) (by omega)
  refine sp_6_82_sy (ab := (aG (ma_put S7 82 6 (.inl v8)))) (by omega) (by omega) hI12 (show xB (ma_put S7 82 6 (.inl v8)) (mR (ma_put S7 82 6 (.inl v8)) 70) from by first | (exact xB_x (xC_n (c := 82) (k := 6) (x := v8) (xC_o (W := 75) rp0_S7) ⟨by decide, Or.inl ⟨rfl, rfl⟩⟩).2)) (show aG (ma_put S7 82 6 (.inl v8)) = (aG (ma_put S7 82 6 (.inl v8))) from by first | (exact rfl)) (show qI (aG (ma_put S7 82 6 (.inl v8))) from by first | (rw [((G_pk (n := 6) (k := 10) (x := v8) (xC_o (W := 75) rp0_S7).2 (by decide)).trans (congrArg (fun q => ma_u q 87 10 v8) (show aG S7 = aG S7 from rfl))), (Ma_e hpre2 hpre1 (show aS 75 S5 = aSw (aS 75 S) from by rw [rp1_S5.1, rp1_S3, rp1_S1]; rfl) ((show mI S5 82 = mI S3 82 from funext (fun _ => zG_z hL_S5 rfl)).trans ((show mI S3 82 = mI S1 82 from funext (fun _ => zG_z hL_S3 rfl)).trans (show mI S1 82 = mI S 82 from funext (fun _ => zG_z hL_S1 rfl)))) ((show mI S5 83 = mI S3 83 from funext (fun _ => zG_z hL_S5 rfl)).trans ((show mI S3 83 = mI S1 83 from funext (fun _ => zG_z hL_S3 rfl)).trans (show mI S1 83 = mI S 83 from funext (fun _ => zG_z hL_S1 rfl)))) rp1_S7.1 rp1_S7.2.1 (show _ = mI S 82 3 from congrFun ((show mI S5 82 = mI S3 82 from funext (fun _ => zG_z hL_S5 rfl)).trans ((show mI S3 82 = mI S1 82 from funext (fun _ => zG_z hL_S3 rfl)).trans (show mI S1 82 = mI S 82 from funext (fun _ => zG_z hL_S1 rfl)))) 3) (show mI S7 82 = mI S5 82 from funext (fun _ => zG_z hL_S7 rfl)) (show mI S7 83 = mI S5 83 from funext (fun _ => zG_z hL_S7 rfl)))]; exact (A0_ma hpre2).1.1)) (fun S9 hI_S9 rp0_S9 rp1_S9 => zv_n ⟨zG_T hI_S9, ?_⟩)
  have rp0_S9 : xB S9 (mR S9 70) := rp0_S9
  have rp1_S9 : aG S9 = gFd (aG (ma_put S7 82 6 (.inl v8))) := rp1_S9
  have b14 := i_bd v6
  exact K (v6) _ hI_S9 trivial (show xB S9 (mR S9 70) from by first | (exact xB_x (xC_o (W := 75) rp0_S9).2)) (show aG S9 = gMa ab ∧ v6 = aSv ab from by first | (refine ⟨?_, ?_⟩; (rw [rp1_S9]; have z := ((G_pk (n := 6) (k := 10) (x := v8) (xC_o (W := 75) rp0_S7).2 (by decide)).trans (congrArg (fun q => ma_u q 87 10 v8) (show aG S7 = aG S7 from rfl))); rw [(Ma_e hpre2 hpre1 (show aS 75 S5 = aSw (aS 75 S) from by rw [rp1_S5.1, rp1_S3, rp1_S1]; rfl) ((show mI S5 82 = mI S3 82 from funext (fun _ => zG_z hL_S5 rfl)).trans ((show mI S3 82 = mI S1 82 from funext (fun _ => zG_z hL_S3 rfl)).trans (show mI S1 82 = mI S 82 from funext (fun _ => zG_z hL_S1 rfl)))) ((show mI S5 83 = mI S3 83 from funext (fun _ => zG_z hL_S5 rfl)).trans ((show mI S3 83 = mI S1 83 from funext (fun _ => zG_z hL_S3 rfl)).trans (show mI S1 83 = mI S 83 from funext (fun _ => zG_z hL_S1 rfl)))) rp1_S7.1 rp1_S7.2.1 (show _ = mI S 82 3 from congrFun ((show mI S5 82 = mI S3 82 from funext (fun _ => zG_z hL_S5 rfl)).trans ((show mI S3 82 = mI S1 82 from funext (fun _ => zG_z hL_S3 rfl)).trans (show mI S1 82 = mI S 82 from funext (fun _ => zG_z hL_S1 rfl)))) 3) (show mI S7 82 = mI S5 82 from funext (fun _ => zG_z hL_S7 rfl)) (show mI S7 83 = mI S5 83 from funext (fun _ => zG_z hL_S7 rfl)))] at z; rw [z]; rfl); (have u := rp1_S5.2; rw [rp1_S3, rp1_S1] at u; exact u.trans ((show _ = aSv (aS 75 S) from rfl).trans (G_sv.trans (congrArg aSv hpre1))))))

