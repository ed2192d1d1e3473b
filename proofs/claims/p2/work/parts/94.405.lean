/-! the reference (written by wip/tools/gen94m.py) -/
def wr_228 (c k : Nat) : Bool := (Nat.beq c 94 && (Nat.beq k 50 || Nat.beq k 84))
theorem ws_226_228 : ∀ c k, wr_226 c k = true → wr_228 c k = true := by
  intro c k h
  simp only [wr_226, wr_228, Bool.or_eq_true, Bool.and_eq_true, Nat.beq_eq] at h ⊢
  omega
theorem g_228_0 {X : Nat × (Nat → Int32)} {m : Nat → Nat → Int32} {P : Option ma_V → (Nat → Nat → Int32) → Prop} (n : Int32) (e : Int32) (h : zm X 1 21 226 0 [(0, .inr (.inr (some 94))), (1, .inl (0 : Int32)), (2, .inl (m 94 11))] m (zmi (fun v2 m1 => zm X 2 45 228 10 [(0, .inr (.inr (some 94))), (1, .inl n), (2, .inl e), (3, .inl v2)] m1 P))) : zm X 2 45 228 0 [(0, .inr (.inr (some 94))), (1, .inl n), (2, .inl e)] m P := by
  intro d w S Q hd hw hS hm HQ
  subst hm
  refine zw_push hm_228 dX12_firstFitAhead_0 (v := .inr (.inr (some 94))) rfl ?_
  refine zw_push hm_228 dX12_firstFitAhead_1 (v := .inl (0 : Int32)) rfl ?_
  refine zw_push hm_228 dX12_firstFitAhead_2 (v := .inr (.inr (some 94))) rfl ?_
  refine zw_gf hm_228 dX12_firstFitAhead_3 (v := .inl ((mI S) 94 11)) (zT_is hS s_94) (zT_t hS s_94) rfl f_12_202_12 rfl ?_
  refine zw_cv hm_228 dX12_firstFitAhead_6 v_12_423_12 hm_226 [.inl ((mI S) 94 11), .inl (0 : Int32)] [] rfl (zT_rt hS s_94 rfl) ⟨by omega, by omega⟩ rfl (h _ _ S _ (by omega) (by omega) hS rfl (fun o9 m1 hv => ?_))
  obtain ⟨v2, rfl, h⟩ := zmi_of hv
  show ma_wp X d w 228 9 [(0, .inr (.inr (some 94))), (1, .inl n), (2, .inl e)] [.inl v2] (zst S m1) _
  refine zw_sto hm_228 dX12_firstFitAhead_9 [(3, .inl v2), (0, .inr (.inr (some 94))), (1, .inl n), (2, .inl e)] rfl rfl rfl ?_
  exact zw_sub (ma_nd_of (ks := [0, 1, 2, 3]) rfl (by decide)) (ma_nd_of (ks := [3, 0, 1, 2]) rfl (by decide)) (ma_le_cons rfl (ma_le_cons rfl (ma_le_cons rfl (ma_le_cons rfl (ma_le_nil _))))) (h d w _ Q (by omega) (by omega) (zT_zst hS m1) rfl HQ)
theorem g_228_10 {X : Nat × (Nat → Int32)} {m : Nat → Nat → Int32} {P : Option ma_V → (Nat → Nat → Int32) → Prop} (l1 : Int32) (l2 : Int32) (l3 : Int32) (h : if l3 < 0 then (P (some (.inl (-1 : Int32))) m) else (if l2 ≤ l3 then (P (some (.inl (-1 : Int32))) m) else (if (m 94 84) < l1 then (zm X 1 21 226 0 [(0, .inr (.inr (some 94))), (1, .inl (l3 + (m 94 84))), (2, .inl (m 94 11))] (ma_u m 94 50 ((m 94 50) + (1 : Int32))) (zmi (fun v2 m1 => zm X 2 45 228 10 [(0, .inr (.inr (some 94))), (1, .inl l1), (2, .inl l2), (3, .inl v2)] m1 P))) else (P (some (.inl l3)) (ma_u m 94 50 ((m 94 50) + (1 : Int32))))))) : zm X 2 45 228 10 [(0, .inr (.inr (some 94))), (1, .inl l1), (2, .inl l2), (3, .inl l3)] m P := by
  intro d w S Q hd hw hS hm HQ
  subst hm
  refine zw_push hm_228 dX12_firstFitAhead_10 (v := .inl l3) rfl ?_
  refine zw_if0 hm_228 dX12_firstFitAhead_11 (t := 57) rfl zc0_lt ?_ ?_
  · intro hc
    rw [if_pos hc] at h
    refine zw_push hm_228 dX12_firstFitAhead_57 (v := .inl (-1 : Int32)) rfl ?_
    exact zw_iret hm_228 dX12_firstFitAhead_58 (HQ _ _ h)
  · intro hc
    rw [if_neg hc] at h
    refine zw_push hm_228 dX12_firstFitAhead_14 (v := .inl l3) rfl ?_
    refine zw_push hm_228 dX12_firstFitAhead_15 (v := .inl l2) rfl ?_
    refine zw_if2 hm_228 dX12_firstFitAhead_16 (t := 57) rfl zc2_ge ?_ ?_
    · intro hc
      rw [if_pos hc] at h
      refine zw_push hm_228 dX12_firstFitAhead_57 (v := .inl (-1 : Int32)) rfl ?_
      exact zw_iret hm_228 dX12_firstFitAhead_58 (HQ _ _ h)
    · intro hc
      rw [if_neg hc] at h
      refine zw_push hm_228 dX12_firstFitAhead_19 (v := .inr (.inr (some 94))) rfl ?_
      refine zw_stk hm_228 dX12_firstFitAhead_20 (st' := [.inr (.inr (some 94)), .inr (.inr (some 94))]) rfl rfl ?_
      refine zw_gf hm_228 dX12_firstFitAhead_21 (v := .inl ((mI S) 94 50)) (zT_is hS s_94) (zT_t hS s_94) rfl f_12_258_12 rfl ?_
      refine zw_push hm_228 dX12_firstFitAhead_24 (v := .inl (1 : Int32)) rfl ?_
      refine zw_stk hm_228 dX12_firstFitAhead_25 (st' := [.inl (((mI S) 94 50) + (1 : Int32)), .inr (.inr (some 94))]) rfl rfl ?_
      refine zw_pf hm_228 dX12_firstFitAhead_26 (zT_is hS s_94) (zT_t hS s_94) p_12_258_12 zk_int ?_
      refine zw_push hm_228 dX12_firstFitAhead_29 (v := .inr (.inr (some 94))) rfl ?_
      refine zw_gf hm_228 dX12_firstFitAhead_30 (v := .inl ((mI S) 94 84)) (zT_is (zT_pi hS) s_94) (zT_t (zT_pi hS) s_94) rfl f_12_420_12 rfl ?_
      refine zw_push hm_228 dX12_firstFitAhead_33 (v := .inl l1) rfl ?_
      refine zw_if2 hm_228 dX12_firstFitAhead_34 (t := 39) rfl zc2_lt ?_ ?_
      · intro hc
        rw [if_pos hc] at h
        refine zw_push hm_228 dX12_firstFitAhead_39 (v := .inr (.inr (some 94))) rfl ?_
        refine zw_push hm_228 dX12_firstFitAhead_40 (v := .inl l3) rfl ?_
        refine zw_push hm_228 dX12_firstFitAhead_41 (v := .inr (.inr (some 94))) rfl ?_
        refine zw_gf hm_228 dX12_firstFitAhead_42 (v := .inl ((mI S) 94 84)) (zT_is (zT_pi hS) s_94) (zT_t (zT_pi hS) s_94) rfl f_12_420_12 rfl ?_
        refine zw_stk hm_228 dX12_firstFitAhead_45 (st' := [.inl (l3 + ((mI S) 94 84)), .inr (.inr (some 94))]) rfl rfl ?_
        refine zw_push hm_228 dX12_firstFitAhead_46 (v := .inr (.inr (some 94))) rfl ?_
        refine zw_gf hm_228 dX12_firstFitAhead_47 (v := .inl ((mI S) 94 11)) (zT_is (zT_pi hS) s_94) (zT_t (zT_pi hS) s_94) rfl f_12_202_12 rfl ?_
        refine zw_cv hm_228 dX12_firstFitAhead_50 v_12_423_12 hm_226 [.inl ((mI S) 94 11), .inl (l3 + ((mI S) 94 84))] [] rfl (zT_rt (zT_pi hS) s_94 rfl) ⟨by omega, by omega⟩ rfl (h _ _ (ma_put S 94 50 (.inl (((mI S) 94 50) + (1 : Int32)))) _ (by omega) (by omega) (zT_pi hS) rfl (fun o9 m1 hv => ?_))
        obtain ⟨v2, rfl, h⟩ := zmi_of hv
        show ma_wp X d w 228 53 [(0, .inr (.inr (some 94))), (1, .inl l1), (2, .inl l2), (3, .inl l3)] [.inl v2] (zst S m1) _
        refine zw_sto hm_228 dX12_firstFitAhead_53 [(3, .inl v2), (0, .inr (.inr (some 94))), (1, .inl l1), (2, .inl l2)] rfl rfl rfl ?_
        refine zw_goto hm_228 dX12_firstFitAhead_54 (t := 10) rfl ?_
        exact zw_sub (ma_nd_of (ks := [0, 1, 2, 3]) rfl (by decide)) (ma_nd_of (ks := [3, 0, 1, 2]) rfl (by decide)) (ma_le_cons rfl (ma_le_cons rfl (ma_le_cons rfl (ma_le_cons rfl (ma_le_nil _))))) (h d w _ Q (by omega) (by omega) (zT_zst hS m1) rfl HQ)
      · intro hc
        rw [if_neg hc] at h
        refine zw_push hm_228 dX12_firstFitAhead_37 (v := .inl l3) rfl ?_
        exact zw_iret hm_228 dX12_firstFitAhead_38 (HQ _ _ h)
theorem lp_228_10 {X : Nat × (Nat → Int32)} {P : Option ma_V → (Nat → Nat → Int32) → Prop} {n : Int32} {e : Int32} {m0 : Nat → Nat → Int32} (h0 : zV m0) (K : ∀ v m', zF wr_228 m0 m' → zV m' → (-1 ≤ v.toInt ∧ v.toInt ≤ 1500) → P (some (.inl v)) m') : ∀ (n : Nat) (m : Nat → Nat → Int32) (l1 : Int32) (l2 : Int32) (l3 : Int32), (4700 - l3.toInt % 4701).toNat = n → zF wr_228 m0 m → zV m → (l3.toInt = -1 ∨ (0 ≤ l3.toInt ∧ l3.toInt < (m 94 11).toInt ∧ 1 ≤ (m 94 84).toInt ∧ l3.toInt + (m 94 84).toInt ≤ (m 94 11).toInt)) → zm X 2 45 228 10 [(0, .inr (.inr (some 94))), (1, .inl l1), (2, .inl l2), (3, .inl l3)] m P := by
  intro n
  induction n using Nat.strongRecOn with
  | _ n IH =>
    intro m l1 l2 l3 hmu hF hV hi0
    refine g_228_10 l1 l2 l3 ?_
    have f1 : 0 ≤ (m 94 11).toInt ∧ (m 94 11).toInt ≤ 1500 := rs_94_11 (m := m) hV
    have f2 : 0 ≤ (m 94 84).toInt ∧ (m 94 84).toInt ≤ 4600 := rs_94_84 (m := m) hV
    have b3 := i_bd l3
    have li4 : (0 : Int32).toInt = 0 := rfl
    refine zd (fun (h5 : l3 < (0 : Int32)) => ?_) (fun (h5 : ¬ l3 < (0 : Int32)) => ?_)
    · skip
      have g6 := i_lt h5
      have li7 : (-1 : Int32).toInt = -1 := rfl
      exact K ((-1 : Int32)) _ hF hV (show -1 ≤ (-1 : Int32).toInt ∧ (-1 : Int32).toInt ≤ 1500 from by omega)
    · skip
      have g8 := i_nlt h5
      have b9 := i_bd l2
      refine zd (fun (h10 : l2 ≤ l3) => ?_) (fun (h10 : ¬ l2 ≤ l3) => ?_)
      · skip
        have g11 := i_le h10
        have li12 : (-1 : Int32).toInt = -1 := rfl
        exact K ((-1 : Int32)) _ hF hV (show -1 ≤ (-1 : Int32).toInt ∧ (-1 : Int32).toInt ≤ 1500 from by omega)
      · skip
        have g13 := i_nle h10
        have b14 := i_bd l1
        refine zd (fun (h15 : (m 94 84) < l1) => ?_) (fun (h15 : ¬ (m 94 84) < l1) => ?_)
        · skip
          have g16 := i_lt h15
          first | have e17 : (l3 + (m 94 84)).toInt = l3.toInt + (m 94 84).toInt := i_add (by omega) (by omega) | have b18 := i_bd (l3 + (m 94 84))
          have hV19 : zV (ma_u m 94 50 ((m 94 50) + (1 : Int32))) := uf_94_50 hV
          refine sp_226 ((l3 + (m 94 84))) ((m 94 11)) hV19 (by omega) (by omega) (by omega) (fun v2 m1 hV_m1 p0_m1 => zmi_n ?_)
          have p0_m1 : v2.toInt = -1 ∨ ((l3 + (m 94 84)).toInt ≤ v2.toInt ∧ v2.toInt < (m 94 11).toInt ∧ 1 ≤ (m1 94 84).toInt ∧ v2.toInt + (m1 94 84).toInt ≤ (m 94 11).toInt) := p0_m1
          have f20 : 0 ≤ (m1 94 84).toInt ∧ (m1 94 84).toInt ≤ 4600 := rs_94_84 (m := (zov wr_226 (ma_u m 94 50 ((m 94 50) + (1 : Int32))) m1)) hV_m1
          have b21 := i_bd v2
          exact IH (4700 - v2.toInt % 4701).toNat (by omega) _ (l1) (l2) (v2) rfl (zF_zov (zF_u hF rfl) ws_226_228) hV_m1 (show v2.toInt = -1 ∨ (0 ≤ v2.toInt ∧ v2.toInt < (m 94 11).toInt ∧ 1 ≤ (m1 94 84).toInt ∧ v2.toInt + (m1 94 84).toInt ≤ (m 94 11).toInt) from by omega)
        · skip
          have g22 := i_nlt h15
          have hV23 : zV (ma_u m 94 50 ((m 94 50) + (1 : Int32))) := uf_94_50 hV
          exact K (l3) _ (zF_u hF rfl) hV23 (show -1 ≤ l3.toInt ∧ l3.toInt ≤ 1500 from by omega)
theorem sp_228 {X : Nat × (Nat → Int32)} {P : Option ma_V → (Nat → Nat → Int32) → Prop} {m : Nat → Nat → Int32} (n : Int32) (e : Int32) (hV : zV m)  (KZ : ∀ v m', zV (zov wr_228 m m') → (-1 ≤ v.toInt ∧ v.toInt ≤ 1500) → P (some (.inl v)) (zov wr_228 m m')) : zm X 2 45 228 0 [(0, .inr (.inr (some 94))), (1, .inl n), (2, .inl e)] m P := by
  have K : ∀ v m', zF wr_228 m m' → zV m' → (-1 ≤ v.toInt ∧ v.toInt ≤ 1500) → P (some (.inl v)) m' := by
    intro v m' hf z q0
    have e := zov_eq hf
    rw [e] at z ⊢
    try rw [e] at q0
    exact KZ v m' z q0
  refine g_228_0 n e ?_
  have li1 : (0 : Int32).toInt = 0 := rfl
  have f2 : 0 ≤ (m 94 11).toInt ∧ (m 94 11).toInt ≤ 1500 := rs_94_11 (m := m) hV
  refine sp_226 ((0 : Int32)) ((m 94 11)) hV (by omega) (by omega) (by omega) (fun v2 m1 hV_m1 p0_m1 => zmi_n ?_)
  have p0_m1 : v2.toInt = -1 ∨ ((0 : Int32).toInt ≤ v2.toInt ∧ v2.toInt < (m 94 11).toInt ∧ 1 ≤ (m1 94 84).toInt ∧ v2.toInt + (m1 94 84).toInt ≤ (m 94 11).toInt) := p0_m1
  have f3 : 0 ≤ (m1 94 84).toInt ∧ (m1 94 84).toInt ≤ 4600 := rs_94_84 (m := (zov wr_226 m m1)) hV_m1
  have b4 := i_bd n
  have b5 := i_bd e
  have b6 := i_bd v2
  exact lp_228_10 (n := n) (e := e) hV K _ _ (n) (e) (v2) rfl (zF_zov zF_rfl ws_226_228) hV_m1 (show v2.toInt = -1 ∨ (0 ≤ v2.toInt ∧ v2.toInt < (m 94 11).toInt ∧ 1 ≤ (m1 94 84).toInt ∧ v2.toInt + (m1 94 84).toInt ≤ (m 94 11).toInt) from by omega)
def wr_227 (_ _ : Nat) : Bool := false
theorem g_227_0 {X : Nat × (Nat → Int32)} {m : Nat → Nat → Int32} {P : Option ma_V → (Nat → Nat → Int32) → Prop} (p : Int32) (h : zm X 1 21 227 2 [(0, .inr (.inr (some 94))), (1, .inl p), (2, .inl (0 : Int32))] m P) : zm X 1 21 227 0 [(0, .inr (.inr (some 94))), (1, .inl p)] m P := by
  intro d w S Q hd hw hS hm HQ
  subst hm
  refine zw_push hm_227 dX12_startOf_0 (v := .inl (0 : Int32)) rfl ?_
  refine zw_sto hm_227 dX12_startOf_1 [(2, .inl (0 : Int32)), (0, .inr (.inr (some 94))), (1, .inl p)] rfl rfl rfl ?_
  exact zw_sub (ma_nd_of (ks := [0, 1, 2]) rfl (by decide)) (ma_nd_of (ks := [2, 0, 1]) rfl (by decide)) (ma_le_cons rfl (ma_le_cons rfl (ma_le_cons rfl (ma_le_nil _)))) (h d w _ Q (by omega) (by omega) hS rfl HQ)
theorem g_227_2 {X : Nat × (Nat → Int32)} {m : Nat → Nat → Int32} {P : Option ma_V → (Nat → Nat → Int32) → Prop} (l1 : Int32) (l2 : Int32) (h : if l1 ≤ l2 then (P (some (.inl l2)) m) else ((0 ≤ l2 ∧ l2.toNatClampNeg < 4600) ∧ (if (m 111 l2.toNatClampNeg) < 0 then (zm X 1 21 227 2 [(0, .inr (.inr (some 94))), (1, .inl l1), (2, .inl (l2 + (1 : Int32)))] m P) else ((0 ≤ l2 ∧ l2.toNatClampNeg < 4600) ∧ ((0 ≤ (m 111 l2.toNatClampNeg) ∧ (m 111 l2.toNatClampNeg).toNatClampNeg < 3100) ∧ (zm X 1 21 227 2 [(0, .inr (.inr (some 94))), (1, .inl l1), (2, .inl (l2 + ((m 102 (m 111 l2.toNatClampNeg).toNatClampNeg) + (1 : Int32))))] m P)))))) : zm X 1 21 227 2 [(0, .inr (.inr (some 94))), (1, .inl l1), (2, .inl l2)] m P := by
  intro d w S Q hd hw hS hm HQ
  subst hm
  refine zw_push hm_227 dX12_startOf_2 (v := .inl l2) rfl ?_
  refine zw_push hm_227 dX12_startOf_3 (v := .inl l1) rfl ?_
  refine zw_if2 hm_227 dX12_startOf_4 (t := 38) rfl zc2_ge ?_ ?_
  · intro hc
    rw [if_pos hc] at h
    refine zw_push hm_227 dX12_startOf_38 (v := .inl l2) rfl ?_
    exact zw_iret hm_227 dX12_startOf_39 (HQ _ _ h)
  · intro hc
    rw [if_neg hc] at h
    refine zw_push hm_227 dX12_startOf_7 (v := .inr (.inr (some 94))) rfl ?_
    refine zw_gf hm_227 dX12_startOf_8 (v := .inr (.inr (some 111))) (zT_is hS s_94) (zT_t hS s_94) rfl f_12_65_12 (zT_f hS r_94_43) ?_
    refine zw_push hm_227 dX12_startOf_11 (v := .inl l2) rfl ?_
    obtain ⟨hg, h⟩ := h
    refine zw_ia hm_227 dX12_startOf_12 (zT_is hS s_111) (zT_h hS s_111) rfl hg ?_
    show ma_wp X d w 227 13 [(0, .inr (.inr (some 94))), (1, .inl l1), (2, .inl l2)] [.inl ((mI S) 111 l2.toNatClampNeg)] S _
    refine zw_if0 hm_227 dX12_startOf_13 (t := 31) rfl zc0_lt ?_ ?_
    · intro hc
      rw [if_pos hc] at h
      refine zw_push hm_227 dX12_startOf_31 (v := .inl l2) rfl ?_
      refine zw_push hm_227 dX12_startOf_32 (v := .inl (1 : Int32)) rfl ?_
      refine zw_stk hm_227 dX12_startOf_33 (st' := [.inl (l2 + (1 : Int32))]) rfl rfl ?_
      refine zw_sto hm_227 dX12_startOf_34 [(2, .inl (l2 + (1 : Int32))), (0, .inr (.inr (some 94))), (1, .inl l1)] rfl rfl rfl ?_
      refine zw_goto hm_227 dX12_startOf_35 (t := 2) rfl ?_
      exact zw_sub (ma_nd_of (ks := [0, 1, 2]) rfl (by decide)) (ma_nd_of (ks := [2, 0, 1]) rfl (by decide)) (ma_le_cons rfl (ma_le_cons rfl (ma_le_cons rfl (ma_le_nil _)))) (h d w _ Q (by omega) (by omega) hS rfl HQ)
    · intro hc
      rw [if_neg hc] at h
      refine zw_push hm_227 dX12_startOf_16 (v := .inl l2) rfl ?_
      refine zw_push hm_227 dX12_startOf_17 (v := .inr (.inr (some 94))) rfl ?_
      refine zw_push hm_227 dX12_startOf_18 (v := .inr (.inr (some 94))) rfl ?_
      refine zw_gf hm_227 dX12_startOf_19 (v := .inr (.inr (some 111))) (zT_is hS s_94) (zT_t hS s_94) rfl f_12_65_12 (zT_f hS r_94_43) ?_
      refine zw_push hm_227 dX12_startOf_22 (v := .inl l2) rfl ?_
      obtain ⟨hg, h⟩ := h
      refine zw_ia hm_227 dX12_startOf_23 (zT_is hS s_111) (zT_h hS s_111) rfl hg ?_
      show ma_wp X d w 227 24 [(0, .inr (.inr (some 94))), (1, .inl l1), (2, .inl l2)] [.inl ((mI S) 111 l2.toNatClampNeg), .inr (.inr (some 94)), .inl l2] S _
      refine zw_cv hm_227 dX12_startOf_24 v_12_327_12 hm_201 [.inl ((mI S) 111 l2.toNatClampNeg)] [.inl l2] rfl (zT_rt hS s_94 rfl) ⟨by omega, by omega⟩ rfl ?_
      show ma_wp X (d - 1) (w - 21) 201 0 [(0, .inr (.inr (some 94))), (1, .inl ((mI S) 111 l2.toNatClampNeg))] [] S _
      refine zw_push hm_201 dX12_sizeOf_0 (v := .inr (.inr (some 94))) rfl ?_
      refine zw_gf hm_201 dX12_sizeOf_1 (v := .inr (.inr (some 102))) (zT_is hS s_94) (zT_t hS s_94) rfl f_12_37_12 (zT_f hS r_94_34) ?_
      refine zw_push hm_201 dX12_sizeOf_4 (v := .inl ((mI S) 111 l2.toNatClampNeg)) rfl ?_
      obtain ⟨hg, h⟩ := h
      refine zw_ia hm_201 dX12_sizeOf_5 (zT_is hS s_102) (zT_h hS s_102) rfl hg ?_
      show ma_wp X (d - 1) (w - 21) 201 6 [(0, .inr (.inr (some 94))), (1, .inl ((mI S) 111 l2.toNatClampNeg))] [.inl ((mI S) 102 ((mI S) 111 l2.toNatClampNeg).toNatClampNeg)] S _
      refine zw_push hm_201 dX12_sizeOf_6 (v := .inl (1 : Int32)) rfl ?_
      refine zw_stk hm_201 dX12_sizeOf_7 (st' := [.inl (((mI S) 102 ((mI S) 111 l2.toNatClampNeg).toNatClampNeg) + (1 : Int32))]) rfl rfl ?_
      refine zw_iret hm_201 dX12_sizeOf_8 ?_
      show ma_wp X d w 227 27 [(0, .inr (.inr (some 94))), (1, .inl l1), (2, .inl l2)] [.inl (((mI S) 102 ((mI S) 111 l2.toNatClampNeg).toNatClampNeg) + (1 : Int32)), .inl l2] S _
      refine zw_stk hm_227 dX12_startOf_27 (st' := [.inl (l2 + (((mI S) 102 ((mI S) 111 l2.toNatClampNeg).toNatClampNeg) + (1 : Int32)))]) rfl rfl ?_
      refine zw_goto hm_227 dX12_startOf_28 (t := 34) rfl ?_
      refine zw_sto hm_227 dX12_startOf_34 [(2, .inl (l2 + (((mI S) 102 ((mI S) 111 l2.toNatClampNeg).toNatClampNeg) + (1 : Int32)))), (0, .inr (.inr (some 94))), (1, .inl l1)] rfl rfl rfl ?_
      refine zw_goto hm_227 dX12_startOf_35 (t := 2) rfl ?_
      exact zw_sub (ma_nd_of (ks := [0, 1, 2]) rfl (by decide)) (ma_nd_of (ks := [2, 0, 1]) rfl (by decide)) (ma_le_cons rfl (ma_le_cons rfl (ma_le_cons rfl (ma_le_nil _)))) (h d w _ Q (by omega) (by omega) hS rfl HQ)
theorem lp_227_2 {X : Nat × (Nat → Int32)} {P : Option ma_V → (Nat → Nat → Int32) → Prop} {p : Int32} {m0 : Nat → Nat → Int32} (h0 : zV m0) (K : ∀ v m', zF wr_227 m0 m' → zV m' → (0 ≤ v.toInt ∧ v.toInt ≤ 4700) → P (some (.inl v)) m') : ∀ (n : Nat) (m : Nat → Nat → Int32) (l1 : Int32) (l2 : Int32), (4800 - l2.toInt).toNat = n → zF wr_227 m0 m → zV m → (0 ≤ l2.toInt) → (l2.toInt ≤ 4700) → (l1.toInt ≤ 4600) → zm X 1 21 227 2 [(0, .inr (.inr (some 94))), (1, .inl l1), (2, .inl l2)] m P := by
  intro n
  induction n using Nat.strongRecOn with
  | _ n IH =>
    intro m l1 l2 hmu hF hV hi0 hi1 hi2
    refine g_227_2 l1 l2 ?_
    have b1 := i_bd l1
    have b2 := i_bd l2
    refine zd (fun (h3 : l1 ≤ l2) => ?_) (fun (h3 : ¬ l1 ≤ l2) => ?_)
    · skip
      have g4 := i_le h3
      exact K (l2) _ hF hV (show 0 ≤ l2.toInt ∧ l2.toInt ≤ 4700 from by omega)
    · skip
      have g5 := i_nle h3
      have hg6 : (0 ≤ l2 ∧ l2.toNatClampNeg < 4600) := i_ix (by omega) (by omega)
      refine ⟨hg6, ?_⟩
      first | have f7 : -1 ≤ (m 111 l2.toNatClampNeg).toInt ∧ (m 111 l2.toNatClampNeg).toInt ≤ 3099 := ra_111 (m := m) hV (k := l2.toNatClampNeg) (i_ix (n := 4600) (by omega) (by omega)).2 | have b8 := i_bd (m 111 l2.toNatClampNeg)
      have li9 : (0 : Int32).toInt = 0 := rfl
      refine zd (fun (h10 : (m 111 l2.toNatClampNeg) < (0 : Int32)) => ?_) (fun (h10 : ¬ (m 111 l2.toNatClampNeg) < (0 : Int32)) => ?_)
      · skip
        have g11 := i_lt h10
        first | have e12 : (l2 + (1 : Int32)).toInt = l2.toInt + (1) := i_addk rfl (by omega) (by omega) | have b13 := i_bd (l2 + (1 : Int32))
        exact IH (4800 - (l2 + (1 : Int32)).toInt).toNat (by omega) _ (l1) ((l2 + (1 : Int32))) rfl hF hV (by omega) (by omega) (by omega)
      · skip
        have g14 := i_nlt h10
        have hg15 : (0 ≤ l2 ∧ l2.toNatClampNeg < 4600) := i_ix (by omega) (by omega)
        refine ⟨hg15, ?_⟩
        have hg16 : (0 ≤ (m 111 l2.toNatClampNeg) ∧ (m 111 l2.toNatClampNeg).toNatClampNeg < 3100) := i_ix (by omega) (by omega)
        refine ⟨hg16, ?_⟩
        first | have f17 : 0 ≤ (m 102 (m 111 l2.toNatClampNeg).toNatClampNeg).toInt ∧ (m 102 (m 111 l2.toNatClampNeg).toNatClampNeg).toInt ≤ 60 := ra_102 (m := m) hV (k := (m 111 l2.toNatClampNeg).toNatClampNeg) (i_ix (n := 3100) (by omega) (by omega)).2 | have b18 := i_bd (m 102 (m 111 l2.toNatClampNeg).toNatClampNeg)
        first | have e19 : ((m 102 (m 111 l2.toNatClampNeg).toNatClampNeg) + (1 : Int32)).toInt = (m 102 (m 111 l2.toNatClampNeg).toNatClampNeg).toInt + (1) := i_addk rfl (by omega) (by omega) | have b20 := i_bd ((m 102 (m 111 l2.toNatClampNeg).toNatClampNeg) + (1 : Int32))
        first | have e21 : (l2 + ((m 102 (m 111 l2.toNatClampNeg).toNatClampNeg) + (1 : Int32))).toInt = l2.toInt + ((m 102 (m 111 l2.toNatClampNeg).toNatClampNeg) + (1 : Int32)).toInt := i_add (by omega) (by omega) | have b22 := i_bd (l2 + ((m 102 (m 111 l2.toNatClampNeg).toNatClampNeg) + (1 : Int32)))
        exact IH (4800 - (l2 + ((m 102 (m 111 l2.toNatClampNeg).toNatClampNeg) + (1 : Int32))).toInt).toNat (by omega) _ (l1) ((l2 + ((m 102 (m 111 l2.toNatClampNeg).toNatClampNeg) + (1 : Int32)))) rfl hF hV (by omega) (by omega) (by omega)
theorem sp_227 {X : Nat × (Nat → Int32)} {P : Option ma_V → (Nat → Nat → Int32) → Prop} {m : Nat → Nat → Int32} (p : Int32) (hV : zV m) (hpre0 : p.toInt ≤ 4600) (KZ : ∀ v m', zV (zov wr_227 m m') → (0 ≤ v.toInt ∧ v.toInt ≤ 4700) → P (some (.inl v)) (zov wr_227 m m')) : zm X 1 21 227 0 [(0, .inr (.inr (some 94))), (1, .inl p)] m P := by
  have K : ∀ v m', zF wr_227 m m' → zV m' → (0 ≤ v.toInt ∧ v.toInt ≤ 4700) → P (some (.inl v)) m' := by
    intro v m' hf z q0
    have e := zov_eq hf
    rw [e] at z ⊢
    try rw [e] at q0
    exact KZ v m' z q0
  refine g_227_0 p ?_
  have b1 := i_bd p
  have li2 : (0 : Int32).toInt = 0 := rfl
  exact lp_227_2 (p := p) hV K _ _ (p) ((0 : Int32)) rfl zF_rfl hV (by omega) (by omega) (by omega)
