/-! the reference (written by wip/tools/gen94m.py) -/
set_option maxRecDepth 100000 in
theorem hm_178 : ma_md 178 = some (12, yX12_roomHere, cX12_roomHere, 1, (some (FieldType.boolean))) := rfl
theorem f_12_147_12 : ma_fld 12 147 12 = some 71 := by decide +kernel
theorem p_12_159_12 : ma_pk 12 159 12 21 = true := by decide +kernel
theorem v_12_157_12 : ma_vl 12 157 12 = some (1, 177, 2) := by decide +kernel
theorem dX12_roomHere_0 : decode cX12_roomHere 0 = .ok (.aload_n 0, 1) := by decide +kernel
theorem dX12_roomHere_1 : decode cX12_roomHere 1 = .ok (.bipush 16, 2) := by decide +kernel
theorem dX12_roomHere_3 : decode cX12_roomHere 3 = .ok (.sipush 1500, 3) := by decide +kernel
theorem dX12_roomHere_6 : decode cX12_roomHere 6 = .ok (.invokevirtual 157, 3) := by decide +kernel
theorem dX12_roomHere_14 : decode cX12_roomHere 14 = .ok (.aload_n 0, 1) := by decide +kernel
theorem dX12_roomHere_15 : decode cX12_roomHere 15 = .ok (.aload_n 0, 1) := by decide +kernel
theorem dX12_roomHere_22 : decode cX12_roomHere 22 = .ok (.iconst 1, 1) := by decide +kernel
theorem dX12_roomHere_23 : decode cX12_roomHere 23 = .ok (.ireturn, 1) := by decide +kernel
theorem dX12_roomHere_19 : decode cX12_roomHere 19 = .ok (.putfield 159, 3) := by decide +kernel
theorem dX12_roomHere_16 : decode cX12_roomHere 16 = .ok (.getfield 147, 3) := by decide +kernel
theorem dX12_roomHere_12 : decode cX12_roomHere 12 = .ok (.iconst 0, 1) := by decide +kernel
theorem dX12_roomHere_13 : decode cX12_roomHere 13 = .ok (.ireturn, 1) := by decide +kernel
theorem dX12_roomHere_9 : decode cX12_roomHere 9 = .ok (.ifCond .ne 5, 3) := by decide +kernel
def wr_178 (c k : Nat) : Bool := (Nat.beq c 94 && (Nat.beq k 21 || Nat.beq k 67 || Nat.beq k 68 || Nat.beq k 69 || Nat.beq k 70 || Nat.beq k 71))
theorem ws_177_178 : ∀ c k, wr_177 c k = true → wr_178 c k = true := by
  intro c k h
  simp only [wr_177, wr_178, Bool.or_eq_true, Bool.and_eq_true, Nat.beq_eq] at h ⊢
  omega
theorem g_178_0 {X : Nat × (Nat → Int32)} {m : Nat → Nat → Int32} {P : Option ma_V → (Nat → Nat → Int32) → Prop}  (h : zm X 1 21 177 0 [(0, .inr (.inr (some 94))), (1, .inl (16 : Int32)), (2, .inl (1500 : Int32))] m (zmi (fun v2 m1 => if v2 = 0 then (P (some (.inl (0 : Int32))) m1) else (P (some (.inl (1 : Int32))) (ma_u m1 94 21 (m1 94 71)))))) : zm X 2 47 178 0 [(0, .inr (.inr (some 94)))] m P := by
  intro d w S Q hd hw hS hm HQ
  subst hm
  refine zw_push hm_178 dX12_roomHere_0 (v := .inr (.inr (some 94))) rfl ?_
  refine zw_push hm_178 dX12_roomHere_1 (v := .inl (16 : Int32)) rfl ?_
  refine zw_push hm_178 dX12_roomHere_3 (v := .inl (1500 : Int32)) rfl ?_
  refine zw_cv hm_178 dX12_roomHere_6 v_12_157_12 hm_177 [.inl (1500 : Int32), .inl (16 : Int32)] [] rfl (zT_rt hS s_94 rfl) ⟨by omega, by omega⟩ rfl (h _ _ S _ (by omega) (by omega) hS rfl (fun o9 m1 hv => ?_))
  obtain ⟨v2, rfl, h⟩ := zmi_of hv
  show ma_wp X d w 178 9 [(0, .inr (.inr (some 94)))] [.inl v2] (zst S m1) _
  refine zw_if0 hm_178 dX12_roomHere_9 (t := 14) rfl zc0_ne ?_ ?_
  · intro hc
    rw [if_neg hc] at h
    refine zw_push hm_178 dX12_roomHere_14 (v := .inr (.inr (some 94))) rfl ?_
    refine zw_push hm_178 dX12_roomHere_15 (v := .inr (.inr (some 94))) rfl ?_
    refine zw_gf hm_178 dX12_roomHere_16 (v := .inl (m1 94 71)) (zT_is (zT_zst hS m1) s_94) (zT_t (zT_zst hS m1) s_94) rfl f_12_147_12 rfl ?_
    refine zw_pf hm_178 dX12_roomHere_19 (zT_is (zT_zst hS m1) s_94) (zT_t (zT_zst hS m1) s_94) p_12_159_12 zk_int ?_
    refine zw_push hm_178 dX12_roomHere_22 (v := .inl (1 : Int32)) rfl ?_
    exact zw_bret hm_178 dX12_roomHere_23 (by decide) (HQ _ _ h)
  · intro hc
    rw [if_pos (Classical.not_not.mp hc)] at h
    refine zw_push hm_178 dX12_roomHere_12 (v := .inl (0 : Int32)) rfl ?_
    exact zw_bret hm_178 dX12_roomHere_13 (by decide) (HQ _ _ h)
theorem sp_178 {X : Nat × (Nat → Int32)} {P : Option ma_V → (Nat → Nat → Int32) → Prop} {m : Nat → Nat → Int32}  (hV : zV m) (hpre0 : (m 94 67).toInt ≤ (m 94 4).toInt) (KZ : ∀ v m', zV (zov wr_178 m m') → (v = 0 ∨ v = 1) → ((m' 94 67).toInt ≤ (m 94 4).toInt) → (v.toInt = 1 → 16 ≤ (m' 94 21).toInt) → P (some (.inl v)) (zov wr_178 m m')) : zm X 2 47 178 0 [(0, .inr (.inr (some 94)))] m P := by
  have K : ∀ v m', zF wr_178 m m' → zV m' → (v = 0 ∨ v = 1) → ((m' 94 67).toInt ≤ (m' 94 4).toInt) → (v.toInt = 1 → 16 ≤ (m' 94 21).toInt) → P (some (.inl v)) m' := by
    intro v m' hf z q0 q1 q2
    have e := zov_eq hf
    rw [e] at z ⊢
    try rw [e] at q0
    try rw [e] at q1
    try rw [e] at q2
    exact KZ v m' z q0 q1 q2
  refine g_178_0  ?_
  have f1 : 0 ≤ (m 94 67).toInt ∧ (m 94 67).toInt ≤ 100 := rs_94_67 (m := m) hV
  have f2 : 0 ≤ (m 94 4).toInt ∧ (m 94 4).toInt ≤ 100 := rs_94_4 (m := m) hV
  have li3 : (16 : Int32).toInt = 16 := rfl
  have li4 : (1500 : Int32).toInt = 1500 := rfl
  refine sp_177 ((16 : Int32)) ((1500 : Int32)) hV (show (m 94 67).toInt ≤ (m 94 4).toInt from by omega) (fun v2 m1 hV_m1 hb_m1 p0_m1 p1_m1 p2_m1 => zmi_n ?_)
  have p0_m1 : (m1 94 67).toInt ≤ (m 94 4).toInt := p0_m1
  have p1_m1 : (m1 94 68).toInt + (m1 94 69).toInt ≤ 100 := p1_m1
  have p2_m1 : v2.toInt = 1 → (16 : Int32).toInt ≤ (m1 94 71).toInt ∧ (m1 94 71).toInt ≤ (1500 : Int32).toInt := p2_m1
  have f5 : 0 ≤ (m1 94 67).toInt ∧ (m1 94 67).toInt ≤ 100 := rs_94_67 (m := (zov wr_177 m m1)) hV_m1
  have f6 : 0 ≤ (m1 94 68).toInt ∧ (m1 94 68).toInt ≤ 100 := rs_94_68 (m := (zov wr_177 m m1)) hV_m1
  have f7 : 0 ≤ (m1 94 69).toInt ∧ (m1 94 69).toInt ≤ 100 := rs_94_69 (m := (zov wr_177 m m1)) hV_m1
  have b8 := i_bd (m1 94 71)
  have f9 := i_01 hb_m1
  have li10 : (0 : Int32).toInt = 0 := rfl
  refine zd (fun (h11 : v2 = (0 : Int32)) => ?_) (fun (h11 : ¬ v2 = (0 : Int32)) => ?_)
  · skip
    have g12 := i_eq h11
    have f13 : 0 ≤ (m 94 21).toInt ∧ (m 94 21).toInt ≤ 1500 := rs_94_21 (m := m) hV
    exact K ((0 : Int32)) _ (zF_zov zF_rfl ws_177_178) hV_m1 (by decide) (show (m1 94 67).toInt ≤ (m 94 4).toInt from by omega) (show (0 : Int32).toInt = 1 → 16 ≤ (m 94 21).toInt from by omega)
  · skip
    have g14 := i_ne h11
    have hV15 : zV (ma_u (zov wr_177 m m1) 94 21 (m1 94 71)) := us_94_21 hV_m1 (by omega) (by omega)
    have li16 : (1 : Int32).toInt = 1 := rfl
    exact K ((1 : Int32)) _ (zF_u (zF_zov zF_rfl ws_177_178) rfl) hV15 (by decide) (show (m1 94 67).toInt ≤ (m 94 4).toInt from by omega) (show (1 : Int32).toInt = 1 → 16 ≤ (m1 94 71).toInt from by omega)
