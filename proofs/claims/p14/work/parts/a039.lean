/-! from 94.447 -/
/-! the reference (written by wip/tools/gen94m.py) -/
theorem lp_246b_2 {X : Nat × (Nat → Int32)} {P : Option ma_V → (Nat → Nat → Int32) → Prop} {nu : Int32} {m0 : Nat → Nat → Int32} (h0 : zV m0) (K : ∀ v m₉, zF wr_246 m0 m₉ → zV m₉ → (-1 ≤ v.toInt ∧ v.toInt ≤ 3099) → (v.toInt < 0 ∨ (m₉ 99) v.toNatClampNeg ≠ 0) → P (some (.inl v)) m₉) : ∀ (n : Nat) (m : Nat → Nat → Int32) (l1 : Int32) (l2 : Int32), (3100 - l2.toInt).toNat = n → zF wr_246 m0 m → zV m → (0 ≤ l2.toInt) → zm X 0 0 246 2 [(0, .inr (.inr (some 94))), (1, .inl l1), (2, .inl l2)] m P := by
  intro n
  induction n using Nat.strongRecOn with
  | _ n IH =>
    intro m l1 l2 hmu hF hV hi0
    refine g_246_2 l1 l2 ?_
    have li1 : (3100 : Int32).toInt = 3100 := rfl
    have b2 := i_bd l2
    refine zd (fun (h3 : (3100 : Int32) ≤ l2) => ?_) (fun (h3 : ¬ (3100 : Int32) ≤ l2) => ?_)
    · skip
      have g4 := i_le h3
      have li5 : (-1 : Int32).toInt = -1 := rfl
      exact K ((-1 : Int32)) _ hF hV (show -1 ≤ (-1 : Int32).toInt ∧ (-1 : Int32).toInt ≤ 3099 from by omega) (show (-1 : Int32).toInt < 0 ∨ (m 99) (-1 : Int32).toNatClampNeg ≠ 0 from by first | (exact Or.inl (by decide)) | (exact Or.inr (by assumption)) | (exact Or.inl (by omega)) | (exfalso; omega; done) | (exfalso; contradiction; done))
    · skip
      have g6 := i_nle h3
      have hg7 : (0 ≤ l2 ∧ l2.toNatClampNeg < 3100) := i_ix (by omega) (by omega)
      refine ⟨hg7, ?_⟩
      first | have f8 : 0 ≤ (m 99 l2.toNatClampNeg).toInt ∧ (m 99 l2.toNatClampNeg).toInt ≤ 1 := ra_99 (m := m) hV (k := l2.toNatClampNeg) (i_ix (n := 3100) (by omega) (by omega)).2 | have b9 := i_bd (m 99 l2.toNatClampNeg)
      have li10 : (0 : Int32).toInt = 0 := rfl
      refine zd (fun (h11 : (m 99 l2.toNatClampNeg) = (0 : Int32)) => ?_) (fun (h11 : ¬ (m 99 l2.toNatClampNeg) = (0 : Int32)) => ?_)
      · skip
        have g12 := i_eq h11
        have b13 := i_bd l1
        first | have e14 : (l2 + (1 : Int32)).toInt = l2.toInt + (1) := i_addk rfl (by omega) (by omega) | have b15 := i_bd (l2 + (1 : Int32))
        exact IH (3100 - (l2 + (1 : Int32)).toInt).toNat (by omega) _ (l1) ((l2 + (1 : Int32))) rfl hF hV (by omega)
      · skip
        have g16 := i_ne h11
        have hg17 : (0 ≤ l2 ∧ l2.toNatClampNeg < 3100) := i_ix (by omega) (by omega)
        refine ⟨hg17, ?_⟩
        first | have f18 : 0 ≤ (m 100 l2.toNatClampNeg).toInt ∧ (m 100 l2.toNatClampNeg).toInt ≤ 100000 := ra_100 (m := m) hV (k := l2.toNatClampNeg) (i_ix (n := 3100) (by omega) (by omega)).2 | have b19 := i_bd (m 100 l2.toNatClampNeg)
        have b20 := i_bd l1
        refine zd (fun (h21 : (m 100 l2.toNatClampNeg) = l1) => ?_) (fun (h21 : ¬ (m 100 l2.toNatClampNeg) = l1) => ?_)
        · skip
          have g22 := i_eq h21
          exact K (l2) _ hF hV (show -1 ≤ l2.toInt ∧ l2.toInt ≤ 3099 from by omega) (show l2.toInt < 0 ∨ (m 99) l2.toNatClampNeg ≠ 0 from by first | (exact Or.inl (by decide)) | (exact Or.inr (by assumption)) | (exact Or.inl (by omega)) | (exfalso; omega; done) | (exfalso; contradiction; done))
        · skip
          have g23 := i_ne h21
          first | have e24 : (l2 + (1 : Int32)).toInt = l2.toInt + (1) := i_addk rfl (by omega) (by omega) | have b25 := i_bd (l2 + (1 : Int32))
          exact IH (3100 - (l2 + (1 : Int32)).toInt).toNat (by omega) _ (l1) ((l2 + (1 : Int32))) rfl hF hV (by omega)
theorem sp_246b {X : Nat × (Nat → Int32)} {P : Option ma_V → (Nat → Nat → Int32) → Prop} {m : Nat → Nat → Int32} (nu : Int32) (hV : zV m)  (KZ : ∀ v m₉, zV (zov wr_246 m m₉) → (-1 ≤ v.toInt ∧ v.toInt ≤ 3099) → (v.toInt < 0 ∨ (m 99) v.toNatClampNeg ≠ 0) → P (some (.inl v)) (zov wr_246 m m₉)) : zm X 0 0 246 0 [(0, .inr (.inr (some 94))), (1, .inl nu)] m P := by
  have K : ∀ v m₉, zF wr_246 m m₉ → zV m₉ → (-1 ≤ v.toInt ∧ v.toInt ≤ 3099) → (v.toInt < 0 ∨ (m₉ 99) v.toNatClampNeg ≠ 0) → P (some (.inl v)) m₉ := by
    intro v m₉ hf z q0 q1
    have e := zov_eq hf
    rw [e] at z ⊢
    try rw [e] at q0
    try rw [e] at q1
    exact KZ v m₉ z q0 q1
  refine g_246_0 nu ?_
  have b1 := i_bd nu
  have li2 : (0 : Int32).toInt = 0 := rfl
  exact lp_246b_2 (nu := nu) hV K _ _ (nu) ((0 : Int32)) rfl zF_rfl hV (by omega)
set_option maxRecDepth 100000 in
theorem hm_245 : ma_md 245 = some (12, yX12_reached, cX12_reached, 3, (some (FieldType.int))) := rfl
theorem v_12_307_12 : ma_vl 12 307 12 = some (1, 246, 1) := by decide +kernel
theorem dX12_reached_0 : decode cX12_reached 0 = .ok (.aload_n 0, 1) := by decide +kernel
theorem dX12_reached_1 : decode cX12_reached 1 = .ok (.iload_n 1, 1) := by decide +kernel
theorem dX12_reached_2 : decode cX12_reached 2 = .ok (.invokevirtual 307, 3) := by decide +kernel
theorem dX12_reached_5 : decode cX12_reached 5 = .ok (.istore_n 2, 1) := by decide +kernel
theorem dX12_reached_6 : decode cX12_reached 6 = .ok (.iload_n 2, 1) := by decide +kernel
theorem dX12_reached_12 : decode cX12_reached 12 = .ok (.aload_n 0, 1) := by decide +kernel
theorem dX12_reached_13 : decode cX12_reached 13 = .ok (.invokevirtual 311, 3) := by decide +kernel
theorem dX12_reached_16 : decode cX12_reached 16 = .ok (.aload_n 0, 1) := by decide +kernel
theorem dX12_reached_20 : decode cX12_reached 20 = .ok (.iload_n 2, 1) := by decide +kernel
theorem dX12_reached_29 : decode cX12_reached 29 = .ok (.iconst (-1), 1) := by decide +kernel
theorem dX12_reached_30 : decode cX12_reached 30 = .ok (.ireturn, 1) := by decide +kernel
theorem dX12_reached_25 : decode cX12_reached 25 = .ok (.iload_n 2, 1) := by decide +kernel
theorem dX12_reached_26 : decode cX12_reached 26 = .ok (.goto 4, 3) := by decide +kernel
theorem dX12_reached_22 : decode cX12_reached 22 = .ok (.ifCond .eq 7, 3) := by decide +kernel
theorem dX12_reached_21 : decode cX12_reached 21 = .ok (.baload, 1) := by decide +kernel
theorem dX12_reached_17 : decode cX12_reached 17 = .ok (.getfield 62, 3) := by decide +kernel
theorem dX12_reached_10 : decode cX12_reached 10 = .ok (.iconst (-1), 1) := by decide +kernel
theorem dX12_reached_11 : decode cX12_reached 11 = .ok (.ireturn, 1) := by decide +kernel
theorem dX12_reached_7 : decode cX12_reached 7 = .ok (.ifCond .ge 5, 3) := by decide +kernel
def wr_245 (c k : Nat) : Bool := Nat.beq c 110 || Nat.beq c 118 || (Nat.beq c 94 && (Nat.beq k 73))
theorem ws_188_245 : ∀ c k, wr_188 c k = true → wr_245 c k = true := by
  intro c k h
  simp only [wr_188, wr_245, Bool.or_eq_true, Bool.and_eq_true, Nat.beq_eq] at h ⊢
  omega
theorem ws_246_245 : ∀ c k, wr_246 c k = true → wr_245 c k = true := fun _ _ h => by cases h
theorem g_245_0 {X : Nat × (Nat → Int32)} {m : Nat → Nat → Int32} {P : Option ma_V → (Nat → Nat → Int32) → Prop} (ob : Int32) (h : zm X 0 0 246 0 [(0, .inr (.inr (some 94))), (1, .inl ob)] m (zmi (fun v2 m1 => if 0 ≤ v2 then (zm X 3 66 188 0 [(0, .inr (.inr (some 94)))] m1 (zmv (fun m3 => (0 ≤ v2 ∧ v2.toNatClampNeg < 3100) ∧ (if (m3 110 v2.toNatClampNeg) = 0 then (P (some (.inl (-1 : Int32))) m3) else (P (some (.inl v2)) m3))))) else (P (some (.inl (-1 : Int32))) m1)))) : zm X 4 87 245 0 [(0, .inr (.inr (some 94))), (1, .inl ob)] m P := by
  intro d w S Q hd hw hS hm HQ
  subst hm
  refine zw_push hm_245 dX12_reached_0 (v := .inr (.inr (some 94))) rfl ?_
  refine zw_push hm_245 dX12_reached_1 (v := .inl ob) rfl ?_
  refine zw_cv hm_245 dX12_reached_2 v_12_307_12 hm_246 [.inl ob] [] rfl (zT_rt hS s_94 rfl) ⟨by omega, by omega⟩ rfl (h _ _ S _ (by omega) (by omega) hS rfl (fun o9 m1 hv => ?_))
  obtain ⟨v2, rfl, h⟩ := zmi_of hv
  show ma_wp X d w 245 5 [(0, .inr (.inr (some 94))), (1, .inl ob)] [.inl v2] (zst S m1) _
  refine zw_sto hm_245 dX12_reached_5 [(2, .inl v2), (0, .inr (.inr (some 94))), (1, .inl ob)] rfl rfl rfl ?_
  refine zw_push hm_245 dX12_reached_6 (v := .inl v2) rfl ?_
  refine zw_if0 hm_245 dX12_reached_7 (t := 12) rfl zc0_ge ?_ ?_
  · intro hc
    rw [if_pos hc] at h
    refine zw_push hm_245 dX12_reached_12 (v := .inr (.inr (some 94))) rfl ?_
    refine zw_cv hm_245 dX12_reached_13 v_12_311_12 hm_188 [] [] rfl (zT_rt (zT_zst hS m1) s_94 rfl) ⟨by omega, by omega⟩ rfl (h _ _ (zst S m1) _ (by omega) (by omega) (zT_zst hS m1) rfl (fun o9 m3 hv => ?_))
    obtain ⟨rfl, h⟩ := zmv_of hv
    show ma_wp X d w 245 16 [(2, .inl v2), (0, .inr (.inr (some 94))), (1, .inl ob)] [] (zst S m3) _
    refine zw_push hm_245 dX12_reached_16 (v := .inr (.inr (some 94))) rfl ?_
    refine zw_gf hm_245 dX12_reached_17 (v := .inr (.inr (some 110))) (zT_is (zT_zst hS m3) s_94) (zT_t (zT_zst hS m3) s_94) rfl f_12_62_12 (zT_f (zT_zst hS m3) r_94_42) ?_
    refine zw_push hm_245 dX12_reached_20 (v := .inl v2) rfl ?_
    obtain ⟨hg, h⟩ := h
    refine zw_ba hm_245 dX12_reached_21 (zT_is (zT_zst hS m3) s_110) (zT_h (zT_zst hS m3) s_110) rfl rfl hg ?_
    show ma_wp X d w 245 22 [(2, .inl v2), (0, .inr (.inr (some 94))), (1, .inl ob)] [.inl (m3 110 v2.toNatClampNeg)] (zst S m3) _
    refine zw_if0 hm_245 dX12_reached_22 (t := 29) rfl zc0_eq ?_ ?_
    · intro hc
      rw [if_pos hc] at h
      refine zw_push hm_245 dX12_reached_29 (v := .inl (-1 : Int32)) rfl ?_
      exact zw_iret hm_245 dX12_reached_30 (HQ _ _ h)
    · intro hc
      rw [if_neg hc] at h
      refine zw_push hm_245 dX12_reached_25 (v := .inl v2) rfl ?_
      refine zw_goto hm_245 dX12_reached_26 (t := 30) rfl ?_
      exact zw_iret hm_245 dX12_reached_30 (HQ _ _ h)
  · intro hc
    rw [if_neg hc] at h
    refine zw_push hm_245 dX12_reached_10 (v := .inl (-1 : Int32)) rfl ?_
    exact zw_iret hm_245 dX12_reached_11 (HQ _ _ h)
theorem sp_245 {X : Nat × (Nat → Int32)} {P : Option ma_V → (Nat → Nat → Int32) → Prop} {m : Nat → Nat → Int32} (ob : Int32) (hV : zV m) (r_W : zW (m 94 7) (m 98) (m 101) (m 102) (m 108)) (r_DX : zDX (m 94 10) (m 99) (m 112) (m 113) (m 114) (m 94 55) (m 98) (m 101) (m 102) (m 108)) (KZ : ∀ v m₉, zV (zov wr_245 m m₉) → (-1 ≤ v.toInt ∧ v.toInt ≤ 3099) → (v.toInt < 0 ∨ (m 99) v.toNatClampNeg ≠ 0) → P (some (.inl v)) (zov wr_245 m m₉)) : zm X 4 87 245 0 [(0, .inr (.inr (some 94))), (1, .inl ob)] m P := by
  have K : ∀ v m₉, zF wr_245 m m₉ → zV m₉ → (-1 ≤ v.toInt ∧ v.toInt ≤ 3099) → (v.toInt < 0 ∨ (m₉ 99) v.toNatClampNeg ≠ 0) → P (some (.inl v)) m₉ := by
    intro v m₉ hf z q0 q1
    have e := zov_eq hf
    rw [e] at z ⊢
    try rw [e] at q0
    try rw [e] at q1
    exact KZ v m₉ z q0 q1
  refine g_245_0 ob ?_
  have b1 := i_bd ob
  refine sp_246b (ob) hV  (fun v2 m1 hV_m1 p0_m1 p1_m1 => zmi_n ?_)
  have p0_m1 : -1 ≤ v2.toInt ∧ v2.toInt ≤ 3099 := p0_m1
  have p1_m1 : v2.toInt < 0 ∨ (m 99) v2.toNatClampNeg ≠ 0 := p1_m1
  have li2 : (0 : Int32).toInt = 0 := rfl
  have b3 := i_bd v2
  refine zd (fun (h4 : (0 : Int32) ≤ v2) => ?_) (fun (h4 : ¬ (0 : Int32) ≤ v2) => ?_)
  · skip
    have g5 := i_le h4
    refine sp_188  hV_m1 r_W r_DX (fun m3 hV_m3 p0_m3 p1_m3 p2_m3 p3_m3 p4_m3 => zmv_n ?_)
    have p0_m3 : (m3 94 73).toInt = 0 := p0_m3
    have p1_m3 : ((m 94 10).toInt = 2 ∨ (m 94 10).toInt = 3) → zCL (m3 110) (m 98) (m 101) (m 102) (m 108) (m3 118) (m3 94 73) 3100 0 := p1_m3
    have p2_m3 : zKU (m 94 10) (m 99) (m3 110) := p2_m3
    have p3_m3 : ((m 94 10).toInt = 2 ∨ (m 94 10).toInt = 3) → zcov (m3 110) (m 112) 16 := p3_m3
    have p4_m3 : ((m 94 10).toInt = 2 ∨ (m 94 10).toInt = 3) → zcov (m3 110) (m 114) (m 94 55).toInt := p4_m3
    have f6 : 0 ≤ (m3 94 73).toInt ∧ (m3 94 73).toInt ≤ 3100 := rs_94_73 (m := (zov wr_188 (zov wr_246 m m1) m3)) hV_m3
    have hg7 : (0 ≤ v2 ∧ v2.toNatClampNeg < 3100) := i_ix (by omega) (by omega)
    refine ⟨hg7, ?_⟩
    first | have f8 : 0 ≤ (m3 110 v2.toNatClampNeg).toInt ∧ (m3 110 v2.toNatClampNeg).toInt ≤ 1 := ra_110 (m := (zov wr_188 (zov wr_246 m m1) m3)) hV_m3 (k := v2.toNatClampNeg) (i_ix (n := 3100) (by omega) (by omega)).2 | have b9 := i_bd (m3 110 v2.toNatClampNeg)
    refine zd (fun (h10 : (m3 110 v2.toNatClampNeg) = (0 : Int32)) => ?_) (fun (h10 : ¬ (m3 110 v2.toNatClampNeg) = (0 : Int32)) => ?_)
    · skip
      have g11 := i_eq h10
      have li12 : (-1 : Int32).toInt = -1 := rfl
      exact K ((-1 : Int32)) _ (zF_zov (zF_zov zF_rfl ws_246_245) ws_188_245) hV_m3 (show -1 ≤ (-1 : Int32).toInt ∧ (-1 : Int32).toInt ≤ 3099 from by omega) (show (-1 : Int32).toInt < 0 ∨ (m 99) (-1 : Int32).toNatClampNeg ≠ 0 from by first | (exact Or.inl (by decide)) | (exact Or.inr (by assumption)) | (exact p1_m1) | (exact Or.inl (by omega)) | (exfalso; omega; done) | (exfalso; contradiction; done))
    · skip
      have g13 := i_ne h10
      exact K (v2) _ (zF_zov (zF_zov zF_rfl ws_246_245) ws_188_245) hV_m3 (show -1 ≤ v2.toInt ∧ v2.toInt ≤ 3099 from by omega) p1_m1
  · skip
    have g14 := i_nle h4
    have li15 : (-1 : Int32).toInt = -1 := rfl
    exact K ((-1 : Int32)) _ (zF_zov zF_rfl ws_246_245) hV_m1 (show -1 ≤ (-1 : Int32).toInt ∧ (-1 : Int32).toInt ≤ 3099 from by omega) (show (-1 : Int32).toInt < 0 ∨ (m 99) (-1 : Int32).toNatClampNeg ≠ 0 from by first | (exact Or.inl (by decide)) | (exact Or.inr (by assumption)) | (exact p1_m1) | (exact Or.inl (by omega)) | (exfalso; omega; done) | (exfalso; contradiction; done))

