/-! the reference (written by wip/tools/gen94m.py) -/
set_option maxRecDepth 100000 in
theorem hm_164 : ma_md 164 = some (12, yX12_thrown, cX12_thrown, 1, (some (FieldType.int))) := rfl
theorem f_12_1_12 : ma_fld 12 1 12 = some 0 := by decide +kernel
theorem dX12_thrown_0 : decode cX12_thrown 0 = .ok (.aload_n 0, 1) := by decide +kernel
theorem dX12_thrown_4 : decode cX12_thrown 4 = .ok (.ireturn, 1) := by decide +kernel
theorem dX12_thrown_1 : decode cX12_thrown 1 = .ok (.getfield 1, 3) := by decide +kernel
def wr_164 (_ _ : Nat) : Bool := false
theorem g_164_0 {X : Nat × (Nat → Int32)} {m : Nat → Nat → Int32} {P : Option ma_V → (Nat → Nat → Int32) → Prop}  (h : P (some (.inl (m 94 0))) m) : zm X 0 0 164 0 [(0, .inr (.inr (some 94)))] m P := by
  intro d w S Q hd hw hS hm HQ
  subst hm
  refine zw_push hm_164 dX12_thrown_0 (v := .inr (.inr (some 94))) rfl ?_
  refine zw_gf hm_164 dX12_thrown_1 (v := .inl ((mI S) 94 0)) (zT_is hS s_94) (zT_t hS s_94) rfl f_12_1_12 rfl ?_
  exact zw_iret hm_164 dX12_thrown_4 (HQ _ _ h)
theorem sp_164 {X : Nat × (Nat → Int32)} {P : Option ma_V → (Nat → Nat → Int32) → Prop} {m : Nat → Nat → Int32}  (hV : zV m)  (KZ : ∀ v m', zV (zov wr_164 m m') → (v.toInt = (m 94 0).toInt) → P (some (.inl v)) (zov wr_164 m m')) : zm X 0 0 164 0 [(0, .inr (.inr (some 94)))] m P := by
  have K : ∀ v m', zF wr_164 m m' → zV m' → (v.toInt = (m' 94 0).toInt) → P (some (.inl v)) m' := by
    intro v m' hf z q0
    have e := zov_eq hf
    rw [e] at z ⊢
    try rw [e] at q0
    exact KZ v m' z q0
  refine g_164_0  ?_
  have b1 := i_bd (m 94 0)
  exact K ((m 94 0)) _ zF_rfl hV (show (m 94 0).toInt = (m 94 0).toInt from by omega)
