/-! from 94.452 -/
/-! the reference (written by wip/tools/gen94m.py) -/
set_option maxRecDepth 100000 in
theorem hm_261 : ma_md 261 = some (12, yX12_dirtyCards, cX12_dirtyCards, 3, (some (FieldType.int))) := rfl
theorem s_117 : zs 117 = some (22, 512) := rfl
theorem r_94_66 : zfi 94 66 = some 117 := rfl
theorem f_12_83_12 : ma_fld 12 83 12 = some 66 := by decide +kernel
theorem dX12_dirtyCards_0 : decode cX12_dirtyCards 0 = .ok (.iconst 0, 1) := by decide +kernel
theorem dX12_dirtyCards_1 : decode cX12_dirtyCards 1 = .ok (.istore_n 1, 1) := by decide +kernel
theorem dX12_dirtyCards_2 : decode cX12_dirtyCards 2 = .ok (.iconst 0, 1) := by decide +kernel
theorem dX12_dirtyCards_3 : decode cX12_dirtyCards 3 = .ok (.istore_n 2, 1) := by decide +kernel
theorem dX12_dirtyCards_4 : decode cX12_dirtyCards 4 = .ok (.iload_n 2, 1) := by decide +kernel
theorem dX12_dirtyCards_5 : decode cX12_dirtyCards 5 = .ok (.aload_n 0, 1) := by decide +kernel
theorem dX12_dirtyCards_9 : decode cX12_dirtyCards 9 = .ok (.arraylength, 1) := by decide +kernel
theorem dX12_dirtyCards_31 : decode cX12_dirtyCards 31 = .ok (.iload_n 1, 1) := by decide +kernel
theorem dX12_dirtyCards_32 : decode cX12_dirtyCards 32 = .ok (.ireturn, 1) := by decide +kernel
theorem dX12_dirtyCards_13 : decode cX12_dirtyCards 13 = .ok (.aload_n 0, 1) := by decide +kernel
theorem dX12_dirtyCards_17 : decode cX12_dirtyCards 17 = .ok (.iload_n 2, 1) := by decide +kernel
theorem dX12_dirtyCards_25 : decode cX12_dirtyCards 25 = .ok (.iinc 2 1, 3) := by decide +kernel
theorem dX12_dirtyCards_28 : decode cX12_dirtyCards 28 = .ok (.goto (-24), 3) := by decide +kernel
theorem dX12_dirtyCards_22 : decode cX12_dirtyCards 22 = .ok (.iinc 1 1, 3) := by decide +kernel
theorem dX12_dirtyCards_19 : decode cX12_dirtyCards 19 = .ok (.ifCond .eq 6, 3) := by decide +kernel
theorem dX12_dirtyCards_18 : decode cX12_dirtyCards 18 = .ok (.baload, 1) := by decide +kernel
theorem dX12_dirtyCards_14 : decode cX12_dirtyCards 14 = .ok (.getfield 83, 3) := by decide +kernel
theorem dX12_dirtyCards_10 : decode cX12_dirtyCards 10 = .ok (.if_icmp .ge 21, 3) := by decide +kernel
theorem dX12_dirtyCards_6 : decode cX12_dirtyCards 6 = .ok (.getfield 83, 3) := by decide +kernel
def wr_261 (_ _ : Nat) : Bool := false
theorem g_261_0 {X : Nat × (Nat → Int32)} {m : Nat → Nat → Int32} {P : Option ma_V → (Nat → Nat → Int32) → Prop}  (h : zm X 0 0 261 4 [(0, .inr (.inr (some 94))), (1, .inl (0 : Int32)), (2, .inl (0 : Int32))] m P) : zm X 0 0 261 0 [(0, .inr (.inr (some 94)))] m P := by
  intro d w S Q hd hw hS hm HQ
  subst hm
  refine zw_push hm_261 dX12_dirtyCards_0 (v := .inl (0 : Int32)) rfl ?_
  refine zw_sto hm_261 dX12_dirtyCards_1 [(1, .inl (0 : Int32)), (0, .inr (.inr (some 94)))] rfl rfl rfl ?_
  refine zw_push hm_261 dX12_dirtyCards_2 (v := .inl (0 : Int32)) rfl ?_
  refine zw_sto hm_261 dX12_dirtyCards_3 [(2, .inl (0 : Int32)), (1, .inl (0 : Int32)), (0, .inr (.inr (some 94)))] rfl rfl rfl ?_
  exact zw_sub (ma_nd_of (ks := [0, 1, 2]) rfl (by decide)) (ma_nd_of (ks := [2, 1, 0]) rfl (by decide)) (ma_le_cons rfl (ma_le_cons rfl (ma_le_cons rfl (ma_le_nil _)))) (h d w _ Q (by omega) (by omega) hS rfl HQ)
theorem g_261_4 {X : Nat × (Nat → Int32)} {m : Nat → Nat → Int32} {P : Option ma_V → (Nat → Nat → Int32) → Prop} (l1 : Int32) (l2 : Int32) (h : if (512 : Int32) ≤ l2 then (P (some (.inl l1)) m) else ((0 ≤ l2 ∧ l2.toNatClampNeg < 512) ∧ (if (m 117 l2.toNatClampNeg) = 0 then (zm X 0 0 261 4 [(0, .inr (.inr (some 94))), (1, .inl l1), (2, .inl (l2 + (1 : Int32)))] m P) else (zm X 0 0 261 4 [(0, .inr (.inr (some 94))), (1, .inl (l1 + (1 : Int32))), (2, .inl (l2 + (1 : Int32)))] m P)))) : zm X 0 0 261 4 [(0, .inr (.inr (some 94))), (1, .inl l1), (2, .inl l2)] m P := by
  intro d w S Q hd hw hS hm HQ
  subst hm
  refine zw_push hm_261 dX12_dirtyCards_4 (v := .inl l2) rfl ?_
  refine zw_push hm_261 dX12_dirtyCards_5 (v := .inr (.inr (some 94))) rfl ?_
  refine zw_gf hm_261 dX12_dirtyCards_6 (v := .inr (.inr (some 117))) (zT_is hS s_94) (zT_t hS s_94) rfl f_12_83_12 (zT_f hS r_94_66) ?_
  refine zw_len hm_261 dX12_dirtyCards_9 (v := (512 : Int32)) (zT_is hS s_117) (zT_h hS s_117) rfl rfl ?_
  refine zw_if2 hm_261 dX12_dirtyCards_10 (t := 31) rfl zc2_ge ?_ ?_
  · intro hc
    rw [if_pos hc] at h
    refine zw_push hm_261 dX12_dirtyCards_31 (v := .inl l1) rfl ?_
    exact zw_iret hm_261 dX12_dirtyCards_32 (HQ _ _ h)
  · intro hc
    rw [if_neg hc] at h
    refine zw_push hm_261 dX12_dirtyCards_13 (v := .inr (.inr (some 94))) rfl ?_
    refine zw_gf hm_261 dX12_dirtyCards_14 (v := .inr (.inr (some 117))) (zT_is hS s_94) (zT_t hS s_94) rfl f_12_83_12 (zT_f hS r_94_66) ?_
    refine zw_push hm_261 dX12_dirtyCards_17 (v := .inl l2) rfl ?_
    obtain ⟨hg, h⟩ := h
    refine zw_ba hm_261 dX12_dirtyCards_18 (zT_is hS s_117) (zT_h hS s_117) rfl rfl hg ?_
    show ma_wp X d w 261 19 [(0, .inr (.inr (some 94))), (1, .inl l1), (2, .inl l2)] [.inl ((mI S) 117 l2.toNatClampNeg)] S _
    refine zw_if0 hm_261 dX12_dirtyCards_19 (t := 25) rfl zc0_eq ?_ ?_
    · intro hc
      rw [if_pos hc] at h
      refine zw_sto hm_261 dX12_dirtyCards_25 [(2, .inl (l2 + (1 : Int32))), (0, .inr (.inr (some 94))), (1, .inl l1)] rfl rfl rfl ?_
      refine zw_goto hm_261 dX12_dirtyCards_28 (t := 4) rfl ?_
      exact zw_sub (ma_nd_of (ks := [0, 1, 2]) rfl (by decide)) (ma_nd_of (ks := [2, 0, 1]) rfl (by decide)) (ma_le_cons rfl (ma_le_cons rfl (ma_le_cons rfl (ma_le_nil _)))) (h d w _ Q (by omega) (by omega) hS rfl HQ)
    · intro hc
      rw [if_neg hc] at h
      refine zw_sto hm_261 dX12_dirtyCards_22 [(1, .inl (l1 + (1 : Int32))), (0, .inr (.inr (some 94))), (2, .inl l2)] rfl rfl rfl ?_
      refine zw_sto hm_261 dX12_dirtyCards_25 [(2, .inl (l2 + (1 : Int32))), (1, .inl (l1 + (1 : Int32))), (0, .inr (.inr (some 94)))] rfl rfl rfl ?_
      refine zw_goto hm_261 dX12_dirtyCards_28 (t := 4) rfl ?_
      exact zw_sub (ma_nd_of (ks := [0, 1, 2]) rfl (by decide)) (ma_nd_of (ks := [2, 1, 0]) rfl (by decide)) (ma_le_cons rfl (ma_le_cons rfl (ma_le_cons rfl (ma_le_nil _)))) (h d w _ Q (by omega) (by omega) hS rfl HQ)
theorem lp_261_4 {X : Nat × (Nat → Int32)} {P : Option ma_V → (Nat → Nat → Int32) → Prop} {m0 : Nat → Nat → Int32} (h0 : zV m0) (K : ∀ v m₉, zF wr_261 m0 m₉ → zV m₉ → P (some (.inl v)) m₉) : ∀ (n : Nat) (m : Nat → Nat → Int32) (l1 : Int32) (l2 : Int32), (512 - l2.toInt).toNat = n → zF wr_261 m0 m → zV m → (0 ≤ l2.toInt) → zm X 0 0 261 4 [(0, .inr (.inr (some 94))), (1, .inl l1), (2, .inl l2)] m P := by
  intro n
  induction n using Nat.strongRecOn with
  | _ n IH =>
    intro m l1 l2 hmu hF hV hi0
    refine g_261_4 l1 l2 ?_
    have li1 : (512 : Int32).toInt = 512 := rfl
    have b2 := i_bd l2
    refine zd (fun (h3 : (512 : Int32) ≤ l2) => ?_) (fun (h3 : ¬ (512 : Int32) ≤ l2) => ?_)
    · skip
      have g4 := i_le h3
      have b5 := i_bd l1
      exact K (l1) _ hF hV 
    · skip
      have g6 := i_nle h3
      have hg7 : (0 ≤ l2 ∧ l2.toNatClampNeg < 512) := i_ix (by omega) (by omega)
      refine ⟨hg7, ?_⟩
      first | have f8 : 0 ≤ (m 117 l2.toNatClampNeg).toInt ∧ (m 117 l2.toNatClampNeg).toInt ≤ 1 := ra_117 (m := m) hV (k := l2.toNatClampNeg) (i_ix (n := 512) (by omega) (by omega)).2 | have b9 := i_bd (m 117 l2.toNatClampNeg)
      have li10 : (0 : Int32).toInt = 0 := rfl
      refine zd (fun (h11 : (m 117 l2.toNatClampNeg) = (0 : Int32)) => ?_) (fun (h11 : ¬ (m 117 l2.toNatClampNeg) = (0 : Int32)) => ?_)
      · skip
        have g12 := i_eq h11
        have b13 := i_bd l1
        first | have e14 : (l2 + (1 : Int32)).toInt = l2.toInt + (1) := i_addk rfl (by omega) (by omega) | have b15 := i_bd (l2 + (1 : Int32))
        exact IH (512 - (l2 + (1 : Int32)).toInt).toNat (by omega) _ (l1) ((l2 + (1 : Int32))) rfl hF hV (by omega)
      · skip
        have g16 := i_ne h11
        have b17 := i_bd l1
        first | have e18 : (l1 + (1 : Int32)).toInt = l1.toInt + (1) := i_addk rfl (by omega) (by omega) | have b19 := i_bd (l1 + (1 : Int32))
        first | have e20 : (l2 + (1 : Int32)).toInt = l2.toInt + (1) := i_addk rfl (by omega) (by omega) | have b21 := i_bd (l2 + (1 : Int32))
        exact IH (512 - (l2 + (1 : Int32)).toInt).toNat (by omega) _ ((l1 + (1 : Int32))) ((l2 + (1 : Int32))) rfl hF hV (by omega)
theorem sp_261 {X : Nat × (Nat → Int32)} {P : Option ma_V → (Nat → Nat → Int32) → Prop} {m : Nat → Nat → Int32}  (hV : zV m)  (KZ : ∀ v m₉, zV (zov wr_261 m m₉) → P (some (.inl v)) (zov wr_261 m m₉)) : zm X 0 0 261 0 [(0, .inr (.inr (some 94)))] m P := by
  have K : ∀ v m₉, zF wr_261 m m₉ → zV m₉ → P (some (.inl v)) m₉ := by
    intro v m₉ hf z 
    have e := zov_eq hf
    rw [e] at z ⊢
    exact KZ v m₉ z 
  refine g_261_0  ?_
  have li1 : (0 : Int32).toInt = 0 := rfl
  exact lp_261_4 hV K _ _ ((0 : Int32)) ((0 : Int32)) rfl zF_rfl hV (by omega)

/-! from 94.453 -/
/-! the reference (written by wip/tools/gen94m.py) -/
set_option maxRecDepth 100000 in
theorem hm_258 : ma_md 258 = some (12, yX12_about, cX12_about, 4, (some (FieldType.int))) := rfl
theorem s_104 : zs 104 = some (20, 3100) := rfl
theorem r_94_36 : zfi 94 36 = some 104 := rfl
theorem f_12_43_12 : ma_fld 12 43 12 = some 36 := by decide +kernel
theorem dX12_about_0 : decode cX12_about 0 = .ok (.aload_n 0, 1) := by decide +kernel
theorem dX12_about_1 : decode cX12_about 1 = .ok (.iload_n 2, 1) := by decide +kernel
theorem dX12_about_11 : decode cX12_about 11 = .ok (.iconst 1, 1) := by decide +kernel
theorem dX12_about_12 : decode cX12_about 12 = .ok (.goto 15, 3) := by decide +kernel
theorem dX12_about_27 : decode cX12_about 27 = .ok (.invokevirtual 110, 3) := by decide +kernel
theorem dX12_about_30 : decode cX12_about 30 = .ok (.ifCond .eq 5, 3) := by decide +kernel
theorem dX12_about_33 : decode cX12_about 33 = .ok (.iconst 0, 1) := by decide +kernel
theorem dX12_about_34 : decode cX12_about 34 = .ok (.ireturn, 1) := by decide +kernel
theorem dX12_about_5 : decode cX12_about 5 = .ok (.iload_n 2, 1) := by decide +kernel
theorem dX12_about_6 : decode cX12_about 6 = .ok (.bipush 7, 2) := by decide +kernel
theorem dX12_about_15 : decode cX12_about 15 = .ok (.aload_n 0, 1) := by decide +kernel
theorem dX12_about_26 : decode cX12_about 26 = .ok (.iconst 0, 1) := by decide +kernel
theorem dX12_about_35 : decode cX12_about 35 = .ok (.aload_n 0, 1) := by decide +kernel
theorem dX12_about_36 : decode cX12_about 36 = .ok (.iload_n 1, 1) := by decide +kernel
theorem dX12_about_37 : decode cX12_about 37 = .ok (.invokevirtual 499, 3) := by decide +kernel
theorem dX12_about_40 : decode cX12_about 40 = .ok (.istore_n 3, 1) := by decide +kernel
theorem dX12_about_41 : decode cX12_about 41 = .ok (.aload_n 0, 1) := by decide +kernel
theorem dX12_about_42 : decode cX12_about 42 = .ok (.iload_n 3, 1) := by decide +kernel
theorem dX12_about_50 : decode cX12_about 50 = .ok (.iconst 0, 1) := by decide +kernel
theorem dX12_about_51 : decode cX12_about 51 = .ok (.invokevirtual 110, 3) := by decide +kernel
theorem dX12_about_54 : decode cX12_about 54 = .ok (.ifCond .eq 5, 3) := by decide +kernel
theorem dX12_about_59 : decode cX12_about 59 = .ok (.iload_n 2, 1) := by decide +kernel
theorem dX12_about_104 : decode cX12_about 104 = .ok (.aload_n 0, 1) := by decide +kernel
theorem dX12_about_108 : decode cX12_about 108 = .ok (.iload_n 3, 1) := by decide +kernel
theorem dX12_about_110 : decode cX12_about 110 = .ok (.ireturn, 1) := by decide +kernel
theorem dX12_about_109 : decode cX12_about 109 = .ok (.iaload, 1) := by decide +kernel
theorem dX12_about_105 : decode cX12_about 105 = .ok (.getfield 40, 3) := by decide +kernel
theorem dX12_about_60 : decode cX12_about 60 = .ok (.tableswitch 127 0 6 #[44, 51, 57, 64, 83, 102, 120], 44) := by decide +kernel
theorem dX12_about_111 : decode cX12_about 111 = .ok (.aload_n 0, 1) := by decide +kernel
theorem dX12_about_112 : decode cX12_about 112 = .ok (.iload_n 3, 1) := by decide +kernel
theorem dX12_about_113 : decode cX12_about 113 = .ok (.invokevirtual 327, 3) := by decide +kernel
theorem dX12_about_116 : decode cX12_about 116 = .ok (.ireturn, 1) := by decide +kernel
theorem dX12_about_117 : decode cX12_about 117 = .ok (.aload_n 0, 1) := by decide +kernel
theorem dX12_about_121 : decode cX12_about 121 = .ok (.iload_n 3, 1) := by decide +kernel
theorem dX12_about_123 : decode cX12_about 123 = .ok (.ireturn, 1) := by decide +kernel
theorem dX12_about_122 : decode cX12_about 122 = .ok (.iaload, 1) := by decide +kernel
theorem dX12_about_118 : decode cX12_about 118 = .ok (.getfield 34, 3) := by decide +kernel
theorem dX12_about_124 : decode cX12_about 124 = .ok (.aload_n 0, 1) := by decide +kernel
theorem dX12_about_128 : decode cX12_about 128 = .ok (.iconst 3, 1) := by decide +kernel
theorem dX12_about_141 : decode cX12_about 141 = .ok (.iconst 0, 1) := by decide +kernel
theorem dX12_about_142 : decode cX12_about 142 = .ok (.ireturn, 1) := by decide +kernel
theorem dX12_about_132 : decode cX12_about 132 = .ok (.aload_n 0, 1) := by decide +kernel
theorem dX12_about_136 : decode cX12_about 136 = .ok (.iload_n 3, 1) := by decide +kernel
theorem dX12_about_138 : decode cX12_about 138 = .ok (.goto 4, 3) := by decide +kernel
theorem dX12_about_137 : decode cX12_about 137 = .ok (.iaload, 1) := by decide +kernel
theorem dX12_about_133 : decode cX12_about 133 = .ok (.getfield 43, 3) := by decide +kernel
theorem dX12_about_129 : decode cX12_about 129 = .ok (.if_icmp .ne 12, 3) := by decide +kernel
theorem dX12_about_125 : decode cX12_about 125 = .ok (.getfield 199, 3) := by decide +kernel
theorem dX12_about_143 : decode cX12_about 143 = .ok (.aload_n 0, 1) := by decide +kernel
theorem dX12_about_147 : decode cX12_about 147 = .ok (.iconst 4, 1) := by decide +kernel
theorem dX12_about_160 : decode cX12_about 160 = .ok (.iconst 0, 1) := by decide +kernel
theorem dX12_about_161 : decode cX12_about 161 = .ok (.ireturn, 1) := by decide +kernel
theorem dX12_about_151 : decode cX12_about 151 = .ok (.aload_n 0, 1) := by decide +kernel
theorem dX12_about_155 : decode cX12_about 155 = .ok (.iload_n 3, 1) := by decide +kernel
theorem dX12_about_157 : decode cX12_about 157 = .ok (.goto 4, 3) := by decide +kernel
theorem dX12_about_156 : decode cX12_about 156 = .ok (.iaload, 1) := by decide +kernel
theorem dX12_about_152 : decode cX12_about 152 = .ok (.getfield 46, 3) := by decide +kernel
theorem dX12_about_148 : decode cX12_about 148 = .ok (.if_icmp .ne 12, 3) := by decide +kernel
theorem dX12_about_144 : decode cX12_about 144 = .ok (.getfield 199, 3) := by decide +kernel
theorem dX12_about_162 : decode cX12_about 162 = .ok (.aload_n 0, 1) := by decide +kernel
theorem dX12_about_178 : decode cX12_about 178 = .ok (.iconst 0, 1) := by decide +kernel
theorem dX12_about_179 : decode cX12_about 179 = .ok (.ireturn, 1) := by decide +kernel
theorem dX12_about_169 : decode cX12_about 169 = .ok (.aload_n 0, 1) := by decide +kernel
theorem dX12_about_173 : decode cX12_about 173 = .ok (.iload_n 3, 1) := by decide +kernel
theorem dX12_about_175 : decode cX12_about 175 = .ok (.goto 4, 3) := by decide +kernel
theorem dX12_about_174 : decode cX12_about 174 = .ok (.iaload, 1) := by decide +kernel
theorem dX12_about_170 : decode cX12_about 170 = .ok (.getfield 49, 3) := by decide +kernel
theorem dX12_about_166 : decode cX12_about 166 = .ok (.ifCond .eq 12, 3) := by decide +kernel
theorem dX12_about_163 : decode cX12_about 163 = .ok (.getfield 270, 3) := by decide +kernel
theorem dX12_about_180 : decode cX12_about 180 = .ok (.aload_n 0, 1) := by decide +kernel
theorem dX12_about_184 : decode cX12_about 184 = .ok (.iload_n 3, 1) := by decide +kernel
theorem dX12_about_186 : decode cX12_about 186 = .ok (.ireturn, 1) := by decide +kernel
theorem dX12_about_185 : decode cX12_about 185 = .ok (.iaload, 1) := by decide +kernel
theorem dX12_about_181 : decode cX12_about 181 = .ok (.getfield 52, 3) := by decide +kernel
theorem dX12_about_187 : decode cX12_about 187 = .ok (.aload_n 0, 1) := by decide +kernel
theorem dX12_about_191 : decode cX12_about 191 = .ok (.iload_n 3, 1) := by decide +kernel
theorem dX12_about_200 : decode cX12_about 200 = .ok (.iconst 0, 1) := by decide +kernel
theorem dX12_about_201 : decode cX12_about 201 = .ok (.ireturn, 1) := by decide +kernel
theorem dX12_about_196 : decode cX12_about 196 = .ok (.iconst 1, 1) := by decide +kernel
theorem dX12_about_197 : decode cX12_about 197 = .ok (.goto 4, 3) := by decide +kernel
theorem dX12_about_193 : decode cX12_about 193 = .ok (.ifCond .eq 7, 3) := by decide +kernel
theorem dX12_about_192 : decode cX12_about 192 = .ok (.baload, 1) := by decide +kernel
theorem dX12_about_188 : decode cX12_about 188 = .ok (.getfield 59, 3) := by decide +kernel
theorem dX12_about_46 : decode cX12_about 46 = .ok (.iconst 3, 1) := by decide +kernel
theorem dX12_about_47 : decode cX12_about 47 = .ok (.goto 4, 3) := by decide +kernel
theorem dX12_about_57 : decode cX12_about 57 = .ok (.iconst 0, 1) := by decide +kernel
theorem dX12_about_58 : decode cX12_about 58 = .ok (.ireturn, 1) := by decide +kernel
theorem dX12_about_43 : decode cX12_about 43 = .ok (.ifCond .ge 7, 3) := by decide +kernel
theorem dX12_about_22 : decode cX12_about 22 = .ok (.iconst 2, 1) := by decide +kernel
theorem dX12_about_23 : decode cX12_about 23 = .ok (.goto 4, 3) := by decide +kernel
theorem dX12_about_19 : decode cX12_about 19 = .ok (.ifCond .ne 7, 3) := by decide +kernel
theorem dX12_about_16 : decode cX12_about 16 = .ok (.getfield 237, 3) := by decide +kernel
theorem dX12_about_8 : decode cX12_about 8 = .ok (.if_icmp .le 7, 3) := by decide +kernel
theorem dX12_about_2 : decode cX12_about 2 = .ok (.ifCond .lt 9, 3) := by decide +kernel
def wr_258 (c k : Nat) : Bool := Nat.beq c 110 || Nat.beq c 118 || (Nat.beq c 94 && (Nat.beq k 0 || Nat.beq k 73))
theorem ws_245_258 : ∀ c k, wr_245 c k = true → wr_258 c k = true := by
  intro c k h
  simp only [wr_245, wr_258, Bool.or_eq_true, Bool.and_eq_true, Nat.beq_eq] at h ⊢
  omega
theorem g_258_0 {X : Nat × (Nat → Int32)} {m : Nat → Nat → Int32} {P : Option ma_V → (Nat → Nat → Int32) → Prop} (ob : Int32) (wh : Int32) (h : if wh < 0 then (P (some (.inl (0 : Int32))) (ma_u m 94 0 (1 : Int32))) else (if wh ≤ (7 : Int32) then (if (m 94 8) = 0 then (P (some (.inl (0 : Int32))) (ma_u m 94 0 (2 : Int32))) else (zm X 4 87 245 0 [(0, .inr (.inr (some 94))), (1, .inl ob)] (ma_u m 94 0 (0 : Int32)) (zmi (fun v2 m1 => if 0 ≤ v2 then (if wh = (0 : Int32) then ((0 ≤ v2 ∧ v2.toNatClampNeg < 3100) ∧ (P (some (.inl (m1 103 v2.toNatClampNeg))) (ma_u m1 94 0 (0 : Int32)))) else (if wh = (1 : Int32) then ((0 ≤ v2 ∧ v2.toNatClampNeg < 3100) ∧ (P (some (.inl ((m1 102 v2.toNatClampNeg) + (1 : Int32)))) (ma_u m1 94 0 (0 : Int32)))) else (if wh = (2 : Int32) then ((0 ≤ v2 ∧ v2.toNatClampNeg < 3100) ∧ (P (some (.inl (m1 101 v2.toNatClampNeg))) (ma_u m1 94 0 (0 : Int32)))) else (if wh = (3 : Int32) then (if (m1 94 10) = (3 : Int32) then ((0 ≤ v2 ∧ v2.toNatClampNeg < 3100) ∧ (P (some (.inl (m1 104 v2.toNatClampNeg))) (ma_u m1 94 0 (0 : Int32)))) else (P (some (.inl (0 : Int32))) (ma_u m1 94 0 (0 : Int32)))) else (if wh = (4 : Int32) then (if (m1 94 10) = (4 : Int32) then ((0 ≤ v2 ∧ v2.toNatClampNeg < 3100) ∧ (P (some (.inl (m1 105 v2.toNatClampNeg))) (ma_u m1 94 0 (0 : Int32)))) else (P (some (.inl (0 : Int32))) (ma_u m1 94 0 (0 : Int32)))) else (if wh = (5 : Int32) then (if (m1 94 58) = 0 then (P (some (.inl (0 : Int32))) (ma_u m1 94 0 (0 : Int32))) else ((0 ≤ v2 ∧ v2.toNatClampNeg < 3100) ∧ (P (some (.inl (m1 106 v2.toNatClampNeg))) (ma_u m1 94 0 (0 : Int32))))) else (if wh = (6 : Int32) then ((0 ≤ v2 ∧ v2.toNatClampNeg < 3100) ∧ (P (some (.inl (m1 107 v2.toNatClampNeg))) (ma_u m1 94 0 (0 : Int32)))) else ((0 ≤ v2 ∧ v2.toNatClampNeg < 3100) ∧ (if (m1 109 v2.toNatClampNeg) = 0 then (P (some (.inl (0 : Int32))) (ma_u m1 94 0 (0 : Int32))) else (P (some (.inl (1 : Int32))) (ma_u m1 94 0 (0 : Int32)))))))))))) else (P (some (.inl (0 : Int32))) (ma_u m1 94 0 (3 : Int32))))))) else (P (some (.inl (0 : Int32))) (ma_u m 94 0 (1 : Int32))))) : zm X 5 109 258 0 [(0, .inr (.inr (some 94))), (1, .inl ob), (2, .inl wh)] m P := by
  intro d w S Q hd hw hS hm HQ
  subst hm
  refine zw_push hm_258 dX12_about_0 (v := .inr (.inr (some 94))) rfl ?_
  refine zw_push hm_258 dX12_about_1 (v := .inl wh) rfl ?_
  refine zw_if0 hm_258 dX12_about_2 (t := 11) rfl zc0_lt ?_ ?_
  · intro hc
    rw [if_pos hc] at h
    refine zw_push hm_258 dX12_about_11 (v := .inl (1 : Int32)) rfl ?_
    refine zw_goto hm_258 dX12_about_12 (t := 27) rfl ?_
    refine zw_cv hm_258 dX12_about_27 v_12_110_12 hm_167 [.inl (1 : Int32)] [] rfl (zT_rt hS s_94 rfl) ⟨by omega, by omega⟩ rfl ?_
    show ma_wp X (d - 1) (w - 21) 167 0 [(0, .inr (.inr (some 94))), (1, .inl (1 : Int32))] [] S _
    refine zw_push hm_167 dX12_fails_0 (v := .inr (.inr (some 94))) rfl ?_
    refine zw_push hm_167 dX12_fails_1 (v := .inl (1 : Int32)) rfl ?_
    refine zw_pf hm_167 dX12_fails_2 (zT_is hS s_94) (zT_t hS s_94) p_12_1_12 zk_int ?_
    refine zw_push hm_167 dX12_fails_5 (v := .inl (1 : Int32)) rfl ?_
    refine zw_if0 hm_167 dX12_fails_6 (t := 13) rfl zc0_eq (fun hc => absurd hc (by decide)) (fun _ => ?_)
    refine zw_push hm_167 dX12_fails_9 (v := .inl (1 : Int32)) rfl ?_
    refine zw_goto hm_167 dX12_fails_10 (t := 14) rfl ?_
    refine zw_bret hm_167 dX12_fails_14 (by decide) ?_
    show ma_wp X d w 258 30 [(0, .inr (.inr (some 94))), (1, .inl ob), (2, .inl wh)] [.inl (1 : Int32)] (ma_put S 94 0 (.inl (1 : Int32))) _
    refine zw_if0 hm_258 dX12_about_30 (t := 35) rfl zc0_eq (fun hc => absurd hc (by decide)) (fun _ => ?_)
    refine zw_push hm_258 dX12_about_33 (v := .inl (0 : Int32)) rfl ?_
    exact zw_iret hm_258 dX12_about_34 (HQ _ _ h)
  · intro hc
    rw [if_neg hc] at h
    refine zw_push hm_258 dX12_about_5 (v := .inl wh) rfl ?_
    refine zw_push hm_258 dX12_about_6 (v := .inl (7 : Int32)) rfl ?_
    refine zw_if2 hm_258 dX12_about_8 (t := 15) rfl zc2_le ?_ ?_
    · intro hc
      rw [if_pos hc] at h
      refine zw_push hm_258 dX12_about_15 (v := .inr (.inr (some 94))) rfl ?_
      refine zw_gf hm_258 dX12_about_16 (v := .inl ((mI S) 94 8)) (zT_is hS s_94) (zT_t hS s_94) rfl f_12_237_12 rfl ?_
      refine zw_if0 hm_258 dX12_about_19 (t := 26) rfl zc0_ne ?_ ?_
      · intro hc
        rw [if_neg hc] at h
        refine zw_push hm_258 dX12_about_26 (v := .inl (0 : Int32)) rfl ?_
        refine zw_cv hm_258 dX12_about_27 v_12_110_12 hm_167 [.inl (0 : Int32)] [] rfl (zT_rt hS s_94 rfl) ⟨by omega, by omega⟩ rfl ?_
        show ma_wp X (d - 1) (w - 21) 167 0 [(0, .inr (.inr (some 94))), (1, .inl (0 : Int32))] [] S _
        refine zw_push hm_167 dX12_fails_0 (v := .inr (.inr (some 94))) rfl ?_
        refine zw_push hm_167 dX12_fails_1 (v := .inl (0 : Int32)) rfl ?_
        refine zw_pf hm_167 dX12_fails_2 (zT_is hS s_94) (zT_t hS s_94) p_12_1_12 zk_int ?_
        refine zw_push hm_167 dX12_fails_5 (v := .inl (0 : Int32)) rfl ?_
        refine zw_if0 hm_167 dX12_fails_6 (t := 13) rfl zc0_eq (fun _ => ?_) (fun hc => absurd (by decide) hc)
        refine zw_push hm_167 dX12_fails_13 (v := .inl (0 : Int32)) rfl ?_
        refine zw_bret hm_167 dX12_fails_14 (by decide) ?_
        show ma_wp X d w 258 30 [(0, .inr (.inr (some 94))), (1, .inl ob), (2, .inl wh)] [.inl (0 : Int32)] (ma_put S 94 0 (.inl (0 : Int32))) _
        refine zw_if0 hm_258 dX12_about_30 (t := 35) rfl zc0_eq (fun _ => ?_) (fun hc => absurd (by decide) hc)
        refine zw_push hm_258 dX12_about_35 (v := .inr (.inr (some 94))) rfl ?_
        refine zw_push hm_258 dX12_about_36 (v := .inl ob) rfl ?_
        refine zw_cv hm_258 dX12_about_37 v_12_499_12 hm_245 [.inl ob] [] rfl (zT_rt (zT_pi hS) s_94 rfl) ⟨by omega, by omega⟩ rfl (h _ _ (ma_put S 94 0 (.inl (0 : Int32))) _ (by omega) (by omega) (zT_pi hS) rfl (fun o9 m1 hv => ?_))
        obtain ⟨v2, rfl, h⟩ := zmi_of hv
        show ma_wp X d w 258 40 [(0, .inr (.inr (some 94))), (1, .inl ob), (2, .inl wh)] [.inl v2] (zst S m1) _
        refine zw_sto hm_258 dX12_about_40 [(3, .inl v2), (0, .inr (.inr (some 94))), (1, .inl ob), (2, .inl wh)] rfl rfl rfl ?_
        refine zw_push hm_258 dX12_about_41 (v := .inr (.inr (some 94))) rfl ?_
        refine zw_push hm_258 dX12_about_42 (v := .inl v2) rfl ?_
        refine zw_if0 hm_258 dX12_about_43 (t := 50) rfl zc0_ge ?_ ?_
        · intro hc
          rw [if_pos hc] at h
          refine zw_push hm_258 dX12_about_50 (v := .inl (0 : Int32)) rfl ?_
          refine zw_cv hm_258 dX12_about_51 v_12_110_12 hm_167 [.inl (0 : Int32)] [] rfl (zT_rt (zT_zst hS m1) s_94 rfl) ⟨by omega, by omega⟩ rfl ?_
          show ma_wp X (d - 1) (w - 21) 167 0 [(0, .inr (.inr (some 94))), (1, .inl (0 : Int32))] [] (zst S m1) _
          refine zw_push hm_167 dX12_fails_0 (v := .inr (.inr (some 94))) rfl ?_
          refine zw_push hm_167 dX12_fails_1 (v := .inl (0 : Int32)) rfl ?_
          refine zw_pf hm_167 dX12_fails_2 (zT_is (zT_zst hS m1) s_94) (zT_t (zT_zst hS m1) s_94) p_12_1_12 zk_int ?_
          refine zw_push hm_167 dX12_fails_5 (v := .inl (0 : Int32)) rfl ?_
          refine zw_if0 hm_167 dX12_fails_6 (t := 13) rfl zc0_eq (fun _ => ?_) (fun hc => absurd (by decide) hc)
          refine zw_push hm_167 dX12_fails_13 (v := .inl (0 : Int32)) rfl ?_
          refine zw_bret hm_167 dX12_fails_14 (by decide) ?_
          show ma_wp X d w 258 54 [(3, .inl v2), (0, .inr (.inr (some 94))), (1, .inl ob), (2, .inl wh)] [.inl (0 : Int32)] (ma_put (zst S m1) 94 0 (.inl (0 : Int32))) _
          refine zw_if0 hm_258 dX12_about_54 (t := 59) rfl zc0_eq (fun _ => ?_) (fun hc => absurd (by decide) hc)
          refine zw_push hm_258 dX12_about_59 (v := .inl wh) rfl ?_
          by_cases hc0 : wh = (0 : Int32)
          · rw [if_pos hc0] at h
            refine zw_jmp hm_258 dX12_about_60 (t := 104) (st₉ := []) rfl rfl rfl (ma_jmp_tab (by rw [hc0]; decide +kernel)) ?_
            refine zw_push hm_258 dX12_about_104 (v := .inr (.inr (some 94))) rfl ?_
            refine zw_gf hm_258 dX12_about_105 (v := .inr (.inr (some 103))) (zT_is (zT_pi (zT_zst hS m1)) s_94) (zT_t (zT_pi (zT_zst hS m1)) s_94) rfl f_12_40_12 (zT_f (zT_pi (zT_zst hS m1)) r_94_35) ?_
            refine zw_push hm_258 dX12_about_108 (v := .inl v2) rfl ?_
            obtain ⟨hg, h⟩ := h
            refine zw_ia hm_258 dX12_about_109 (zT_is (zT_pi (zT_zst hS m1)) s_103) (zT_h (zT_pi (zT_zst hS m1)) s_103) rfl hg ?_
            show ma_wp X d w 258 110 [(3, .inl v2), (0, .inr (.inr (some 94))), (1, .inl ob), (2, .inl wh)] [.inl (m1 103 v2.toNatClampNeg)] (ma_put (zst S m1) 94 0 (.inl (0 : Int32))) _
            exact zw_iret hm_258 dX12_about_110 (HQ _ _ h)
          rw [if_neg hc0] at h
          by_cases hc1 : wh = (1 : Int32)
          · rw [if_pos hc1] at h
            refine zw_jmp hm_258 dX12_about_60 (t := 111) (st₉ := []) rfl rfl rfl (ma_jmp_tab (by rw [hc1]; decide +kernel)) ?_
            refine zw_push hm_258 dX12_about_111 (v := .inr (.inr (some 94))) rfl ?_
            refine zw_push hm_258 dX12_about_112 (v := .inl v2) rfl ?_
            refine zw_cv hm_258 dX12_about_113 v_12_327_12 hm_201 [.inl v2] [] rfl (zT_rt (zT_pi (zT_zst hS m1)) s_94 rfl) ⟨by omega, by omega⟩ rfl ?_
            show ma_wp X (d - 1) (w - 21) 201 0 [(0, .inr (.inr (some 94))), (1, .inl v2)] [] (ma_put (zst S m1) 94 0 (.inl (0 : Int32))) _
            refine zw_push hm_201 dX12_sizeOf_0 (v := .inr (.inr (some 94))) rfl ?_
            refine zw_gf hm_201 dX12_sizeOf_1 (v := .inr (.inr (some 102))) (zT_is (zT_pi (zT_zst hS m1)) s_94) (zT_t (zT_pi (zT_zst hS m1)) s_94) rfl f_12_37_12 (zT_f (zT_pi (zT_zst hS m1)) r_94_34) ?_
            refine zw_push hm_201 dX12_sizeOf_4 (v := .inl v2) rfl ?_
            obtain ⟨hg, h⟩ := h
            refine zw_ia hm_201 dX12_sizeOf_5 (zT_is (zT_pi (zT_zst hS m1)) s_102) (zT_h (zT_pi (zT_zst hS m1)) s_102) rfl hg ?_
            show ma_wp X (d - 1) (w - 21) 201 6 [(0, .inr (.inr (some 94))), (1, .inl v2)] [.inl (m1 102 v2.toNatClampNeg)] (ma_put (zst S m1) 94 0 (.inl (0 : Int32))) _
            refine zw_push hm_201 dX12_sizeOf_6 (v := .inl (1 : Int32)) rfl ?_
            refine zw_stk hm_201 dX12_sizeOf_7 (st₉ := [.inl ((m1 102 v2.toNatClampNeg) + (1 : Int32))]) rfl rfl ?_
            refine zw_iret hm_201 dX12_sizeOf_8 ?_
            show ma_wp X d w 258 116 [(3, .inl v2), (0, .inr (.inr (some 94))), (1, .inl ob), (2, .inl wh)] [.inl ((m1 102 v2.toNatClampNeg) + (1 : Int32))] (ma_put (zst S m1) 94 0 (.inl (0 : Int32))) _
            exact zw_iret hm_258 dX12_about_116 (HQ _ _ h)
          rw [if_neg hc1] at h
          by_cases hc2 : wh = (2 : Int32)
          · rw [if_pos hc2] at h
            refine zw_jmp hm_258 dX12_about_60 (t := 117) (st₉ := []) rfl rfl rfl (ma_jmp_tab (by rw [hc2]; decide +kernel)) ?_
            refine zw_push hm_258 dX12_about_117 (v := .inr (.inr (some 94))) rfl ?_
            refine zw_gf hm_258 dX12_about_118 (v := .inr (.inr (some 101))) (zT_is (zT_pi (zT_zst hS m1)) s_94) (zT_t (zT_pi (zT_zst hS m1)) s_94) rfl f_12_34_12 (zT_f (zT_pi (zT_zst hS m1)) r_94_33) ?_
            refine zw_push hm_258 dX12_about_121 (v := .inl v2) rfl ?_
            obtain ⟨hg, h⟩ := h
            refine zw_ia hm_258 dX12_about_122 (zT_is (zT_pi (zT_zst hS m1)) s_101) (zT_h (zT_pi (zT_zst hS m1)) s_101) rfl hg ?_
            show ma_wp X d w 258 123 [(3, .inl v2), (0, .inr (.inr (some 94))), (1, .inl ob), (2, .inl wh)] [.inl (m1 101 v2.toNatClampNeg)] (ma_put (zst S m1) 94 0 (.inl (0 : Int32))) _
            exact zw_iret hm_258 dX12_about_123 (HQ _ _ h)
          rw [if_neg hc2] at h
          by_cases hc3 : wh = (3 : Int32)
          · rw [if_pos hc3] at h
            refine zw_jmp hm_258 dX12_about_60 (t := 124) (st₉ := []) rfl rfl rfl (ma_jmp_tab (by rw [hc3]; decide +kernel)) ?_
            refine zw_push hm_258 dX12_about_124 (v := .inr (.inr (some 94))) rfl ?_
            refine zw_gf hm_258 dX12_about_125 (v := .inl (m1 94 10)) (zT_is (zT_pi (zT_zst hS m1)) s_94) (zT_t (zT_pi (zT_zst hS m1)) s_94) rfl f_12_199_12 rfl ?_
            refine zw_push hm_258 dX12_about_128 (v := .inl (3 : Int32)) rfl ?_
            refine zw_if2 hm_258 dX12_about_129 (t := 141) rfl zc2_ne ?_ ?_
            · intro hc
              rw [if_neg hc] at h
              refine zw_push hm_258 dX12_about_141 (v := .inl (0 : Int32)) rfl ?_
              exact zw_iret hm_258 dX12_about_142 (HQ _ _ h)
            · intro hc
              rw [if_pos (Classical.not_not.mp hc)] at h
              refine zw_push hm_258 dX12_about_132 (v := .inr (.inr (some 94))) rfl ?_
              refine zw_gf hm_258 dX12_about_133 (v := .inr (.inr (some 104))) (zT_is (zT_pi (zT_zst hS m1)) s_94) (zT_t (zT_pi (zT_zst hS m1)) s_94) rfl f_12_43_12 (zT_f (zT_pi (zT_zst hS m1)) r_94_36) ?_
              refine zw_push hm_258 dX12_about_136 (v := .inl v2) rfl ?_
              obtain ⟨hg, h⟩ := h
              refine zw_ia hm_258 dX12_about_137 (zT_is (zT_pi (zT_zst hS m1)) s_104) (zT_h (zT_pi (zT_zst hS m1)) s_104) rfl hg ?_
              show ma_wp X d w 258 138 [(3, .inl v2), (0, .inr (.inr (some 94))), (1, .inl ob), (2, .inl wh)] [.inl (m1 104 v2.toNatClampNeg)] (ma_put (zst S m1) 94 0 (.inl (0 : Int32))) _
              refine zw_goto hm_258 dX12_about_138 (t := 142) rfl ?_
              exact zw_iret hm_258 dX12_about_142 (HQ _ _ h)
          rw [if_neg hc3] at h
          by_cases hc4 : wh = (4 : Int32)
          · rw [if_pos hc4] at h
            refine zw_jmp hm_258 dX12_about_60 (t := 143) (st₉ := []) rfl rfl rfl (ma_jmp_tab (by rw [hc4]; decide +kernel)) ?_
            refine zw_push hm_258 dX12_about_143 (v := .inr (.inr (some 94))) rfl ?_
            refine zw_gf hm_258 dX12_about_144 (v := .inl (m1 94 10)) (zT_is (zT_pi (zT_zst hS m1)) s_94) (zT_t (zT_pi (zT_zst hS m1)) s_94) rfl f_12_199_12 rfl ?_
            refine zw_push hm_258 dX12_about_147 (v := .inl (4 : Int32)) rfl ?_
            refine zw_if2 hm_258 dX12_about_148 (t := 160) rfl zc2_ne ?_ ?_
            · intro hc
              rw [if_neg hc] at h
              refine zw_push hm_258 dX12_about_160 (v := .inl (0 : Int32)) rfl ?_
              exact zw_iret hm_258 dX12_about_161 (HQ _ _ h)
            · intro hc
              rw [if_pos (Classical.not_not.mp hc)] at h
              refine zw_push hm_258 dX12_about_151 (v := .inr (.inr (some 94))) rfl ?_
              refine zw_gf hm_258 dX12_about_152 (v := .inr (.inr (some 105))) (zT_is (zT_pi (zT_zst hS m1)) s_94) (zT_t (zT_pi (zT_zst hS m1)) s_94) rfl f_12_46_12 (zT_f (zT_pi (zT_zst hS m1)) r_94_37) ?_
              refine zw_push hm_258 dX12_about_155 (v := .inl v2) rfl ?_
              obtain ⟨hg, h⟩ := h
              refine zw_ia hm_258 dX12_about_156 (zT_is (zT_pi (zT_zst hS m1)) s_105) (zT_h (zT_pi (zT_zst hS m1)) s_105) rfl hg ?_
              show ma_wp X d w 258 157 [(3, .inl v2), (0, .inr (.inr (some 94))), (1, .inl ob), (2, .inl wh)] [.inl (m1 105 v2.toNatClampNeg)] (ma_put (zst S m1) 94 0 (.inl (0 : Int32))) _
              refine zw_goto hm_258 dX12_about_157 (t := 161) rfl ?_
              exact zw_iret hm_258 dX12_about_161 (HQ _ _ h)
          rw [if_neg hc4] at h
          by_cases hc5 : wh = (5 : Int32)
          · rw [if_pos hc5] at h
            refine zw_jmp hm_258 dX12_about_60 (t := 162) (st₉ := []) rfl rfl rfl (ma_jmp_tab (by rw [hc5]; decide +kernel)) ?_
            refine zw_push hm_258 dX12_about_162 (v := .inr (.inr (some 94))) rfl ?_
            refine zw_gf hm_258 dX12_about_163 (v := .inl (m1 94 58)) (zT_is (zT_pi (zT_zst hS m1)) s_94) (zT_t (zT_pi (zT_zst hS m1)) s_94) rfl f_12_270_12 rfl ?_
            refine zw_if0 hm_258 dX12_about_166 (t := 178) rfl zc0_eq ?_ ?_
            · intro hc
              rw [if_pos hc] at h
              refine zw_push hm_258 dX12_about_178 (v := .inl (0 : Int32)) rfl ?_
              exact zw_iret hm_258 dX12_about_179 (HQ _ _ h)
            · intro hc
              rw [if_neg hc] at h
              refine zw_push hm_258 dX12_about_169 (v := .inr (.inr (some 94))) rfl ?_
              refine zw_gf hm_258 dX12_about_170 (v := .inr (.inr (some 106))) (zT_is (zT_pi (zT_zst hS m1)) s_94) (zT_t (zT_pi (zT_zst hS m1)) s_94) rfl f_12_49_12 (zT_f (zT_pi (zT_zst hS m1)) r_94_38) ?_
              refine zw_push hm_258 dX12_about_173 (v := .inl v2) rfl ?_
              obtain ⟨hg, h⟩ := h
              refine zw_ia hm_258 dX12_about_174 (zT_is (zT_pi (zT_zst hS m1)) s_106) (zT_h (zT_pi (zT_zst hS m1)) s_106) rfl hg ?_
              show ma_wp X d w 258 175 [(3, .inl v2), (0, .inr (.inr (some 94))), (1, .inl ob), (2, .inl wh)] [.inl (m1 106 v2.toNatClampNeg)] (ma_put (zst S m1) 94 0 (.inl (0 : Int32))) _
              refine zw_goto hm_258 dX12_about_175 (t := 179) rfl ?_
              exact zw_iret hm_258 dX12_about_179 (HQ _ _ h)
          rw [if_neg hc5] at h
          by_cases hc6 : wh = (6 : Int32)
          · rw [if_pos hc6] at h
            refine zw_jmp hm_258 dX12_about_60 (t := 180) (st₉ := []) rfl rfl rfl (ma_jmp_tab (by rw [hc6]; decide +kernel)) ?_
            refine zw_push hm_258 dX12_about_180 (v := .inr (.inr (some 94))) rfl ?_
            refine zw_gf hm_258 dX12_about_181 (v := .inr (.inr (some 107))) (zT_is (zT_pi (zT_zst hS m1)) s_94) (zT_t (zT_pi (zT_zst hS m1)) s_94) rfl f_12_52_12 (zT_f (zT_pi (zT_zst hS m1)) r_94_39) ?_
            refine zw_push hm_258 dX12_about_184 (v := .inl v2) rfl ?_
            obtain ⟨hg, h⟩ := h
            refine zw_ia hm_258 dX12_about_185 (zT_is (zT_pi (zT_zst hS m1)) s_107) (zT_h (zT_pi (zT_zst hS m1)) s_107) rfl hg ?_
            show ma_wp X d w 258 186 [(3, .inl v2), (0, .inr (.inr (some 94))), (1, .inl ob), (2, .inl wh)] [.inl (m1 107 v2.toNatClampNeg)] (ma_put (zst S m1) 94 0 (.inl (0 : Int32))) _
            exact zw_iret hm_258 dX12_about_186 (HQ _ _ h)
          rw [if_neg hc6] at h
          refine zw_jmp hm_258 dX12_about_60 (t := 187) (st₉ := []) rfl rfl rfl (ma_jmp_def (m := 7) (by decide) (fun j hj => by
              have hj2 : j = 0 ∨ j = 1 ∨ j = 2 ∨ j = 3 ∨ j = 4 ∨ j = 5 ∨ j = 6 := by omega
              rcases hj2 with rfl | rfl | rfl | rfl | rfl | rfl | rfl
              · exact hc0
              · exact hc1
              · exact hc2
              · exact hc3
              · exact hc4
              · exact hc5
              · exact hc6
              ) rfl) ?_
          refine zw_push hm_258 dX12_about_187 (v := .inr (.inr (some 94))) rfl ?_
          refine zw_gf hm_258 dX12_about_188 (v := .inr (.inr (some 109))) (zT_is (zT_pi (zT_zst hS m1)) s_94) (zT_t (zT_pi (zT_zst hS m1)) s_94) rfl f_12_59_12 (zT_f (zT_pi (zT_zst hS m1)) r_94_41) ?_
          refine zw_push hm_258 dX12_about_191 (v := .inl v2) rfl ?_
          obtain ⟨hg, h⟩ := h
          refine zw_ba hm_258 dX12_about_192 (zT_is (zT_pi (zT_zst hS m1)) s_109) (zT_h (zT_pi (zT_zst hS m1)) s_109) rfl rfl hg ?_
          show ma_wp X d w 258 193 [(3, .inl v2), (0, .inr (.inr (some 94))), (1, .inl ob), (2, .inl wh)] [.inl (m1 109 v2.toNatClampNeg)] (ma_put (zst S m1) 94 0 (.inl (0 : Int32))) _
          refine zw_if0 hm_258 dX12_about_193 (t := 200) rfl zc0_eq ?_ ?_
          · intro hc
            rw [if_pos hc] at h
            refine zw_push hm_258 dX12_about_200 (v := .inl (0 : Int32)) rfl ?_
            exact zw_iret hm_258 dX12_about_201 (HQ _ _ h)
          · intro hc
            rw [if_neg hc] at h
            refine zw_push hm_258 dX12_about_196 (v := .inl (1 : Int32)) rfl ?_
            refine zw_goto hm_258 dX12_about_197 (t := 201) rfl ?_
            exact zw_iret hm_258 dX12_about_201 (HQ _ _ h)
        · intro hc
          rw [if_neg hc] at h
          refine zw_push hm_258 dX12_about_46 (v := .inl (3 : Int32)) rfl ?_
          refine zw_goto hm_258 dX12_about_47 (t := 51) rfl ?_
          refine zw_cv hm_258 dX12_about_51 v_12_110_12 hm_167 [.inl (3 : Int32)] [] rfl (zT_rt (zT_zst hS m1) s_94 rfl) ⟨by omega, by omega⟩ rfl ?_
          show ma_wp X (d - 1) (w - 21) 167 0 [(0, .inr (.inr (some 94))), (1, .inl (3 : Int32))] [] (zst S m1) _
          refine zw_push hm_167 dX12_fails_0 (v := .inr (.inr (some 94))) rfl ?_
          refine zw_push hm_167 dX12_fails_1 (v := .inl (3 : Int32)) rfl ?_
          refine zw_pf hm_167 dX12_fails_2 (zT_is (zT_zst hS m1) s_94) (zT_t (zT_zst hS m1) s_94) p_12_1_12 zk_int ?_
          refine zw_push hm_167 dX12_fails_5 (v := .inl (3 : Int32)) rfl ?_
          refine zw_if0 hm_167 dX12_fails_6 (t := 13) rfl zc0_eq (fun hc => absurd hc (by decide)) (fun _ => ?_)
          refine zw_push hm_167 dX12_fails_9 (v := .inl (1 : Int32)) rfl ?_
          refine zw_goto hm_167 dX12_fails_10 (t := 14) rfl ?_
          refine zw_bret hm_167 dX12_fails_14 (by decide) ?_
          show ma_wp X d w 258 54 [(3, .inl v2), (0, .inr (.inr (some 94))), (1, .inl ob), (2, .inl wh)] [.inl (1 : Int32)] (ma_put (zst S m1) 94 0 (.inl (3 : Int32))) _
          refine zw_if0 hm_258 dX12_about_54 (t := 59) rfl zc0_eq (fun hc => absurd hc (by decide)) (fun _ => ?_)
          refine zw_push hm_258 dX12_about_57 (v := .inl (0 : Int32)) rfl ?_
          exact zw_iret hm_258 dX12_about_58 (HQ _ _ h)
      · intro hc
        rw [if_pos (Classical.not_not.mp hc)] at h
        refine zw_push hm_258 dX12_about_22 (v := .inl (2 : Int32)) rfl ?_
        refine zw_goto hm_258 dX12_about_23 (t := 27) rfl ?_
        refine zw_cv hm_258 dX12_about_27 v_12_110_12 hm_167 [.inl (2 : Int32)] [] rfl (zT_rt hS s_94 rfl) ⟨by omega, by omega⟩ rfl ?_
        show ma_wp X (d - 1) (w - 21) 167 0 [(0, .inr (.inr (some 94))), (1, .inl (2 : Int32))] [] S _
        refine zw_push hm_167 dX12_fails_0 (v := .inr (.inr (some 94))) rfl ?_
        refine zw_push hm_167 dX12_fails_1 (v := .inl (2 : Int32)) rfl ?_
        refine zw_pf hm_167 dX12_fails_2 (zT_is hS s_94) (zT_t hS s_94) p_12_1_12 zk_int ?_
        refine zw_push hm_167 dX12_fails_5 (v := .inl (2 : Int32)) rfl ?_
        refine zw_if0 hm_167 dX12_fails_6 (t := 13) rfl zc0_eq (fun hc => absurd hc (by decide)) (fun _ => ?_)
        refine zw_push hm_167 dX12_fails_9 (v := .inl (1 : Int32)) rfl ?_
        refine zw_goto hm_167 dX12_fails_10 (t := 14) rfl ?_
        refine zw_bret hm_167 dX12_fails_14 (by decide) ?_
        show ma_wp X d w 258 30 [(0, .inr (.inr (some 94))), (1, .inl ob), (2, .inl wh)] [.inl (1 : Int32)] (ma_put S 94 0 (.inl (2 : Int32))) _
        refine zw_if0 hm_258 dX12_about_30 (t := 35) rfl zc0_eq (fun hc => absurd hc (by decide)) (fun _ => ?_)
        refine zw_push hm_258 dX12_about_33 (v := .inl (0 : Int32)) rfl ?_
        exact zw_iret hm_258 dX12_about_34 (HQ _ _ h)
    · intro hc
      rw [if_neg hc] at h
      refine zw_push hm_258 dX12_about_11 (v := .inl (1 : Int32)) rfl ?_
      refine zw_goto hm_258 dX12_about_12 (t := 27) rfl ?_
      refine zw_cv hm_258 dX12_about_27 v_12_110_12 hm_167 [.inl (1 : Int32)] [] rfl (zT_rt hS s_94 rfl) ⟨by omega, by omega⟩ rfl ?_
      show ma_wp X (d - 1) (w - 21) 167 0 [(0, .inr (.inr (some 94))), (1, .inl (1 : Int32))] [] S _
      refine zw_push hm_167 dX12_fails_0 (v := .inr (.inr (some 94))) rfl ?_
      refine zw_push hm_167 dX12_fails_1 (v := .inl (1 : Int32)) rfl ?_
      refine zw_pf hm_167 dX12_fails_2 (zT_is hS s_94) (zT_t hS s_94) p_12_1_12 zk_int ?_
      refine zw_push hm_167 dX12_fails_5 (v := .inl (1 : Int32)) rfl ?_
      refine zw_if0 hm_167 dX12_fails_6 (t := 13) rfl zc0_eq (fun hc => absurd hc (by decide)) (fun _ => ?_)
      refine zw_push hm_167 dX12_fails_9 (v := .inl (1 : Int32)) rfl ?_
      refine zw_goto hm_167 dX12_fails_10 (t := 14) rfl ?_
      refine zw_bret hm_167 dX12_fails_14 (by decide) ?_
      show ma_wp X d w 258 30 [(0, .inr (.inr (some 94))), (1, .inl ob), (2, .inl wh)] [.inl (1 : Int32)] (ma_put S 94 0 (.inl (1 : Int32))) _
      refine zw_if0 hm_258 dX12_about_30 (t := 35) rfl zc0_eq (fun hc => absurd hc (by decide)) (fun _ => ?_)
      refine zw_push hm_258 dX12_about_33 (v := .inl (0 : Int32)) rfl ?_
      exact zw_iret hm_258 dX12_about_34 (HQ _ _ h)
theorem sp_258 {X : Nat × (Nat → Int32)} {P : Option ma_V → (Nat → Nat → Int32) → Prop} {T : Nat} {m : Nat → Nat → Int32} (ob : Int32) (wh : Int32) (hV : zV m) (r_W : zW (m 94 7) (m 98) (m 101) (m 102) (m 108)) (r_GW : zGW T (m 94 55) (m 109)) (r_GU : zGU T (m 94 46) (m 99)) (r_OW : zOw (m 99) (m 103) (m 111)) (r_DX : zDX (m 94 10) (m 99) (m 112) (m 113) (m 114) (m 94 55) (m 98) (m 101) (m 102) (m 108)) (r_GG : zGG (m 94 58) (m 94 56) (m 94 57) (m 106)) (r_HA : zHA (m 94 10) (m 94 11) (m 94 13) (m 94 14) (m 94 16) (m 94 61) (m 94 59) (m 94 60) (m 99) (m 102) (m 103) (m 111) (m 117) (m 98) (m 101) (m 108)) (r_RGc : zRG (m 94 10) (m 94 18) (m 94 64) (m 94 63) (m 99) (m 103) (m 102) (m 116)) (hpre8 : (m 94 58).toInt = 0 ∨ (m 94 10).toInt = 5) (KZ : ∀ v m₉, zV (zov wr_258 m m₉) → (zW (m 94 7) (m 98) (m 101) (m 102) (m 108)) → (zGW T (m 94 55) (m 109)) → (zGU T (m 94 46) (m 99)) → (zOw (m 99) (m 103) (m 111)) → (zDX (m 94 10) (m 99) (m 112) (m 113) (m 114) (m 94 55) (m 98) (m 101) (m 102) (m 108)) → (zGG (m 94 58) (m 94 56) (m 94 57) (m 106)) → (zHA (m 94 10) (m 94 11) (m 94 13) (m 94 14) (m 94 16) (m 94 61) (m 94 59) (m 94 60) (m 99) (m 102) (m 103) (m 111) (m 117) (m 98) (m 101) (m 108)) → (zRG (m 94 10) (m 94 18) (m 94 64) (m 94 63) (m 99) (m 103) (m 102) (m 116)) → ((m 94 58).toInt = 0 ∨ (m 94 10).toInt = 5) → P (some (.inl v)) (zov wr_258 m m₉)) : zm X 5 109 258 0 [(0, .inr (.inr (some 94))), (1, .inl ob), (2, .inl wh)] m P := by
  have K : ∀ v m₉, zF wr_258 m m₉ → zV m₉ → (zW (m₉ 94 7) (m₉ 98) (m₉ 101) (m₉ 102) (m₉ 108)) → (zGW T (m₉ 94 55) (m₉ 109)) → (zGU T (m₉ 94 46) (m₉ 99)) → (zOw (m₉ 99) (m₉ 103) (m₉ 111)) → (zDX (m₉ 94 10) (m₉ 99) (m₉ 112) (m₉ 113) (m₉ 114) (m₉ 94 55) (m₉ 98) (m₉ 101) (m₉ 102) (m₉ 108)) → (zGG (m₉ 94 58) (m₉ 94 56) (m₉ 94 57) (m₉ 106)) → (zHA (m₉ 94 10) (m₉ 94 11) (m₉ 94 13) (m₉ 94 14) (m₉ 94 16) (m₉ 94 61) (m₉ 94 59) (m₉ 94 60) (m₉ 99) (m₉ 102) (m₉ 103) (m₉ 111) (m₉ 117) (m₉ 98) (m₉ 101) (m₉ 108)) → (zRG (m₉ 94 10) (m₉ 94 18) (m₉ 94 64) (m₉ 94 63) (m₉ 99) (m₉ 103) (m₉ 102) (m₉ 116)) → ((m₉ 94 58).toInt = 0 ∨ (m₉ 94 10).toInt = 5) → P (some (.inl v)) m₉ := by
    intro v m₉ hf z q0 q1 q2 q3 q4 q5 q6 q7 q8
    have e := zov_eq hf
    rw [e] at z ⊢
    try rw [e] at q0
    try rw [e] at q1
    try rw [e] at q2
    try rw [e] at q3
    try rw [e] at q4
    try rw [e] at q5
    try rw [e] at q6
    try rw [e] at q7
    try rw [e] at q8
    exact KZ v m₉ z q0 q1 q2 q3 q4 q5 q6 q7 q8
  refine g_258_0 ob wh ?_
  have f1 : 0 ≤ (m 94 58).toInt ∧ (m 94 58).toInt ≤ 1 := rs_94_58 (m := m) hV
  have f2 : 0 ≤ (m 94 10).toInt ∧ (m 94 10).toInt ≤ 6 := rs_94_10 (m := m) hV
  have b3 := i_bd wh
  have li4 : (0 : Int32).toInt = 0 := rfl
  refine zd (fun (h5 : wh < (0 : Int32)) => ?_) (fun (h5 : ¬ wh < (0 : Int32)) => ?_)
  · skip
    have g6 := i_lt h5
    have hV7 : zV (ma_u m 94 0 (1 : Int32)) := uf_94_0 hV
    exact K ((0 : Int32)) _ (zF_u zF_rfl rfl) hV7 r_W r_GW r_GU r_OW r_DX r_GG r_HA r_RGc (show (m 94 58).toInt = 0 ∨ (m 94 10).toInt = 5 from by omega)
  · skip
    have g8 := i_nlt h5
    have li9 : (7 : Int32).toInt = 7 := rfl
    refine zd (fun (h10 : wh ≤ (7 : Int32)) => ?_) (fun (h10 : ¬ wh ≤ (7 : Int32)) => ?_)
    · skip
      have g11 := i_le h10
      have f12 : 0 ≤ (m 94 8).toInt ∧ (m 94 8).toInt ≤ 1 := rs_94_8 (m := m) hV
      refine zd (fun (h13 : (m 94 8) = (0 : Int32)) => ?_) (fun (h13 : ¬ (m 94 8) = (0 : Int32)) => ?_)
      · skip
        have g14 := i_eq h13
        have hV15 : zV (ma_u m 94 0 (2 : Int32)) := uf_94_0 hV
        exact K ((0 : Int32)) _ (zF_u zF_rfl rfl) hV15 r_W r_GW r_GU r_OW r_DX r_GG r_HA r_RGc (show (m 94 58).toInt = 0 ∨ (m 94 10).toInt = 5 from by omega)
      · skip
        have g16 := i_ne h13
        have b17 := i_bd ob
        have hV18 : zV (ma_u m 94 0 (0 : Int32)) := uf_94_0 hV
        refine sp_245 (ob) hV18 r_W r_DX (fun v2 m1 hV_m1 p0_m1 p1_m1 => zmi_n ?_)
        have p0_m1 : -1 ≤ v2.toInt ∧ v2.toInt ≤ 3099 := p0_m1
        have p1_m1 : v2.toInt < 0 ∨ (m 99) v2.toNatClampNeg ≠ 0 := p1_m1
        have b19 := i_bd v2
        refine zd (fun (h20 : (0 : Int32) ≤ v2) => ?_) (fun (h20 : ¬ (0 : Int32) ≤ v2) => ?_)
        · skip
          have g21 := i_le h20
          refine zd (fun (h22 : wh = (0 : Int32)) => ?_) (fun (h22 : ¬ wh = (0 : Int32)) => ?_)
          · skip
            have g23 := i_eq h22
            have hg24 : (0 ≤ v2 ∧ v2.toNatClampNeg < 3100) := i_ix (by omega) (by omega)
            refine ⟨hg24, ?_⟩
            have hV25 : zV (ma_u (zov wr_245 (ma_u m 94 0 (0 : Int32)) m1) 94 0 (0 : Int32)) := uf_94_0 hV_m1
            first | have f26 : 0 ≤ (m 103 v2.toNatClampNeg).toInt ∧ (m 103 v2.toNatClampNeg).toInt ≤ 4599 := ra_103 (m := m) hV (k := v2.toNatClampNeg) (i_ix (n := 3100) (by omega) (by omega)).2 | have b27 := i_bd (m 103 v2.toNatClampNeg)
            exact K ((m 103 v2.toNatClampNeg)) _ (zF_u (zF_zov (zF_u zF_rfl rfl) ws_245_258) rfl) hV25 r_W r_GW r_GU r_OW r_DX r_GG r_HA r_RGc (show (m 94 58).toInt = 0 ∨ (m 94 10).toInt = 5 from by omega)
          · skip
            have g28 := i_ne h22
            have li29 : (1 : Int32).toInt = 1 := rfl
            refine zd (fun (h30 : wh = (1 : Int32)) => ?_) (fun (h30 : ¬ wh = (1 : Int32)) => ?_)
            · skip
              have g31 := i_eq h30
              have hg32 : (0 ≤ v2 ∧ v2.toNatClampNeg < 3100) := i_ix (by omega) (by omega)
              refine ⟨hg32, ?_⟩
              have hV33 : zV (ma_u (zov wr_245 (ma_u m 94 0 (0 : Int32)) m1) 94 0 (0 : Int32)) := uf_94_0 hV_m1
              first | have f34 : 0 ≤ (m 102 v2.toNatClampNeg).toInt ∧ (m 102 v2.toNatClampNeg).toInt ≤ 60 := ra_102 (m := m) hV (k := v2.toNatClampNeg) (i_ix (n := 3100) (by omega) (by omega)).2 | have b35 := i_bd (m 102 v2.toNatClampNeg)
              first | have e36 : ((m 102 v2.toNatClampNeg) + (1 : Int32)).toInt = (m 102 v2.toNatClampNeg).toInt + (1) := i_addk rfl (by omega) (by omega) | have b37 := i_bd ((m 102 v2.toNatClampNeg) + (1 : Int32))
              exact K (((m 102 v2.toNatClampNeg) + (1 : Int32))) _ (zF_u (zF_zov (zF_u zF_rfl rfl) ws_245_258) rfl) hV33 r_W r_GW r_GU r_OW r_DX r_GG r_HA r_RGc (show (m 94 58).toInt = 0 ∨ (m 94 10).toInt = 5 from by omega)
            · skip
              have g38 := i_ne h30
              have li39 : (2 : Int32).toInt = 2 := rfl
              refine zd (fun (h40 : wh = (2 : Int32)) => ?_) (fun (h40 : ¬ wh = (2 : Int32)) => ?_)
              · skip
                have g41 := i_eq h40
                have hg42 : (0 ≤ v2 ∧ v2.toNatClampNeg < 3100) := i_ix (by omega) (by omega)
                refine ⟨hg42, ?_⟩
                have hV43 : zV (ma_u (zov wr_245 (ma_u m 94 0 (0 : Int32)) m1) 94 0 (0 : Int32)) := uf_94_0 hV_m1
                first | have f44 : 0 ≤ (m 101 v2.toNatClampNeg).toInt ∧ (m 101 v2.toNatClampNeg).toInt ≤ 17 := ra_101 (m := m) hV (k := v2.toNatClampNeg) (i_ix (n := 3100) (by omega) (by omega)).2 | have b45 := i_bd (m 101 v2.toNatClampNeg)
                exact K ((m 101 v2.toNatClampNeg)) _ (zF_u (zF_zov (zF_u zF_rfl rfl) ws_245_258) rfl) hV43 r_W r_GW r_GU r_OW r_DX r_GG r_HA r_RGc (show (m 94 58).toInt = 0 ∨ (m 94 10).toInt = 5 from by omega)
              · skip
                have g46 := i_ne h40
                have li47 : (3 : Int32).toInt = 3 := rfl
                refine zd (fun (h48 : wh = (3 : Int32)) => ?_) (fun (h48 : ¬ wh = (3 : Int32)) => ?_)
                · skip
                  have g49 := i_eq h48
                  refine zd (fun (h50 : (m 94 10) = (3 : Int32)) => ?_) (fun (h50 : ¬ (m 94 10) = (3 : Int32)) => ?_)
                  · skip
                    have g51 := i_eq h50
                    have hg52 : (0 ≤ v2 ∧ v2.toNatClampNeg < 3100) := i_ix (by omega) (by omega)
                    refine ⟨hg52, ?_⟩
                    have hV53 : zV (ma_u (zov wr_245 (ma_u m 94 0 (0 : Int32)) m1) 94 0 (0 : Int32)) := uf_94_0 hV_m1
                    have b54 := i_bd (m 104 v2.toNatClampNeg)
                    exact K ((m 104 v2.toNatClampNeg)) _ (zF_u (zF_zov (zF_u zF_rfl rfl) ws_245_258) rfl) hV53 r_W r_GW r_GU r_OW r_DX r_GG r_HA r_RGc (show (m 94 58).toInt = 0 ∨ (m 94 10).toInt = 5 from by omega)
                  · skip
                    have g55 := i_ne h50
                    have hV56 : zV (ma_u (zov wr_245 (ma_u m 94 0 (0 : Int32)) m1) 94 0 (0 : Int32)) := uf_94_0 hV_m1
                    exact K ((0 : Int32)) _ (zF_u (zF_zov (zF_u zF_rfl rfl) ws_245_258) rfl) hV56 r_W r_GW r_GU r_OW r_DX r_GG r_HA r_RGc (show (m 94 58).toInt = 0 ∨ (m 94 10).toInt = 5 from by omega)
                · skip
                  have g57 := i_ne h48
                  have li58 : (4 : Int32).toInt = 4 := rfl
                  refine zd (fun (h59 : wh = (4 : Int32)) => ?_) (fun (h59 : ¬ wh = (4 : Int32)) => ?_)
                  · skip
                    have g60 := i_eq h59
                    refine zd (fun (h61 : (m 94 10) = (4 : Int32)) => ?_) (fun (h61 : ¬ (m 94 10) = (4 : Int32)) => ?_)
                    · skip
                      have g62 := i_eq h61
                      have hg63 : (0 ≤ v2 ∧ v2.toNatClampNeg < 3100) := i_ix (by omega) (by omega)
                      refine ⟨hg63, ?_⟩
                      have hV64 : zV (ma_u (zov wr_245 (ma_u m 94 0 (0 : Int32)) m1) 94 0 (0 : Int32)) := uf_94_0 hV_m1
                      have b65 := i_bd (m 105 v2.toNatClampNeg)
                      exact K ((m 105 v2.toNatClampNeg)) _ (zF_u (zF_zov (zF_u zF_rfl rfl) ws_245_258) rfl) hV64 r_W r_GW r_GU r_OW r_DX r_GG r_HA r_RGc (show (m 94 58).toInt = 0 ∨ (m 94 10).toInt = 5 from by omega)
                    · skip
                      have g66 := i_ne h61
                      have hV67 : zV (ma_u (zov wr_245 (ma_u m 94 0 (0 : Int32)) m1) 94 0 (0 : Int32)) := uf_94_0 hV_m1
                      exact K ((0 : Int32)) _ (zF_u (zF_zov (zF_u zF_rfl rfl) ws_245_258) rfl) hV67 r_W r_GW r_GU r_OW r_DX r_GG r_HA r_RGc (show (m 94 58).toInt = 0 ∨ (m 94 10).toInt = 5 from by omega)
                  · skip
                    have g68 := i_ne h59
                    have li69 : (5 : Int32).toInt = 5 := rfl
                    refine zd (fun (h70 : wh = (5 : Int32)) => ?_) (fun (h70 : ¬ wh = (5 : Int32)) => ?_)
                    · skip
                      have g71 := i_eq h70
                      refine zd (fun (h72 : (m 94 58) = (0 : Int32)) => ?_) (fun (h72 : ¬ (m 94 58) = (0 : Int32)) => ?_)
                      · skip
                        have g73 := i_eq h72
                        have hV74 : zV (ma_u (zov wr_245 (ma_u m 94 0 (0 : Int32)) m1) 94 0 (0 : Int32)) := uf_94_0 hV_m1
                        exact K ((0 : Int32)) _ (zF_u (zF_zov (zF_u zF_rfl rfl) ws_245_258) rfl) hV74 r_W r_GW r_GU r_OW r_DX r_GG r_HA r_RGc (show (m 94 58).toInt = 0 ∨ (m 94 10).toInt = 5 from by omega)
                      · skip
                        have g75 := i_ne h72
                        have hg76 : (0 ≤ v2 ∧ v2.toNatClampNeg < 3100) := i_ix (by omega) (by omega)
                        refine ⟨hg76, ?_⟩
                        have hV77 : zV (ma_u (zov wr_245 (ma_u m 94 0 (0 : Int32)) m1) 94 0 (0 : Int32)) := uf_94_0 hV_m1
                        have b78 := i_bd (m 106 v2.toNatClampNeg)
                        exact K ((m 106 v2.toNatClampNeg)) _ (zF_u (zF_zov (zF_u zF_rfl rfl) ws_245_258) rfl) hV77 r_W r_GW r_GU r_OW r_DX r_GG r_HA r_RGc (show (m 94 58).toInt = 0 ∨ (m 94 10).toInt = 5 from by omega)
                    · skip
                      have g79 := i_ne h70
                      have li80 : (6 : Int32).toInt = 6 := rfl
                      refine zd (fun (h81 : wh = (6 : Int32)) => ?_) (fun (h81 : ¬ wh = (6 : Int32)) => ?_)
                      · skip
                        have g82 := i_eq h81
                        have hg83 : (0 ≤ v2 ∧ v2.toNatClampNeg < 3100) := i_ix (by omega) (by omega)
                        refine ⟨hg83, ?_⟩
                        have hV84 : zV (ma_u (zov wr_245 (ma_u m 94 0 (0 : Int32)) m1) 94 0 (0 : Int32)) := uf_94_0 hV_m1
                        have b85 := i_bd (m 107 v2.toNatClampNeg)
                        exact K ((m 107 v2.toNatClampNeg)) _ (zF_u (zF_zov (zF_u zF_rfl rfl) ws_245_258) rfl) hV84 r_W r_GW r_GU r_OW r_DX r_GG r_HA r_RGc (show (m 94 58).toInt = 0 ∨ (m 94 10).toInt = 5 from by omega)
                      · skip
                        have g86 := i_ne h81
                        have hg87 : (0 ≤ v2 ∧ v2.toNatClampNeg < 3100) := i_ix (by omega) (by omega)
                        refine ⟨hg87, ?_⟩
                        first | have f88 : 0 ≤ (m 109 v2.toNatClampNeg).toInt ∧ (m 109 v2.toNatClampNeg).toInt ≤ 1 := ra_109 (m := m) hV (k := v2.toNatClampNeg) (i_ix (n := 3100) (by omega) (by omega)).2 | have b89 := i_bd (m 109 v2.toNatClampNeg)
                        refine zd (fun (h90 : (m 109 v2.toNatClampNeg) = (0 : Int32)) => ?_) (fun (h90 : ¬ (m 109 v2.toNatClampNeg) = (0 : Int32)) => ?_)
                        · skip
                          have g91 := i_eq h90
                          have hV92 : zV (ma_u (zov wr_245 (ma_u m 94 0 (0 : Int32)) m1) 94 0 (0 : Int32)) := uf_94_0 hV_m1
                          exact K ((0 : Int32)) _ (zF_u (zF_zov (zF_u zF_rfl rfl) ws_245_258) rfl) hV92 r_W r_GW r_GU r_OW r_DX r_GG r_HA r_RGc (show (m 94 58).toInt = 0 ∨ (m 94 10).toInt = 5 from by omega)
                        · skip
                          have g93 := i_ne h90
                          have hV94 : zV (ma_u (zov wr_245 (ma_u m 94 0 (0 : Int32)) m1) 94 0 (0 : Int32)) := uf_94_0 hV_m1
                          exact K ((1 : Int32)) _ (zF_u (zF_zov (zF_u zF_rfl rfl) ws_245_258) rfl) hV94 r_W r_GW r_GU r_OW r_DX r_GG r_HA r_RGc (show (m 94 58).toInt = 0 ∨ (m 94 10).toInt = 5 from by omega)
        · skip
          have g95 := i_nle h20
          have hV96 : zV (ma_u (zov wr_245 (ma_u m 94 0 (0 : Int32)) m1) 94 0 (3 : Int32)) := uf_94_0 hV_m1
          exact K ((0 : Int32)) _ (zF_u (zF_zov (zF_u zF_rfl rfl) ws_245_258) rfl) hV96 r_W r_GW r_GU r_OW r_DX r_GG r_HA r_RGc (show (m 94 58).toInt = 0 ∨ (m 94 10).toInt = 5 from by omega)
    · skip
      have g97 := i_nle h10
      have hV98 : zV (ma_u m 94 0 (1 : Int32)) := uf_94_0 hV
      exact K ((0 : Int32)) _ (zF_u zF_rfl rfl) hV98 r_W r_GW r_GU r_OW r_DX r_GG r_HA r_RGc (show (m 94 58).toInt = 0 ∨ (m 94 10).toInt = 5 from by omega)

