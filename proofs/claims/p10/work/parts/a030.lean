/-! from 95.l04 -/
/-! the reference where it sweeps (written by wip/tools/gen20r.py) -/
theorem sp_244r0 {X : Nat × (Nat → Int32)} {P : Option ma_V → (Nat → Nat → Int32) → Prop} {T : Nat} {aa : Nat→Nat→Int32} {m : Nat → Nat → Int32} (ob : Int32) (ix : Int32) (va : Int32) (hV : zV m) (hpre0 : T ≤ 512) (r_W : zW (m 94 7) (m 98) (m 101) (m 102) (m 108)) (r_GW : zGW T (m 94 55) (m 109)) (r_GU : zGU T (m 94 46) (m 99)) (r_OW : zOw (m 99) (m 103) (m 111)) (r_GG : zGG (m 94 58) (m 94 56) (m 94 57) (m 106)) (hpre6 : (m 94 10).toInt = 0 ∧ (m 94 58).toInt = 0) (hpre7 : (m 94 8).toInt = 1) (r_RB : qRB (m 99) (m 100) (m 98) (m 101) (m 102) (m 103) (m 107) (m 108) (m 109) (m 111) (m 112) (m 113) (m 114) (m 94 55) (m 94 46) (m 94 11) (m 94 12) (m 94 62) (m 94 17) (m 94 9) aa) (r_QI : qI aa) (r_MG : qMG (m 94 58) (m 106) (m 115) (m 94 57) (m 94 56) (m 99) (m 100) aa) (r_MK : aa 87 8 = (m 94 58)) (r_WTS : (m 94 45).toInt = sm (zbU (m 99)) (m 102) 3100) (KZ : ∀ v m₉, zV (zov wr_244 m m₉) → (zW (m 94 7) (m 98) (m 101) (m 102) (m₉ 108)) → (zGW T (m 94 55) (m 109)) → (zGU T (m 94 46) (m 99)) → (zOw (m 99) (m 103) (m 111)) → (zGG (m 94 58) (m 94 56) (m 94 57) (m 106)) → (qRB (m 99) (m 100) (m 98) (m 101) (m 102) (m 103) (m 107) (m₉ 108) (m 109) (m 111) (m 112) (m 113) (m 114) (m 94 55) (m 94 46) (m 94 11) (m 94 12) (m 94 62) (m 94 17) (m 94 9) (xPu aa ob ix va)) → (qI (xPu aa ob ix va)) → (qMG (m 94 58) (m 106) (m 115) (m 94 57) (m 94 56) (m 99) (m 100) (xPu aa ob ix va)) → ((xPu aa ob ix va) 87 8 = (m 94 58)) → ((m 94 45).toInt = sm (zbU (m 99)) (m 102) 3100) → P (some (.inl v)) (zov wr_244 m m₉)) : zm X 5 109 244 0 [(0, .inr (.inr (some 94))), (1, .inl ob), (2, .inl ix), (3, .inl va)] m P := by
  have K : ∀ v m₉, zF wr_244 m m₉ → zV m₉ → (zW (m₉ 94 7) (m₉ 98) (m₉ 101) (m₉ 102) (m₉ 108)) → (zGW T (m₉ 94 55) (m₉ 109)) → (zGU T (m₉ 94 46) (m₉ 99)) → (zOw (m₉ 99) (m₉ 103) (m₉ 111)) → (zGG (m₉ 94 58) (m₉ 94 56) (m₉ 94 57) (m₉ 106)) → (qRB (m₉ 99) (m₉ 100) (m₉ 98) (m₉ 101) (m₉ 102) (m₉ 103) (m₉ 107) (m₉ 108) (m₉ 109) (m₉ 111) (m₉ 112) (m₉ 113) (m₉ 114) (m₉ 94 55) (m₉ 94 46) (m₉ 94 11) (m₉ 94 12) (m₉ 94 62) (m₉ 94 17) (m₉ 94 9) (xPu aa ob ix va)) → (qI (xPu aa ob ix va)) → (qMG (m₉ 94 58) (m₉ 106) (m₉ 115) (m₉ 94 57) (m₉ 94 56) (m₉ 99) (m₉ 100) (xPu aa ob ix va)) → ((xPu aa ob ix va) 87 8 = (m₉ 94 58)) → ((m₉ 94 45).toInt = sm (zbU (m₉ 99)) (m₉ 102) 3100) → P (some (.inl v)) m₉ := by
    intro v m₉ hf z q0 q1 q2 q3 q4 q5 q6 q7 q8 q9
    have e := zov_eq hf
    rw [e] at z ⊢
    try rw [e] at q0
    try rw [e] at q1
    try rw [e] at q2
    try rw [e] at q3
    try rw [e] at q4
    try rw [e] at q5
    try rw [e] at q6
    try rw [e] at q7
    try rw [e] at q8
    try rw [e] at q9
    exact KZ v m₉ z q0 q1 q2 q3 q4 q5 q6 q7 q8 q9
  refine g_244_0 ob ix va ?_
  have f1 : 0 ≤ (m 94 10).toInt ∧ (m 94 10).toInt ≤ 6 := rs_94_10 (m := m) hV
  have f2 : 0 ≤ (m 94 58).toInt ∧ (m 94 58).toInt ≤ 1 := rs_94_58 (m := m) hV
  have f3 : 0 ≤ (m 94 8).toInt ∧ (m 94 8).toInt ≤ 1 := rs_94_8 (m := m) hV
  have li4 : (0 : Int32).toInt = 0 := rfl
  refine zd (fun (h5 : (m 94 8) = (0 : Int32)) => ?_) (fun (h5 : ¬ (m 94 8) = (0 : Int32)) => ?_)
  · skip
    have g6 := i_eq h5
    exfalso; omega
  · skip
    have g7 := i_ne h5
    have b8 := i_bd ob
    have hV9 : zV (ma_u m 94 0 (0 : Int32)) := uf_94_0 hV
    refine sp_245r (aa := aa) (ob) hV9 r_W r_RB r_QI (fun v2 m1 hV_m1 p0_m1 p1_m1 p2_m1 => zmi_n ?_)
    have p0_m1 : -1 ≤ v2.toInt ∧ v2.toInt ≤ 3099 := p0_m1
    have p1_m1 : v2.toInt < 0 ∨ (m 99) v2.toNatClampNeg ≠ 0 := p1_m1
    have p2_m1 : qRe (m 99) (m 100) aa ob v2 := p2_m1
    have b10 := i_bd v2
    refine zd (fun (h11 : (0 : Int32) ≤ v2) => ?_) (fun (h11 : ¬ (0 : Int32) ≤ v2) => ?_)
    · skip
      have g12 := i_le h11
      have b13 := i_bd ix
      refine zd (fun (h14 : ix < (0 : Int32)) => ?_) (fun (h14 : ¬ ix < (0 : Int32)) => ?_)
      · skip
        have g15 := i_lt h14
        have hV16 : zV (ma_u (zov wr_245 (ma_u m 94 0 (0 : Int32)) m1) 94 0 (3 : Int32)) := uf_94_0 hV_m1
        exact K ((0 : Int32)) _ (zF_u (zF_zov (zF_u zF_rfl rfl) ws_245_244) rfl) hV16 r_W r_GW r_GU r_OW r_GG (show qRB (m 99) (m 100) (m 98) (m 101) (m 102) (m 103) (m 107) (m 108) (m 109) (m 111) (m 112) (m 113) (m 114) (m 94 55) (m 94 46) (m 94 11) (m 94 12) (m 94 62) (m 94 17) (m 94 9) (xPu aa ob ix va) from by first | (unfold xPu; rw [qIf_n (show ¬ (zRq aa ob ∧ zHw aa ob ix ∧ ¬ zIr aa ob ix) from fun w => Re_n p2_m1 (by omega) w.1)]; exact r_RB; done) | (unfold xPu; rw [qIf_n (show ¬ (zRq aa ob ∧ zHw aa ob ix ∧ ¬ zIr aa ob ix) from fun w => by have w2 := (Hw_y r_RB p2_m1 (by omega)).mp w.2.1; omega)]; exact r_RB; done) | (unfold xPu; rw [qIf_n (show ¬ (zRq aa ob ∧ zHw aa ob ix ∧ ¬ zIr aa ob ix) from fun w => w.2.2 ((Ir_y r_RB p2_m1 (by omega) (by omega) (by omega)).mpr (Or.inl (by assumption))))]; exact r_RB; done) | (unfold xPu; rw [qIf_n (show ¬ (zRq aa ob ∧ zHw aa ob ix ∧ ¬ zIr aa ob ix) from fun w => w.2.2 ((Ir_y r_RB p2_m1 (by omega) (by omega) (by omega)).mpr (Or.inr ⟨Int32.lt_iff_toInt_lt.mpr (by omega), by assumption⟩)))]; exact r_RB; done) | (exfalso; omega; done) | (exfalso; contradiction; done)) (show qI (xPu aa ob ix va) from by first | (unfold xPu; rw [qIf_n (show ¬ (zRq aa ob ∧ zHw aa ob ix ∧ ¬ zIr aa ob ix) from fun w => Re_n p2_m1 (by omega) w.1)]; exact r_QI; done) | (unfold xPu; rw [qIf_n (show ¬ (zRq aa ob ∧ zHw aa ob ix ∧ ¬ zIr aa ob ix) from fun w => by have w2 := (Hw_y r_RB p2_m1 (by omega)).mp w.2.1; omega)]; exact r_QI; done) | (unfold xPu; rw [qIf_n (show ¬ (zRq aa ob ∧ zHw aa ob ix ∧ ¬ zIr aa ob ix) from fun w => w.2.2 ((Ir_y r_RB p2_m1 (by omega) (by omega) (by omega)).mpr (Or.inl (by assumption))))]; exact r_QI; done) | (unfold xPu; rw [qIf_n (show ¬ (zRq aa ob ∧ zHw aa ob ix ∧ ¬ zIr aa ob ix) from fun w => w.2.2 ((Ir_y r_RB p2_m1 (by omega) (by omega) (by omega)).mpr (Or.inr ⟨Int32.lt_iff_toInt_lt.mpr (by omega), by assumption⟩)))]; exact r_QI; done) | (exfalso; omega; done) | (exfalso; contradiction; done)) (show qMG (m 94 58) (m 106) (m 115) (m 94 57) (m 94 56) (m 99) (m 100) (xPu aa ob ix va) from by first | (unfold xPu; rw [qIf_n (show ¬ (zRq aa ob ∧ zHw aa ob ix ∧ ¬ zIr aa ob ix) from fun w => Re_n p2_m1 (by omega) w.1)]; exact r_MG; done) | (unfold xPu; rw [qIf_n (show ¬ (zRq aa ob ∧ zHw aa ob ix ∧ ¬ zIr aa ob ix) from fun w => by have w2 := (Hw_y r_RB p2_m1 (by omega)).mp w.2.1; omega)]; exact r_MG; done) | (unfold xPu; rw [qIf_n (show ¬ (zRq aa ob ∧ zHw aa ob ix ∧ ¬ zIr aa ob ix) from fun w => w.2.2 ((Ir_y r_RB p2_m1 (by omega) (by omega) (by omega)).mpr (Or.inl (by assumption))))]; exact r_MG; done) | (unfold xPu; rw [qIf_n (show ¬ (zRq aa ob ∧ zHw aa ob ix ∧ ¬ zIr aa ob ix) from fun w => w.2.2 ((Ir_y r_RB p2_m1 (by omega) (by omega) (by omega)).mpr (Or.inr ⟨Int32.lt_iff_toInt_lt.mpr (by omega), by assumption⟩)))]; exact r_MG; done) | (exfalso; omega; done) | (exfalso; contradiction; done)) (show (xPu aa ob ix va) 87 8 = (m 94 58) from by first | (unfold xPu; rw [qIf_n (show ¬ (zRq aa ob ∧ zHw aa ob ix ∧ ¬ zIr aa ob ix) from fun w => Re_n p2_m1 (by omega) w.1)]; exact r_MK; done) | (unfold xPu; rw [qIf_n (show ¬ (zRq aa ob ∧ zHw aa ob ix ∧ ¬ zIr aa ob ix) from fun w => by have w2 := (Hw_y r_RB p2_m1 (by omega)).mp w.2.1; omega)]; exact r_MK; done) | (unfold xPu; rw [qIf_n (show ¬ (zRq aa ob ∧ zHw aa ob ix ∧ ¬ zIr aa ob ix) from fun w => w.2.2 ((Ir_y r_RB p2_m1 (by omega) (by omega) (by omega)).mpr (Or.inl (by assumption))))]; exact r_MK; done) | (unfold xPu; rw [qIf_n (show ¬ (zRq aa ob ∧ zHw aa ob ix ∧ ¬ zIr aa ob ix) from fun w => w.2.2 ((Ir_y r_RB p2_m1 (by omega) (by omega) (by omega)).mpr (Or.inr ⟨Int32.lt_iff_toInt_lt.mpr (by omega), by assumption⟩)))]; exact r_MK; done) | (exfalso; omega; done) | (exfalso; contradiction; done)) r_WTS
      · skip
        have g17 := i_nlt h14
        have hg18 : (0 ≤ v2 ∧ v2.toNatClampNeg < 3100) := i_ix (by omega) (by omega)
        refine ⟨hg18, ?_⟩
        first | have f19 : 0 ≤ (m 102 v2.toNatClampNeg).toInt ∧ (m 102 v2.toNatClampNeg).toInt ≤ 60 := ra_102 (m := m) hV (k := v2.toNatClampNeg) (i_ix (n := 3100) (by omega) (by omega)).2 | have b20 := i_bd (m 102 v2.toNatClampNeg)
        refine zd (fun (h21 : ix < (m 102 v2.toNatClampNeg)) => ?_) (fun (h21 : ¬ ix < (m 102 v2.toNatClampNeg)) => ?_)
        · skip
          have g22 := i_lt h21
          have hg23 : (0 ≤ v2 ∧ v2.toNatClampNeg < 3100) := i_ix (by omega) (by omega)
          refine ⟨hg23, ?_⟩
          first | have f24 : 0 ≤ (m 101 v2.toNatClampNeg).toInt ∧ (m 101 v2.toNatClampNeg).toInt ≤ 17 := ra_101 (m := m) hV (k := v2.toNatClampNeg) (i_ix (n := 3100) (by omega) (by omega)).2 | have b25 := i_bd (m 101 v2.toNatClampNeg)
          have li26 : (16 : Int32).toInt = 16 := rfl
          refine zd (fun (h27 : (m 101 v2.toNatClampNeg) = (16 : Int32)) => ?_) (fun (h27 : ¬ (m 101 v2.toNatClampNeg) = (16 : Int32)) => ?_)
          · skip
            have g28 := i_eq h27
            have hV29 : zV (ma_u (zov wr_245 (ma_u m 94 0 (0 : Int32)) m1) 94 0 (4 : Int32)) := uf_94_0 hV_m1
            exact K ((0 : Int32)) _ (zF_u (zF_zov (zF_u zF_rfl rfl) ws_245_244) rfl) hV29 r_W r_GW r_GU r_OW r_GG (show qRB (m 99) (m 100) (m 98) (m 101) (m 102) (m 103) (m 107) (m 108) (m 109) (m 111) (m 112) (m 113) (m 114) (m 94 55) (m 94 46) (m 94 11) (m 94 12) (m 94 62) (m 94 17) (m 94 9) (xPu aa ob ix va) from by first | (unfold xPu; rw [qIf_n (show ¬ (zRq aa ob ∧ zHw aa ob ix ∧ ¬ zIr aa ob ix) from fun w => Re_n p2_m1 (by omega) w.1)]; exact r_RB; done) | (unfold xPu; rw [qIf_n (show ¬ (zRq aa ob ∧ zHw aa ob ix ∧ ¬ zIr aa ob ix) from fun w => by have w2 := (Hw_y r_RB p2_m1 (by omega)).mp w.2.1; omega)]; exact r_RB; done) | (unfold xPu; rw [qIf_n (show ¬ (zRq aa ob ∧ zHw aa ob ix ∧ ¬ zIr aa ob ix) from fun w => w.2.2 ((Ir_y r_RB p2_m1 (by omega) (by omega) (by omega)).mpr (Or.inl (by assumption))))]; exact r_RB; done) | (unfold xPu; rw [qIf_n (show ¬ (zRq aa ob ∧ zHw aa ob ix ∧ ¬ zIr aa ob ix) from fun w => w.2.2 ((Ir_y r_RB p2_m1 (by omega) (by omega) (by omega)).mpr (Or.inr ⟨Int32.lt_iff_toInt_lt.mpr (by omega), by assumption⟩)))]; exact r_RB; done) | (exfalso; omega; done) | (exfalso; contradiction; done)) (show qI (xPu aa ob ix va) from by first | (unfold xPu; rw [qIf_n (show ¬ (zRq aa ob ∧ zHw aa ob ix ∧ ¬ zIr aa ob ix) from fun w => Re_n p2_m1 (by omega) w.1)]; exact r_QI; done) | (unfold xPu; rw [qIf_n (show ¬ (zRq aa ob ∧ zHw aa ob ix ∧ ¬ zIr aa ob ix) from fun w => by have w2 := (Hw_y r_RB p2_m1 (by omega)).mp w.2.1; omega)]; exact r_QI; done) | (unfold xPu; rw [qIf_n (show ¬ (zRq aa ob ∧ zHw aa ob ix ∧ ¬ zIr aa ob ix) from fun w => w.2.2 ((Ir_y r_RB p2_m1 (by omega) (by omega) (by omega)).mpr (Or.inl (by assumption))))]; exact r_QI; done) | (unfold xPu; rw [qIf_n (show ¬ (zRq aa ob ∧ zHw aa ob ix ∧ ¬ zIr aa ob ix) from fun w => w.2.2 ((Ir_y r_RB p2_m1 (by omega) (by omega) (by omega)).mpr (Or.inr ⟨Int32.lt_iff_toInt_lt.mpr (by omega), by assumption⟩)))]; exact r_QI; done) | (exfalso; omega; done) | (exfalso; contradiction; done)) (show qMG (m 94 58) (m 106) (m 115) (m 94 57) (m 94 56) (m 99) (m 100) (xPu aa ob ix va) from by first | (unfold xPu; rw [qIf_n (show ¬ (zRq aa ob ∧ zHw aa ob ix ∧ ¬ zIr aa ob ix) from fun w => Re_n p2_m1 (by omega) w.1)]; exact r_MG; done) | (unfold xPu; rw [qIf_n (show ¬ (zRq aa ob ∧ zHw aa ob ix ∧ ¬ zIr aa ob ix) from fun w => by have w2 := (Hw_y r_RB p2_m1 (by omega)).mp w.2.1; omega)]; exact r_MG; done) | (unfold xPu; rw [qIf_n (show ¬ (zRq aa ob ∧ zHw aa ob ix ∧ ¬ zIr aa ob ix) from fun w => w.2.2 ((Ir_y r_RB p2_m1 (by omega) (by omega) (by omega)).mpr (Or.inl (by assumption))))]; exact r_MG; done) | (unfold xPu; rw [qIf_n (show ¬ (zRq aa ob ∧ zHw aa ob ix ∧ ¬ zIr aa ob ix) from fun w => w.2.2 ((Ir_y r_RB p2_m1 (by omega) (by omega) (by omega)).mpr (Or.inr ⟨Int32.lt_iff_toInt_lt.mpr (by omega), by assumption⟩)))]; exact r_MG; done) | (exfalso; omega; done) | (exfalso; contradiction; done)) (show (xPu aa ob ix va) 87 8 = (m 94 58) from by first | (unfold xPu; rw [qIf_n (show ¬ (zRq aa ob ∧ zHw aa ob ix ∧ ¬ zIr aa ob ix) from fun w => Re_n p2_m1 (by omega) w.1)]; exact r_MK; done) | (unfold xPu; rw [qIf_n (show ¬ (zRq aa ob ∧ zHw aa ob ix ∧ ¬ zIr aa ob ix) from fun w => by have w2 := (Hw_y r_RB p2_m1 (by omega)).mp w.2.1; omega)]; exact r_MK; done) | (unfold xPu; rw [qIf_n (show ¬ (zRq aa ob ∧ zHw aa ob ix ∧ ¬ zIr aa ob ix) from fun w => w.2.2 ((Ir_y r_RB p2_m1 (by omega) (by omega) (by omega)).mpr (Or.inl (by assumption))))]; exact r_MK; done) | (unfold xPu; rw [qIf_n (show ¬ (zRq aa ob ∧ zHw aa ob ix ∧ ¬ zIr aa ob ix) from fun w => w.2.2 ((Ir_y r_RB p2_m1 (by omega) (by omega) (by omega)).mpr (Or.inr ⟨Int32.lt_iff_toInt_lt.mpr (by omega), by assumption⟩)))]; exact r_MK; done) | (exfalso; omega; done) | (exfalso; contradiction; done)) r_WTS
          · skip
            have g30 := i_ne h27
            have hg31 : (0 ≤ v2 ∧ v2.toNatClampNeg < 3100) := i_ix (by omega) (by omega)
            refine ⟨hg31, ?_⟩
            refine zd (fun (h32 : (16 : Int32) ≤ (m 101 v2.toNatClampNeg)) => ?_) (fun (h32 : ¬ (16 : Int32) ≤ (m 101 v2.toNatClampNeg)) => ?_)
            · skip
              have g33 := i_le h32
              have li34 : (60 : Int32).toInt = 60 := rfl
              first | have e35 : (v2 * (60 : Int32)).toInt = v2.toInt * 60 := i_mulk rfl (by omega) (by omega) | have b36 := i_bd (v2 * (60 : Int32))
              first | have e37 : ((v2 * (60 : Int32)) + ix).toInt = (v2 * (60 : Int32)).toInt + ix.toInt := i_add (by omega) (by omega) | have b38 := i_bd ((v2 * (60 : Int32)) + ix)
              have hg39 : (0 ≤ ((v2 * (60 : Int32)) + ix) ∧ ((v2 * (60 : Int32)) + ix).toNatClampNeg < 186000) := i_ix (by omega) (by omega)
              refine ⟨hg39, ?_⟩
              have hg40 : (0 ≤ ((v2 * (60 : Int32)) + ix) ∧ ((v2 * (60 : Int32)) + ix).toNatClampNeg < 186000) := i_ix (by omega) (by omega)
              refine ⟨hg40, ?_⟩
              have hV41 : zV (ma_u (zov wr_245 (ma_u m 94 0 (0 : Int32)) m1) 94 0 (0 : Int32)) := uf_94_0 hV_m1
              have hV42 : zV (ma_u (ma_u (zov wr_245 (ma_u m 94 0 (0 : Int32)) m1) 94 0 (0 : Int32)) 108 ((v2 * (60 : Int32)) + ix).toNatClampNeg va) := ua_108 hV41
              have b43 := i_bd (m 108 ((v2 * (60 : Int32)) + ix).toNatClampNeg)
              exact K ((m 108 ((v2 * (60 : Int32)) + ix).toNatClampNeg)) _ (zF_u (zF_u (zF_zov (zF_u zF_rfl rfl) ws_245_244) rfl) rfl) hV42 (show zW (m 94 7) (m 98) (m 101) (m 102) ((ma_u m 108 ((v2 * (60 : Int32)) + ix).toNatClampNeg va) 108) from by first | (exact W_same r_W (by omega) (fun s2 i2 hs2 hi2 => zrf_put (by omega) (by omega) (by omega) (by omega) (by assumption) (fun z => by first | exact absurd (Int32.lt_iff_toInt_lt.mp z.1) (by omega) | exact absurd z.2 (by assumption)) s2 i2 (by have := (ra_102 hV hs2).2; omega))) | (exfalso; omega; done) | (exfalso; contradiction; done)) r_GW r_GU r_OW r_GG (show qRB (m 99) (m 100) (m 98) (m 101) (m 102) (m 103) (m 107) ((ma_u m 108 ((v2 * (60 : Int32)) + ix).toNatClampNeg va) 108) (m 109) (m 111) (m 112) (m 113) (m 114) (m 94 55) (m 94 46) (m 94 11) (m 94 12) (m 94 62) (m 94 17) (m 94 9) (xPu aa ob ix va) from by first | (unfold xPu; rw [qIf_y (show zRq aa ob ∧ zHw aa ob ix ∧ ¬ zIr aa ob ix from ⟨(Re_y p2_m1 (by omega)).2.2.2, (Hw_y r_RB p2_m1 (by omega)).mpr ⟨by omega, by omega⟩, fun w => ((Ir_y r_RB p2_m1 (by omega) (by omega) (by omega)).mp w).elim (fun z => absurd z (by assumption)) (fun z => by first | exact absurd (Int32.lt_iff_toInt_lt.mp z.1) (by omega) | exact absurd z.2 (by assumption))⟩)]; exact (RB_pu (x := va) r_RB r_QI (s := v2) (by omega) (by omega) (Re_y p2_m1 (by omega)).2.1 (i := ix) (by omega) (by omega) (by assumption) (fun z => by first | exact absurd (Int32.lt_iff_toInt_lt.mp z.1) (by omega) | exact absurd z.2 (by assumption)) (Re_y p2_m1 (by omega)).2.2.1).1; done) | (exfalso; omega; done) | (exfalso; contradiction; done)) (show qI (xPu aa ob ix va) from by first | (unfold xPu; rw [qIf_y (show zRq aa ob ∧ zHw aa ob ix ∧ ¬ zIr aa ob ix from ⟨(Re_y p2_m1 (by omega)).2.2.2, (Hw_y r_RB p2_m1 (by omega)).mpr ⟨by omega, by omega⟩, fun w => ((Ir_y r_RB p2_m1 (by omega) (by omega) (by omega)).mp w).elim (fun z => absurd z (by assumption)) (fun z => by first | exact absurd (Int32.lt_iff_toInt_lt.mp z.1) (by omega) | exact absurd z.2 (by assumption))⟩)]; have pw := (RB_pu (x := va) r_RB r_QI (s := v2) (by omega) (by omega) (Re_y p2_m1 (by omega)).2.1 (i := ix) (by omega) (by omega) (by assumption) (fun z => by first | exact absurd (Int32.lt_iff_toInt_lt.mp z.1) (by omega) | exact absurd z.2 (by assumption)) (Re_y p2_m1 (by omega)).2.2.1); rw [Ci_eq r_QI pw.2.2]; exact I_w r_QI pw.2.2; done) | (exfalso; omega; done) | (exfalso; contradiction; done)) (show qMG (m 94 58) (m 106) (m 115) (m 94 57) (m 94 56) (m 99) (m 100) (xPu aa ob ix va) from by first | (unfold xPu; rw [qIf_y (show zRq aa ob ∧ zHw aa ob ix ∧ ¬ zIr aa ob ix from ⟨(Re_y p2_m1 (by omega)).2.2.2, (Hw_y r_RB p2_m1 (by omega)).mpr ⟨by omega, by omega⟩, fun w => ((Ir_y r_RB p2_m1 (by omega) (by omega) (by omega)).mp w).elim (fun z => absurd z (by assumption)) (fun z => by first | exact absurd (Int32.lt_iff_toInt_lt.mp z.1) (by omega) | exact absurd z.2 (by assumption))⟩)]; have pw := (RB_pu (x := va) r_RB r_QI (s := v2) (by omega) (by omega) (Re_y p2_m1 (by omega)).2.1 (i := ix) (by omega) (by omega) (by assumption) (fun z => by first | exact absurd (Int32.lt_iff_toInt_lt.mp z.1) (by omega) | exact absurd z.2 (by assumption)) (Re_y p2_m1 (by omega)).2.2.1); exact fun z => ⟨by rw [Ci_eq r_QI pw.2.2]; exact MQ_71 (r_MG z).1, MI_pu (r_MG z).2 r_QI pw.2.2 pw.2.1⟩; done) | (exfalso; omega; done) | (exfalso; contradiction; done)) (show (xPu aa ob ix va) 87 8 = (m 94 58) from by first | (unfold xPu; rw [qIf_y (show zRq aa ob ∧ zHw aa ob ix ∧ ¬ zIr aa ob ix from ⟨(Re_y p2_m1 (by omega)).2.2.2, (Hw_y r_RB p2_m1 (by omega)).mpr ⟨by omega, by omega⟩, fun w => ((Ir_y r_RB p2_m1 (by omega) (by omega) (by omega)).mp w).elim (fun z => absurd z (by assumption)) (fun z => by first | exact absurd (Int32.lt_iff_toInt_lt.mp z.1) (by omega) | exact absurd z.2 (by assumption))⟩)]; have pw := (RB_pu (x := va) r_RB r_QI (s := v2) (by omega) (by omega) (Re_y p2_m1 (by omega)).2.1 (i := ix) (by omega) (by omega) (by assumption) (fun z => by first | exact absurd (Int32.lt_iff_toInt_lt.mp z.1) (by omega) | exact absurd z.2 (by assumption)) (Re_y p2_m1 (by omega)).2.2.1); rw [Ci_eq r_QI pw.2.2, un (by decide)]; exact r_MK; done) | (exfalso; omega; done) | (exfalso; contradiction; done)) r_WTS
            · skip
              have g44 := i_nle h32
              have hg45 : (0 ≤ v2 ∧ v2.toNatClampNeg < 3100) := i_ix (by omega) (by omega)
              refine ⟨hg45, ?_⟩
              have hg46 : (0 ≤ (m 101 v2.toNatClampNeg) ∧ (m 101 v2.toNatClampNeg).toNatClampNeg < 16) := i_ix (by omega) (by omega)
              refine ⟨hg46, ?_⟩
              have b47 := i_bd (((m 98 (m 101 v2.toNatClampNeg).toNatClampNeg) >>> (ix &&& 31)) &&& (1 : Int32))
              have li48 : (1 : Int32).toInt = 1 := rfl
              refine zd (fun (h49 : (((m 98 (m 101 v2.toNatClampNeg).toNatClampNeg) >>> (ix &&& 31)) &&& (1 : Int32)) = (1 : Int32)) => ?_) (fun (h49 : ¬ (((m 98 (m 101 v2.toNatClampNeg).toNatClampNeg) >>> (ix &&& 31)) &&& (1 : Int32)) = (1 : Int32)) => ?_)
              · skip
                have g50 := i_eq h49
                have hV51 : zV (ma_u (zov wr_245 (ma_u m 94 0 (0 : Int32)) m1) 94 0 (4 : Int32)) := uf_94_0 hV_m1
                exact K ((0 : Int32)) _ (zF_u (zF_zov (zF_u zF_rfl rfl) ws_245_244) rfl) hV51 r_W r_GW r_GU r_OW r_GG (show qRB (m 99) (m 100) (m 98) (m 101) (m 102) (m 103) (m 107) (m 108) (m 109) (m 111) (m 112) (m 113) (m 114) (m 94 55) (m 94 46) (m 94 11) (m 94 12) (m 94 62) (m 94 17) (m 94 9) (xPu aa ob ix va) from by first | (unfold xPu; rw [qIf_n (show ¬ (zRq aa ob ∧ zHw aa ob ix ∧ ¬ zIr aa ob ix) from fun w => Re_n p2_m1 (by omega) w.1)]; exact r_RB; done) | (unfold xPu; rw [qIf_n (show ¬ (zRq aa ob ∧ zHw aa ob ix ∧ ¬ zIr aa ob ix) from fun w => by have w2 := (Hw_y r_RB p2_m1 (by omega)).mp w.2.1; omega)]; exact r_RB; done) | (unfold xPu; rw [qIf_n (show ¬ (zRq aa ob ∧ zHw aa ob ix ∧ ¬ zIr aa ob ix) from fun w => w.2.2 ((Ir_y r_RB p2_m1 (by omega) (by omega) (by omega)).mpr (Or.inl (by assumption))))]; exact r_RB; done) | (unfold xPu; rw [qIf_n (show ¬ (zRq aa ob ∧ zHw aa ob ix ∧ ¬ zIr aa ob ix) from fun w => w.2.2 ((Ir_y r_RB p2_m1 (by omega) (by omega) (by omega)).mpr (Or.inr ⟨Int32.lt_iff_toInt_lt.mpr (by omega), by assumption⟩)))]; exact r_RB; done) | (exfalso; omega; done) | (exfalso; contradiction; done)) (show qI (xPu aa ob ix va) from by first | (unfold xPu; rw [qIf_n (show ¬ (zRq aa ob ∧ zHw aa ob ix ∧ ¬ zIr aa ob ix) from fun w => Re_n p2_m1 (by omega) w.1)]; exact r_QI; done) | (unfold xPu; rw [qIf_n (show ¬ (zRq aa ob ∧ zHw aa ob ix ∧ ¬ zIr aa ob ix) from fun w => by have w2 := (Hw_y r_RB p2_m1 (by omega)).mp w.2.1; omega)]; exact r_QI; done) | (unfold xPu; rw [qIf_n (show ¬ (zRq aa ob ∧ zHw aa ob ix ∧ ¬ zIr aa ob ix) from fun w => w.2.2 ((Ir_y r_RB p2_m1 (by omega) (by omega) (by omega)).mpr (Or.inl (by assumption))))]; exact r_QI; done) | (unfold xPu; rw [qIf_n (show ¬ (zRq aa ob ∧ zHw aa ob ix ∧ ¬ zIr aa ob ix) from fun w => w.2.2 ((Ir_y r_RB p2_m1 (by omega) (by omega) (by omega)).mpr (Or.inr ⟨Int32.lt_iff_toInt_lt.mpr (by omega), by assumption⟩)))]; exact r_QI; done) | (exfalso; omega; done) | (exfalso; contradiction; done)) (show qMG (m 94 58) (m 106) (m 115) (m 94 57) (m 94 56) (m 99) (m 100) (xPu aa ob ix va) from by first | (unfold xPu; rw [qIf_n (show ¬ (zRq aa ob ∧ zHw aa ob ix ∧ ¬ zIr aa ob ix) from fun w => Re_n p2_m1 (by omega) w.1)]; exact r_MG; done) | (unfold xPu; rw [qIf_n (show ¬ (zRq aa ob ∧ zHw aa ob ix ∧ ¬ zIr aa ob ix) from fun w => by have w2 := (Hw_y r_RB p2_m1 (by omega)).mp w.2.1; omega)]; exact r_MG; done) | (unfold xPu; rw [qIf_n (show ¬ (zRq aa ob ∧ zHw aa ob ix ∧ ¬ zIr aa ob ix) from fun w => w.2.2 ((Ir_y r_RB p2_m1 (by omega) (by omega) (by omega)).mpr (Or.inl (by assumption))))]; exact r_MG; done) | (unfold xPu; rw [qIf_n (show ¬ (zRq aa ob ∧ zHw aa ob ix ∧ ¬ zIr aa ob ix) from fun w => w.2.2 ((Ir_y r_RB p2_m1 (by omega) (by omega) (by omega)).mpr (Or.inr ⟨Int32.lt_iff_toInt_lt.mpr (by omega), by assumption⟩)))]; exact r_MG; done) | (exfalso; omega; done) | (exfalso; contradiction; done)) (show (xPu aa ob ix va) 87 8 = (m 94 58) from by first | (unfold xPu; rw [qIf_n (show ¬ (zRq aa ob ∧ zHw aa ob ix ∧ ¬ zIr aa ob ix) from fun w => Re_n p2_m1 (by omega) w.1)]; exact r_MK; done) | (unfold xPu; rw [qIf_n (show ¬ (zRq aa ob ∧ zHw aa ob ix ∧ ¬ zIr aa ob ix) from fun w => by have w2 := (Hw_y r_RB p2_m1 (by omega)).mp w.2.1; omega)]; exact r_MK; done) | (unfold xPu; rw [qIf_n (show ¬ (zRq aa ob ∧ zHw aa ob ix ∧ ¬ zIr aa ob ix) from fun w => w.2.2 ((Ir_y r_RB p2_m1 (by omega) (by omega) (by omega)).mpr (Or.inl (by assumption))))]; exact r_MK; done) | (unfold xPu; rw [qIf_n (show ¬ (zRq aa ob ∧ zHw aa ob ix ∧ ¬ zIr aa ob ix) from fun w => w.2.2 ((Ir_y r_RB p2_m1 (by omega) (by omega) (by omega)).mpr (Or.inr ⟨Int32.lt_iff_toInt_lt.mpr (by omega), by assumption⟩)))]; exact r_MK; done) | (exfalso; omega; done) | (exfalso; contradiction; done)) r_WTS
              · skip
                have g52 := i_ne h49
                have li53 : (60 : Int32).toInt = 60 := rfl
                first | have e54 : (v2 * (60 : Int32)).toInt = v2.toInt * 60 := i_mulk rfl (by omega) (by omega) | have b55 := i_bd (v2 * (60 : Int32))
                first | have e56 : ((v2 * (60 : Int32)) + ix).toInt = (v2 * (60 : Int32)).toInt + ix.toInt := i_add (by omega) (by omega) | have b57 := i_bd ((v2 * (60 : Int32)) + ix)
                have hg58 : (0 ≤ ((v2 * (60 : Int32)) + ix) ∧ ((v2 * (60 : Int32)) + ix).toNatClampNeg < 186000) := i_ix (by omega) (by omega)
                refine ⟨hg58, ?_⟩
                have hg59 : (0 ≤ ((v2 * (60 : Int32)) + ix) ∧ ((v2 * (60 : Int32)) + ix).toNatClampNeg < 186000) := i_ix (by omega) (by omega)
                refine ⟨hg59, ?_⟩
                have hV60 : zV (ma_u (zov wr_245 (ma_u m 94 0 (0 : Int32)) m1) 94 0 (0 : Int32)) := uf_94_0 hV_m1
                have hV61 : zV (ma_u (ma_u (zov wr_245 (ma_u m 94 0 (0 : Int32)) m1) 94 0 (0 : Int32)) 108 ((v2 * (60 : Int32)) + ix).toNatClampNeg va) := ua_108 hV60
                have b62 := i_bd (m 108 ((v2 * (60 : Int32)) + ix).toNatClampNeg)
                exact K ((m 108 ((v2 * (60 : Int32)) + ix).toNatClampNeg)) _ (zF_u (zF_u (zF_zov (zF_u zF_rfl rfl) ws_245_244) rfl) rfl) hV61 (show zW (m 94 7) (m 98) (m 101) (m 102) ((ma_u m 108 ((v2 * (60 : Int32)) + ix).toNatClampNeg va) 108) from by first | (exact W_same r_W (by omega) (fun s2 i2 hs2 hi2 => zrf_put (by omega) (by omega) (by omega) (by omega) (by assumption) (fun z => by first | exact absurd (Int32.lt_iff_toInt_lt.mp z.1) (by omega) | exact absurd z.2 (by assumption)) s2 i2 (by have := (ra_102 hV hs2).2; omega))) | (exfalso; omega; done) | (exfalso; contradiction; done)) r_GW r_GU r_OW r_GG (show qRB (m 99) (m 100) (m 98) (m 101) (m 102) (m 103) (m 107) ((ma_u m 108 ((v2 * (60 : Int32)) + ix).toNatClampNeg va) 108) (m 109) (m 111) (m 112) (m 113) (m 114) (m 94 55) (m 94 46) (m 94 11) (m 94 12) (m 94 62) (m 94 17) (m 94 9) (xPu aa ob ix va) from by first | (unfold xPu; rw [qIf_y (show zRq aa ob ∧ zHw aa ob ix ∧ ¬ zIr aa ob ix from ⟨(Re_y p2_m1 (by omega)).2.2.2, (Hw_y r_RB p2_m1 (by omega)).mpr ⟨by omega, by omega⟩, fun w => ((Ir_y r_RB p2_m1 (by omega) (by omega) (by omega)).mp w).elim (fun z => absurd z (by assumption)) (fun z => by first | exact absurd (Int32.lt_iff_toInt_lt.mp z.1) (by omega) | exact absurd z.2 (by assumption))⟩)]; exact (RB_pu (x := va) r_RB r_QI (s := v2) (by omega) (by omega) (Re_y p2_m1 (by omega)).2.1 (i := ix) (by omega) (by omega) (by assumption) (fun z => by first | exact absurd (Int32.lt_iff_toInt_lt.mp z.1) (by omega) | exact absurd z.2 (by assumption)) (Re_y p2_m1 (by omega)).2.2.1).1; done) | (exfalso; omega; done) | (exfalso; contradiction; done)) (show qI (xPu aa ob ix va) from by first | (unfold xPu; rw [qIf_y (show zRq aa ob ∧ zHw aa ob ix ∧ ¬ zIr aa ob ix from ⟨(Re_y p2_m1 (by omega)).2.2.2, (Hw_y r_RB p2_m1 (by omega)).mpr ⟨by omega, by omega⟩, fun w => ((Ir_y r_RB p2_m1 (by omega) (by omega) (by omega)).mp w).elim (fun z => absurd z (by assumption)) (fun z => by first | exact absurd (Int32.lt_iff_toInt_lt.mp z.1) (by omega) | exact absurd z.2 (by assumption))⟩)]; have pw := (RB_pu (x := va) r_RB r_QI (s := v2) (by omega) (by omega) (Re_y p2_m1 (by omega)).2.1 (i := ix) (by omega) (by omega) (by assumption) (fun z => by first | exact absurd (Int32.lt_iff_toInt_lt.mp z.1) (by omega) | exact absurd z.2 (by assumption)) (Re_y p2_m1 (by omega)).2.2.1); rw [Ci_eq r_QI pw.2.2]; exact I_w r_QI pw.2.2; done) | (exfalso; omega; done) | (exfalso; contradiction; done)) (show qMG (m 94 58) (m 106) (m 115) (m 94 57) (m 94 56) (m 99) (m 100) (xPu aa ob ix va) from by first | (unfold xPu; rw [qIf_y (show zRq aa ob ∧ zHw aa ob ix ∧ ¬ zIr aa ob ix from ⟨(Re_y p2_m1 (by omega)).2.2.2, (Hw_y r_RB p2_m1 (by omega)).mpr ⟨by omega, by omega⟩, fun w => ((Ir_y r_RB p2_m1 (by omega) (by omega) (by omega)).mp w).elim (fun z => absurd z (by assumption)) (fun z => by first | exact absurd (Int32.lt_iff_toInt_lt.mp z.1) (by omega) | exact absurd z.2 (by assumption))⟩)]; have pw := (RB_pu (x := va) r_RB r_QI (s := v2) (by omega) (by omega) (Re_y p2_m1 (by omega)).2.1 (i := ix) (by omega) (by omega) (by assumption) (fun z => by first | exact absurd (Int32.lt_iff_toInt_lt.mp z.1) (by omega) | exact absurd z.2 (by assumption)) (Re_y p2_m1 (by omega)).2.2.1); exact fun z => ⟨by rw [Ci_eq r_QI pw.2.2]; exact MQ_71 (r_MG z).1, MI_pu (r_MG z).2 r_QI pw.2.2 pw.2.1⟩; done) | (exfalso; omega; done) | (exfalso; contradiction; done)) (show (xPu aa ob ix va) 87 8 = (m 94 58) from by first | (unfold xPu; rw [qIf_y (show zRq aa ob ∧ zHw aa ob ix ∧ ¬ zIr aa ob ix from ⟨(Re_y p2_m1 (by omega)).2.2.2, (Hw_y r_RB p2_m1 (by omega)).mpr ⟨by omega, by omega⟩, fun w => ((Ir_y r_RB p2_m1 (by omega) (by omega) (by omega)).mp w).elim (fun z => absurd z (by assumption)) (fun z => by first | exact absurd (Int32.lt_iff_toInt_lt.mp z.1) (by omega) | exact absurd z.2 (by assumption))⟩)]; have pw := (RB_pu (x := va) r_RB r_QI (s := v2) (by omega) (by omega) (Re_y p2_m1 (by omega)).2.1 (i := ix) (by omega) (by omega) (by assumption) (fun z => by first | exact absurd (Int32.lt_iff_toInt_lt.mp z.1) (by omega) | exact absurd z.2 (by assumption)) (Re_y p2_m1 (by omega)).2.2.1); rw [Ci_eq r_QI pw.2.2, un (by decide)]; exact r_MK; done) | (exfalso; omega; done) | (exfalso; contradiction; done)) r_WTS
        · skip
          have g63 := i_nlt h21
          have hV64 : zV (ma_u (zov wr_245 (ma_u m 94 0 (0 : Int32)) m1) 94 0 (3 : Int32)) := uf_94_0 hV_m1
          exact K ((0 : Int32)) _ (zF_u (zF_zov (zF_u zF_rfl rfl) ws_245_244) rfl) hV64 r_W r_GW r_GU r_OW r_GG (show qRB (m 99) (m 100) (m 98) (m 101) (m 102) (m 103) (m 107) (m 108) (m 109) (m 111) (m 112) (m 113) (m 114) (m 94 55) (m 94 46) (m 94 11) (m 94 12) (m 94 62) (m 94 17) (m 94 9) (xPu aa ob ix va) from by first | (unfold xPu; rw [qIf_n (show ¬ (zRq aa ob ∧ zHw aa ob ix ∧ ¬ zIr aa ob ix) from fun w => Re_n p2_m1 (by omega) w.1)]; exact r_RB; done) | (unfold xPu; rw [qIf_n (show ¬ (zRq aa ob ∧ zHw aa ob ix ∧ ¬ zIr aa ob ix) from fun w => by have w2 := (Hw_y r_RB p2_m1 (by omega)).mp w.2.1; omega)]; exact r_RB; done) | (unfold xPu; rw [qIf_n (show ¬ (zRq aa ob ∧ zHw aa ob ix ∧ ¬ zIr aa ob ix) from fun w => w.2.2 ((Ir_y r_RB p2_m1 (by omega) (by omega) (by omega)).mpr (Or.inl (by assumption))))]; exact r_RB; done) | (unfold xPu; rw [qIf_n (show ¬ (zRq aa ob ∧ zHw aa ob ix ∧ ¬ zIr aa ob ix) from fun w => w.2.2 ((Ir_y r_RB p2_m1 (by omega) (by omega) (by omega)).mpr (Or.inr ⟨Int32.lt_iff_toInt_lt.mpr (by omega), by assumption⟩)))]; exact r_RB; done) | (exfalso; omega; done) | (exfalso; contradiction; done)) (show qI (xPu aa ob ix va) from by first | (unfold xPu; rw [qIf_n (show ¬ (zRq aa ob ∧ zHw aa ob ix ∧ ¬ zIr aa ob ix) from fun w => Re_n p2_m1 (by omega) w.1)]; exact r_QI; done) | (unfold xPu; rw [qIf_n (show ¬ (zRq aa ob ∧ zHw aa ob ix ∧ ¬ zIr aa ob ix) from fun w => by have w2 := (Hw_y r_RB p2_m1 (by omega)).mp w.2.1; omega)]; exact r_QI; done) | (unfold xPu; rw [qIf_n (show ¬ (zRq aa ob ∧ zHw aa ob ix ∧ ¬ zIr aa ob ix) from fun w => w.2.2 ((Ir_y r_RB p2_m1 (by omega) (by omega) (by omega)).mpr (Or.inl (by assumption))))]; exact r_QI; done) | (unfold xPu; rw [qIf_n (show ¬ (zRq aa ob ∧ zHw aa ob ix ∧ ¬ zIr aa ob ix) from fun w => w.2.2 ((Ir_y r_RB p2_m1 (by omega) (by omega) (by omega)).mpr (Or.inr ⟨Int32.lt_iff_toInt_lt.mpr (by omega), by assumption⟩)))]; exact r_QI; done) | (exfalso; omega; done) | (exfalso; contradiction; done)) (show qMG (m 94 58) (m 106) (m 115) (m 94 57) (m 94 56) (m 99) (m 100) (xPu aa ob ix va) from by first | (unfold xPu; rw [qIf_n (show ¬ (zRq aa ob ∧ zHw aa ob ix ∧ ¬ zIr aa ob ix) from fun w => Re_n p2_m1 (by omega) w.1)]; exact r_MG; done) | (unfold xPu; rw [qIf_n (show ¬ (zRq aa ob ∧ zHw aa ob ix ∧ ¬ zIr aa ob ix) from fun w => by have w2 := (Hw_y r_RB p2_m1 (by omega)).mp w.2.1; omega)]; exact r_MG; done) | (unfold xPu; rw [qIf_n (show ¬ (zRq aa ob ∧ zHw aa ob ix ∧ ¬ zIr aa ob ix) from fun w => w.2.2 ((Ir_y r_RB p2_m1 (by omega) (by omega) (by omega)).mpr (Or.inl (by assumption))))]; exact r_MG; done) | (unfold xPu; rw [qIf_n (show ¬ (zRq aa ob ∧ zHw aa ob ix ∧ ¬ zIr aa ob ix) from fun w => w.2.2 ((Ir_y r_RB p2_m1 (by omega) (by omega) (by omega)).mpr (Or.inr ⟨Int32.lt_iff_toInt_lt.mpr (by omega), by assumption⟩)))]; exact r_MG; done) | (exfalso; omega; done) | (exfalso; contradiction; done)) (show (xPu aa ob ix va) 87 8 = (m 94 58) from by first | (unfold xPu; rw [qIf_n (show ¬ (zRq aa ob ∧ zHw aa ob ix ∧ ¬ zIr aa ob ix) from fun w => Re_n p2_m1 (by omega) w.1)]; exact r_MK; done) | (unfold xPu; rw [qIf_n (show ¬ (zRq aa ob ∧ zHw aa ob ix ∧ ¬ zIr aa ob ix) from fun w => by have w2 := (Hw_y r_RB p2_m1 (by omega)).mp w.2.1; omega)]; exact r_MK; done) | (unfold xPu; rw [qIf_n (show ¬ (zRq aa ob ∧ zHw aa ob ix ∧ ¬ zIr aa ob ix) from fun w => w.2.2 ((Ir_y r_RB p2_m1 (by omega) (by omega) (by omega)).mpr (Or.inl (by assumption))))]; exact r_MK; done) | (unfold xPu; rw [qIf_n (show ¬ (zRq aa ob ∧ zHw aa ob ix ∧ ¬ zIr aa ob ix) from fun w => w.2.2 ((Ir_y r_RB p2_m1 (by omega) (by omega) (by omega)).mpr (Or.inr ⟨Int32.lt_iff_toInt_lt.mpr (by omega), by assumption⟩)))]; exact r_MK; done) | (exfalso; omega; done) | (exfalso; contradiction; done)) r_WTS
    · skip
      have g65 := i_nle h11
      have hV66 : zV (ma_u (zov wr_245 (ma_u m 94 0 (0 : Int32)) m1) 94 0 (2 : Int32)) := uf_94_0 hV_m1
      exact K ((0 : Int32)) _ (zF_u (zF_zov (zF_u zF_rfl rfl) ws_245_244) rfl) hV66 r_W r_GW r_GU r_OW r_GG (show qRB (m 99) (m 100) (m 98) (m 101) (m 102) (m 103) (m 107) (m 108) (m 109) (m 111) (m 112) (m 113) (m 114) (m 94 55) (m 94 46) (m 94 11) (m 94 12) (m 94 62) (m 94 17) (m 94 9) (xPu aa ob ix va) from by first | (unfold xPu; rw [qIf_n (show ¬ (zRq aa ob ∧ zHw aa ob ix ∧ ¬ zIr aa ob ix) from fun w => Re_n p2_m1 (by omega) w.1)]; exact r_RB; done) | (unfold xPu; rw [qIf_n (show ¬ (zRq aa ob ∧ zHw aa ob ix ∧ ¬ zIr aa ob ix) from fun w => by have w2 := (Hw_y r_RB p2_m1 (by omega)).mp w.2.1; omega)]; exact r_RB; done) | (unfold xPu; rw [qIf_n (show ¬ (zRq aa ob ∧ zHw aa ob ix ∧ ¬ zIr aa ob ix) from fun w => w.2.2 ((Ir_y r_RB p2_m1 (by omega) (by omega) (by omega)).mpr (Or.inl (by assumption))))]; exact r_RB; done) | (unfold xPu; rw [qIf_n (show ¬ (zRq aa ob ∧ zHw aa ob ix ∧ ¬ zIr aa ob ix) from fun w => w.2.2 ((Ir_y r_RB p2_m1 (by omega) (by omega) (by omega)).mpr (Or.inr ⟨Int32.lt_iff_toInt_lt.mpr (by omega), by assumption⟩)))]; exact r_RB; done) | (exfalso; omega; done) | (exfalso; contradiction; done)) (show qI (xPu aa ob ix va) from by first | (unfold xPu; rw [qIf_n (show ¬ (zRq aa ob ∧ zHw aa ob ix ∧ ¬ zIr aa ob ix) from fun w => Re_n p2_m1 (by omega) w.1)]; exact r_QI; done) | (unfold xPu; rw [qIf_n (show ¬ (zRq aa ob ∧ zHw aa ob ix ∧ ¬ zIr aa ob ix) from fun w => by have w2 := (Hw_y r_RB p2_m1 (by omega)).mp w.2.1; omega)]; exact r_QI; done) | (unfold xPu; rw [qIf_n (show ¬ (zRq aa ob ∧ zHw aa ob ix ∧ ¬ zIr aa ob ix) from fun w => w.2.2 ((Ir_y r_RB p2_m1 (by omega) (by omega) (by omega)).mpr (Or.inl (by assumption))))]; exact r_QI; done) | (unfold xPu; rw [qIf_n (show ¬ (zRq aa ob ∧ zHw aa ob ix ∧ ¬ zIr aa ob ix) from fun w => w.2.2 ((Ir_y r_RB p2_m1 (by omega) (by omega) (by omega)).mpr (Or.inr ⟨Int32.lt_iff_toInt_lt.mpr (by omega), by assumption⟩)))]; exact r_QI; done) | (exfalso; omega; done) | (exfalso; contradiction; done)) (show qMG (m 94 58) (m 106) (m 115) (m 94 57) (m 94 56) (m 99) (m 100) (xPu aa ob ix va) from by first | (unfold xPu; rw [qIf_n (show ¬ (zRq aa ob ∧ zHw aa ob ix ∧ ¬ zIr aa ob ix) from fun w => Re_n p2_m1 (by omega) w.1)]; exact r_MG; done) | (unfold xPu; rw [qIf_n (show ¬ (zRq aa ob ∧ zHw aa ob ix ∧ ¬ zIr aa ob ix) from fun w => by have w2 := (Hw_y r_RB p2_m1 (by omega)).mp w.2.1; omega)]; exact r_MG; done) | (unfold xPu; rw [qIf_n (show ¬ (zRq aa ob ∧ zHw aa ob ix ∧ ¬ zIr aa ob ix) from fun w => w.2.2 ((Ir_y r_RB p2_m1 (by omega) (by omega) (by omega)).mpr (Or.inl (by assumption))))]; exact r_MG; done) | (unfold xPu; rw [qIf_n (show ¬ (zRq aa ob ∧ zHw aa ob ix ∧ ¬ zIr aa ob ix) from fun w => w.2.2 ((Ir_y r_RB p2_m1 (by omega) (by omega) (by omega)).mpr (Or.inr ⟨Int32.lt_iff_toInt_lt.mpr (by omega), by assumption⟩)))]; exact r_MG; done) | (exfalso; omega; done) | (exfalso; contradiction; done)) (show (xPu aa ob ix va) 87 8 = (m 94 58) from by first | (unfold xPu; rw [qIf_n (show ¬ (zRq aa ob ∧ zHw aa ob ix ∧ ¬ zIr aa ob ix) from fun w => Re_n p2_m1 (by omega) w.1)]; exact r_MK; done) | (unfold xPu; rw [qIf_n (show ¬ (zRq aa ob ∧ zHw aa ob ix ∧ ¬ zIr aa ob ix) from fun w => by have w2 := (Hw_y r_RB p2_m1 (by omega)).mp w.2.1; omega)]; exact r_MK; done) | (unfold xPu; rw [qIf_n (show ¬ (zRq aa ob ∧ zHw aa ob ix ∧ ¬ zIr aa ob ix) from fun w => w.2.2 ((Ir_y r_RB p2_m1 (by omega) (by omega) (by omega)).mpr (Or.inl (by assumption))))]; exact r_MK; done) | (unfold xPu; rw [qIf_n (show ¬ (zRq aa ob ∧ zHw aa ob ix ∧ ¬ zIr aa ob ix) from fun w => w.2.2 ((Ir_y r_RB p2_m1 (by omega) (by omega) (by omega)).mpr (Or.inr ⟨Int32.lt_iff_toInt_lt.mpr (by omega), by assumption⟩)))]; exact r_MK; done) | (exfalso; omega; done) | (exfalso; contradiction; done)) r_WTS

/-! from 95.l05 -/
/-! the reference where it sweeps (written by wip/tools/gen20r.py) -/
theorem sp_250r0 {X : Nat × (Nat → Int32)} {P : Option ma_V → (Nat → Nat → Int32) → Prop} {T : Nat} {aa : Nat→Nat→Int32} {m : Nat → Nat → Int32} (ix : Int32) (ob : Int32) (hV : zV m) (hpre0 : T ≤ 512) (r_W : zW (m 94 7) (m 98) (m 101) (m 102) (m 108)) (r_GW : zGW T (m 94 55) (m 109)) (r_GU : zGU T (m 94 46) (m 99)) (r_OW : zOw (m 99) (m 103) (m 111)) (r_GG : zGG (m 94 58) (m 94 56) (m 94 57) (m 106)) (hpre6 : (m 94 10).toInt = 0 ∧ (m 94 58).toInt = 0) (hpre7 : (m 94 8).toInt = 1) (r_RB : qRB (m 99) (m 100) (m 98) (m 101) (m 102) (m 103) (m 107) (m 108) (m 109) (m 111) (m 112) (m 113) (m 114) (m 94 55) (m 94 46) (m 94 11) (m 94 12) (m 94 62) (m 94 17) (m 94 9) aa) (r_QI : qI aa) (r_MG : qMG (m 94 58) (m 106) (m 115) (m 94 57) (m 94 56) (m 99) (m 100) aa) (r_MK : aa 87 8 = (m 94 58)) (r_WTS : (m 94 45).toInt = sm (zbU (m 99)) (m 102) 3100) (KZ : ∀ v m₉, zV (zov wr_250 m m₉) → (zW (m 94 7) (m 98) (m 101) (m 102) (m 108)) → (zGW T (m₉ 94 55) (m₉ 109)) → (zGU T (m 94 46) (m₉ 99)) → (zOw (m₉ 99) (m 103) (m₉ 111)) → (zGG (m 94 58) (m₉ 94 56) (m 94 57) (m₉ 106)) → (qRB (m₉ 99) (m 100) (m 98) (m 101) (m 102) (m 103) (m 107) (m 108) (m₉ 109) (m₉ 111) (m₉ 112) (m₉ 113) (m₉ 114) (m₉ 94 55) (m 94 46) (m 94 11) (m 94 12) (m 94 62) (m 94 17) (m 94 9) (xRo aa ix ob)) → (qI (xRo aa ix ob)) → (qMG (m 94 58) (m₉ 106) (m₉ 115) (m 94 57) (m₉ 94 56) (m₉ 99) (m 100) (xRo aa ix ob)) → ((xRo aa ix ob) 87 8 = (m 94 58)) → ((m₉ 94 45).toInt = sm (zbU (m₉ 99)) (m 102) 3100) → P (some (.inl v)) (zov wr_250 m m₉)) : zm X 5 111 250 0 [(0, .inr (.inr (some 94))), (1, .inl ix), (2, .inl ob)] m P := by
  have K : ∀ v m₉, zF wr_250 m m₉ → zV m₉ → (zW (m₉ 94 7) (m₉ 98) (m₉ 101) (m₉ 102) (m₉ 108)) → (zGW T (m₉ 94 55) (m₉ 109)) → (zGU T (m₉ 94 46) (m₉ 99)) → (zOw (m₉ 99) (m₉ 103) (m₉ 111)) → (zGG (m₉ 94 58) (m₉ 94 56) (m₉ 94 57) (m₉ 106)) → (qRB (m₉ 99) (m₉ 100) (m₉ 98) (m₉ 101) (m₉ 102) (m₉ 103) (m₉ 107) (m₉ 108) (m₉ 109) (m₉ 111) (m₉ 112) (m₉ 113) (m₉ 114) (m₉ 94 55) (m₉ 94 46) (m₉ 94 11) (m₉ 94 12) (m₉ 94 62) (m₉ 94 17) (m₉ 94 9) (xRo aa ix ob)) → (qI (xRo aa ix ob)) → (qMG (m₉ 94 58) (m₉ 106) (m₉ 115) (m₉ 94 57) (m₉ 94 56) (m₉ 99) (m₉ 100) (xRo aa ix ob)) → ((xRo aa ix ob) 87 8 = (m₉ 94 58)) → ((m₉ 94 45).toInt = sm (zbU (m₉ 99)) (m₉ 102) 3100) → P (some (.inl v)) m₉ := by
    intro v m₉ hf z q0 q1 q2 q3 q4 q5 q6 q7 q8 q9
    have e := zov_eq hf
    rw [e] at z ⊢
    try rw [e] at q0
    try rw [e] at q1
    try rw [e] at q2
    try rw [e] at q3
    try rw [e] at q4
    try rw [e] at q5
    try rw [e] at q6
    try rw [e] at q7
    try rw [e] at q8
    try rw [e] at q9
    exact KZ v m₉ z q0 q1 q2 q3 q4 q5 q6 q7 q8 q9
  refine g_250_0 ix ob ?_
  have f1 : 0 ≤ (m 94 10).toInt ∧ (m 94 10).toInt ≤ 6 := rs_94_10 (m := m) hV
  have f2 : 0 ≤ (m 94 58).toInt ∧ (m 94 58).toInt ≤ 1 := rs_94_58 (m := m) hV
  have f3 : 0 ≤ (m 94 8).toInt ∧ (m 94 8).toInt ≤ 1 := rs_94_8 (m := m) hV
  have b4 := i_bd ix
  have li5 : (0 : Int32).toInt = 0 := rfl
  refine zd (fun (h6 : ix < (0 : Int32)) => ?_) (fun (h6 : ¬ ix < (0 : Int32)) => ?_)
  · skip
    have g7 := i_lt h6
    have hV8 : zV (ma_u m 94 0 (1 : Int32)) := uf_94_0 hV
    exact K ((0 : Int32)) _ (zF_u zF_rfl rfl) hV8 r_W r_GW r_GU r_OW r_GG (show qRB (m 99) (m 100) (m 98) (m 101) (m 102) (m 103) (m 107) (m 108) (m 109) (m 111) (m 112) (m 113) (m 114) (m 94 55) (m 94 46) (m 94 11) (m 94 12) (m 94 62) (m 94 17) (m 94 9) (xRo aa ix ob) from by first | (unfold xRo; rw [qIf_n (Sl_n (Or.inl (by omega)))]; exact r_RB; done) | (unfold xRo; rw [qIf_n (Sl_n (Or.inr (by omega)))]; exact r_RB; done) | (exfalso; omega; done) | (exfalso; contradiction; done)) (show qI (xRo aa ix ob) from by first | (unfold xRo; rw [qIf_n (Sl_n (Or.inl (by omega)))]; exact r_QI; done) | (unfold xRo; rw [qIf_n (Sl_n (Or.inr (by omega)))]; exact r_QI; done) | (exfalso; omega; done) | (exfalso; contradiction; done)) (show qMG (m 94 58) (m 106) (m 115) (m 94 57) (m 94 56) (m 99) (m 100) (xRo aa ix ob) from by first | (unfold xRo; rw [qIf_n (Sl_n (Or.inl (by omega)))]; exact r_MG; done) | (unfold xRo; rw [qIf_n (Sl_n (Or.inr (by omega)))]; exact r_MG; done) | (exfalso; omega; done) | (exfalso; contradiction; done)) (show (xRo aa ix ob) 87 8 = (m 94 58) from by first | (unfold xRo; rw [qIf_n (Sl_n (Or.inl (by omega)))]; exact r_MK; done) | (unfold xRo; rw [qIf_n (Sl_n (Or.inr (by omega)))]; exact r_MK; done) | (exfalso; omega; done) | (exfalso; contradiction; done)) r_WTS
  · skip
    have g9 := i_nlt h6
    have li10 : (16 : Int32).toInt = 16 := rfl
    refine zd (fun (h11 : (16 : Int32) ≤ ix) => ?_) (fun (h11 : ¬ (16 : Int32) ≤ ix) => ?_)
    · skip
      have g12 := i_le h11
      have hV13 : zV (ma_u m 94 0 (1 : Int32)) := uf_94_0 hV
      exact K ((0 : Int32)) _ (zF_u zF_rfl rfl) hV13 r_W r_GW r_GU r_OW r_GG (show qRB (m 99) (m 100) (m 98) (m 101) (m 102) (m 103) (m 107) (m 108) (m 109) (m 111) (m 112) (m 113) (m 114) (m 94 55) (m 94 46) (m 94 11) (m 94 12) (m 94 62) (m 94 17) (m 94 9) (xRo aa ix ob) from by first | (unfold xRo; rw [qIf_n (Sl_n (Or.inl (by omega)))]; exact r_RB; done) | (unfold xRo; rw [qIf_n (Sl_n (Or.inr (by omega)))]; exact r_RB; done) | (exfalso; omega; done) | (exfalso; contradiction; done)) (show qI (xRo aa ix ob) from by first | (unfold xRo; rw [qIf_n (Sl_n (Or.inl (by omega)))]; exact r_QI; done) | (unfold xRo; rw [qIf_n (Sl_n (Or.inr (by omega)))]; exact r_QI; done) | (exfalso; omega; done) | (exfalso; contradiction; done)) (show qMG (m 94 58) (m 106) (m 115) (m 94 57) (m 94 56) (m 99) (m 100) (xRo aa ix ob) from by first | (unfold xRo; rw [qIf_n (Sl_n (Or.inl (by omega)))]; exact r_MG; done) | (unfold xRo; rw [qIf_n (Sl_n (Or.inr (by omega)))]; exact r_MG; done) | (exfalso; omega; done) | (exfalso; contradiction; done)) (show (xRo aa ix ob) 87 8 = (m 94 58) from by first | (unfold xRo; rw [qIf_n (Sl_n (Or.inl (by omega)))]; exact r_MK; done) | (unfold xRo; rw [qIf_n (Sl_n (Or.inr (by omega)))]; exact r_MK; done) | (exfalso; omega; done) | (exfalso; contradiction; done)) r_WTS
    · skip
      have g14 := i_nle h11
      refine zd (fun (h15 : (m 94 8) = (0 : Int32)) => ?_) (fun (h15 : ¬ (m 94 8) = (0 : Int32)) => ?_)
      · skip
        have g16 := i_eq h15
        exfalso; omega
      · skip
        have g17 := i_ne h15
        have b18 := i_bd ob
        have li19 : (-1 : Int32).toInt = -1 := rfl
        refine zd (fun (h20 : ob = (-1 : Int32)) => ?_) (fun (h20 : ¬ ob = (-1 : Int32)) => ?_)
        · skip
          have g21 := i_eq h20
          refine zd (fun (h22 : ob = (-1 : Int32)) => ?_) (fun (h22 : ¬ ob = (-1 : Int32)) => ?_)
          · skip
            have g23 := i_eq h22
            have hg24 : (0 ≤ ix ∧ ix.toNatClampNeg < 16) := i_ix (by omega) (by omega)
            refine ⟨hg24, ?_⟩
            first | have f25 : -1 ≤ (m 112 ix.toNatClampNeg).toInt ∧ (m 112 ix.toNatClampNeg).toInt ≤ 3099 := ra_112 (m := m) hV (k := ix.toNatClampNeg) (i_ix (n := 16) (by omega) (by omega)).2 | have b26 := i_bd (m 112 ix.toNatClampNeg)
            refine zd (fun (h27 : (0 : Int32) ≤ (m 112 ix.toNatClampNeg)) => ?_) (fun (h27 : ¬ (0 : Int32) ≤ (m 112 ix.toNatClampNeg)) => ?_)
            · skip
              have g28 := i_le h27
              have hg29 : (0 ≤ (m 112 ix.toNatClampNeg) ∧ (m 112 ix.toNatClampNeg).toNatClampNeg < 3100) := i_ix (by omega) (by omega)
              refine ⟨hg29, ?_⟩
              have hV30 : zV (ma_u m 94 0 (0 : Int32)) := uf_94_0 hV
              have hV31 : zV (ma_u (ma_u m 94 0 (0 : Int32)) 94 0 (0 : Int32)) := uf_94_0 hV30
              refine sp_238r0 (aa := aa) (ix) ((-1 : Int32)) hV31 (by omega) (by omega) (by omega) (by omega) (show (m 94 10).toInt = 0 ∧ (m 94 58).toInt = 0 from by omega) r_W r_GW r_GU r_OW r_GG r_RB r_QI r_MG r_MK r_WTS (show qU (m 99) (-1 : Int32) from by first | (exact As_u (As_n (us := (m 99)) (nr := (m 100)) (a := aa) (o := ob) (by assumption))) | (assumption; done) | (exact ow5.1) | (exact ow3.1) | (exfalso; omega; done) | (exfalso; contradiction; done)) (show qMS (m 94 58) aa (qNo (m 100) (-1 : Int32)) from by first | (exact As_s (As_n (us := (m 99)) (nr := (m 100)) (a := aa) (o := ob) (by assumption)) r_MG r_QI) | (exfalso; omega; done) | (exfalso; contradiction; done)) (fun m11 hV_m11 p0_m11 p1_m11 p2_m11 p3_m11 p4_m11 p5_m11 p6_m11 p7_m11 p8_m11 => zmv_n ?_)
              have p0_m11 : zGW T (m11 94 55) (m11 109) := p0_m11
              have p1_m11 : zGU T (m 94 46) (m11 99) := p1_m11
              have p2_m11 : zOw (m11 99) (m 103) (m11 111) := p2_m11
              have p3_m11 : zGG (m 94 58) (m11 94 56) (m 94 57) (m11 106) := p3_m11
              have p4_m11 : qRB (m11 99) (m 100) (m 98) (m 101) (m 102) (m 103) (m 107) (m 108) (m11 109) (m11 111) (m11 112) (m11 113) (m11 114) (m11 94 55) (m 94 46) (m 94 11) (m 94 12) (m 94 62) (m 94 17) (m 94 9) (aRt aa ix (qNo (m 100) (-1 : Int32))) := p4_m11
              have p5_m11 : qI (aRt aa ix (qNo (m 100) (-1 : Int32))) := p5_m11
              have p6_m11 : qMG (m 94 58) (m11 106) (m11 115) (m 94 57) (m11 94 56) (m11 99) (m 100) (aRt aa ix (qNo (m 100) (-1 : Int32))) := p6_m11
              have p7_m11 : (aRt aa ix (qNo (m 100) (-1 : Int32))) 87 8 = (m 94 58) := p7_m11
              have p8_m11 : (m11 94 45).toInt = sm (zbU (m11 99)) (m 102) 3100 := p8_m11
              first | have f32 : 0 ≤ (m 100 (m 112 ix.toNatClampNeg).toNatClampNeg).toInt ∧ (m 100 (m 112 ix.toNatClampNeg).toNatClampNeg).toInt ≤ 100000 := ra_100 (m := m) hV (k := (m 112 ix.toNatClampNeg).toNatClampNeg) (i_ix (n := 3100) (by omega) (by omega)).2 | have b33 := i_bd (m 100 (m 112 ix.toNatClampNeg).toNatClampNeg)
              exact K ((m 100 (m 112 ix.toNatClampNeg).toNatClampNeg)) _ (zF_zov (zF_u (zF_u zF_rfl rfl) rfl) ws_238_250) hV_m11 r_W p0_m11 p1_m11 p2_m11 p3_m11 (show qRB (m11 99) (m 100) (m 98) (m 101) (m 102) (m 103) (m 107) (m 108) (m11 109) (m11 111) (m11 112) (m11 113) (m11 114) (m11 94 55) (m 94 46) (m 94 11) (m 94 12) (m 94 62) (m 94 17) (m 94 9) (xRo aa ix ob) from by first | (rw [Ro_y (by omega) (by omega) (As_n (us := (m 99)) (nr := (m 100)) (a := aa) (o := ob) (by assumption))]; exact p4_m11; done) | (exfalso; omega; done) | (exfalso; contradiction; done)) (show qI (xRo aa ix ob) from by first | (rw [Ro_y (by omega) (by omega) (As_n (us := (m 99)) (nr := (m 100)) (a := aa) (o := ob) (by assumption))]; exact p5_m11; done) | (exfalso; omega; done) | (exfalso; contradiction; done)) (show qMG (m 94 58) (m11 106) (m11 115) (m 94 57) (m11 94 56) (m11 99) (m 100) (xRo aa ix ob) from by first | (rw [Ro_y (by omega) (by omega) (As_n (us := (m 99)) (nr := (m 100)) (a := aa) (o := ob) (by assumption))]; exact p6_m11; done) | (exfalso; omega; done) | (exfalso; contradiction; done)) (show (xRo aa ix ob) 87 8 = (m 94 58) from by first | (rw [Ro_y (by omega) (by omega) (As_n (us := (m 99)) (nr := (m 100)) (a := aa) (o := ob) (by assumption))]; exact p7_m11; done) | (exfalso; omega; done) | (exfalso; contradiction; done)) p8_m11
            · skip
              have g34 := i_nle h27
              have hV35 : zV (ma_u m 94 0 (0 : Int32)) := uf_94_0 hV
              have hV36 : zV (ma_u (ma_u m 94 0 (0 : Int32)) 94 0 (0 : Int32)) := uf_94_0 hV35
              refine sp_238r0 (aa := aa) (ix) ((-1 : Int32)) hV36 (by omega) (by omega) (by omega) (by omega) (show (m 94 10).toInt = 0 ∧ (m 94 58).toInt = 0 from by omega) r_W r_GW r_GU r_OW r_GG r_RB r_QI r_MG r_MK r_WTS (show qU (m 99) (-1 : Int32) from by first | (exact As_u (As_n (us := (m 99)) (nr := (m 100)) (a := aa) (o := ob) (by assumption))) | (assumption; done) | (exact ow5.1) | (exact ow3.1) | (exfalso; omega; done) | (exfalso; contradiction; done)) (show qMS (m 94 58) aa (qNo (m 100) (-1 : Int32)) from by first | (exact As_s (As_n (us := (m 99)) (nr := (m 100)) (a := aa) (o := ob) (by assumption)) r_MG r_QI) | (exfalso; omega; done) | (exfalso; contradiction; done)) (fun m13 hV_m13 p0_m13 p1_m13 p2_m13 p3_m13 p4_m13 p5_m13 p6_m13 p7_m13 p8_m13 => zmv_n ?_)
              have p0_m13 : zGW T (m13 94 55) (m13 109) := p0_m13
              have p1_m13 : zGU T (m 94 46) (m13 99) := p1_m13
              have p2_m13 : zOw (m13 99) (m 103) (m13 111) := p2_m13
              have p3_m13 : zGG (m 94 58) (m13 94 56) (m 94 57) (m13 106) := p3_m13
              have p4_m13 : qRB (m13 99) (m 100) (m 98) (m 101) (m 102) (m 103) (m 107) (m 108) (m13 109) (m13 111) (m13 112) (m13 113) (m13 114) (m13 94 55) (m 94 46) (m 94 11) (m 94 12) (m 94 62) (m 94 17) (m 94 9) (aRt aa ix (qNo (m 100) (-1 : Int32))) := p4_m13
              have p5_m13 : qI (aRt aa ix (qNo (m 100) (-1 : Int32))) := p5_m13
              have p6_m13 : qMG (m 94 58) (m13 106) (m13 115) (m 94 57) (m13 94 56) (m13 99) (m 100) (aRt aa ix (qNo (m 100) (-1 : Int32))) := p6_m13
              have p7_m13 : (aRt aa ix (qNo (m 100) (-1 : Int32))) 87 8 = (m 94 58) := p7_m13
              have p8_m13 : (m13 94 45).toInt = sm (zbU (m13 99)) (m 102) 3100 := p8_m13
              exact K ((-1 : Int32)) _ (zF_zov (zF_u (zF_u zF_rfl rfl) rfl) ws_238_250) hV_m13 r_W p0_m13 p1_m13 p2_m13 p3_m13 (show qRB (m13 99) (m 100) (m 98) (m 101) (m 102) (m 103) (m 107) (m 108) (m13 109) (m13 111) (m13 112) (m13 113) (m13 114) (m13 94 55) (m 94 46) (m 94 11) (m 94 12) (m 94 62) (m 94 17) (m 94 9) (xRo aa ix ob) from by first | (rw [Ro_y (by omega) (by omega) (As_n (us := (m 99)) (nr := (m 100)) (a := aa) (o := ob) (by assumption))]; exact p4_m13; done) | (exfalso; omega; done) | (exfalso; contradiction; done)) (show qI (xRo aa ix ob) from by first | (rw [Ro_y (by omega) (by omega) (As_n (us := (m 99)) (nr := (m 100)) (a := aa) (o := ob) (by assumption))]; exact p5_m13; done) | (exfalso; omega; done) | (exfalso; contradiction; done)) (show qMG (m 94 58) (m13 106) (m13 115) (m 94 57) (m13 94 56) (m13 99) (m 100) (xRo aa ix ob) from by first | (rw [Ro_y (by omega) (by omega) (As_n (us := (m 99)) (nr := (m 100)) (a := aa) (o := ob) (by assumption))]; exact p6_m13; done) | (exfalso; omega; done) | (exfalso; contradiction; done)) (show (xRo aa ix ob) 87 8 = (m 94 58) from by first | (rw [Ro_y (by omega) (by omega) (As_n (us := (m 99)) (nr := (m 100)) (a := aa) (o := ob) (by assumption))]; exact p7_m13; done) | (exfalso; omega; done) | (exfalso; contradiction; done)) p8_m13
          · skip
            have g37 := i_ne h22
            have hV38 : zV (ma_u m 94 0 (0 : Int32)) := uf_94_0 hV
            have hV39 : zV (ma_u (ma_u m 94 0 (0 : Int32)) 94 0 (3 : Int32)) := uf_94_0 hV38
            exact K ((0 : Int32)) _ (zF_u (zF_u zF_rfl rfl) rfl) hV39 r_W r_GW r_GU r_OW r_GG (show qRB (m 99) (m 100) (m 98) (m 101) (m 102) (m 103) (m 107) (m 108) (m 109) (m 111) (m 112) (m 113) (m 114) (m 94 55) (m 94 46) (m 94 11) (m 94 12) (m 94 62) (m 94 17) (m 94 9) (xRo aa ix ob) from by first | (unfold xRo; rw [qIf_n (Sl_n (Or.inl (by omega)))]; exact r_RB; done) | (unfold xRo; rw [qIf_n (Sl_n (Or.inr (by omega)))]; exact r_RB; done) | (exfalso; omega; done) | (exfalso; contradiction; done)) (show qI (xRo aa ix ob) from by first | (unfold xRo; rw [qIf_n (Sl_n (Or.inl (by omega)))]; exact r_QI; done) | (unfold xRo; rw [qIf_n (Sl_n (Or.inr (by omega)))]; exact r_QI; done) | (exfalso; omega; done) | (exfalso; contradiction; done)) (show qMG (m 94 58) (m 106) (m 115) (m 94 57) (m 94 56) (m 99) (m 100) (xRo aa ix ob) from by first | (unfold xRo; rw [qIf_n (Sl_n (Or.inl (by omega)))]; exact r_MG; done) | (unfold xRo; rw [qIf_n (Sl_n (Or.inr (by omega)))]; exact r_MG; done) | (exfalso; omega; done) | (exfalso; contradiction; done)) (show (xRo aa ix ob) 87 8 = (m 94 58) from by first | (unfold xRo; rw [qIf_n (Sl_n (Or.inl (by omega)))]; exact r_MK; done) | (unfold xRo; rw [qIf_n (Sl_n (Or.inr (by omega)))]; exact r_MK; done) | (exfalso; omega; done) | (exfalso; contradiction; done)) r_WTS
        · skip
          have g40 := i_ne h20
          have hV41 : zV (ma_u m 94 0 (0 : Int32)) := uf_94_0 hV
          refine sp_245r (aa := aa) (ob) hV41 r_W r_RB r_QI (fun v2 m1 hV_m1 p0_m1 p1_m1 p2_m1 => zmi_n ?_)
          have p0_m1 : -1 ≤ v2.toInt ∧ v2.toInt ≤ 3099 := p0_m1
          have p1_m1 : v2.toInt < 0 ∨ (m 99) v2.toNatClampNeg ≠ 0 := p1_m1
          have p2_m1 : qRe (m 99) (m 100) aa ob v2 := p2_m1
          refine zd (fun (h42 : ob = (-1 : Int32)) => ?_) (fun (h42 : ¬ ob = (-1 : Int32)) => ?_)
          · skip
            have g43 := i_eq h42
            have hg44 : (0 ≤ ix ∧ ix.toNatClampNeg < 16) := i_ix (by omega) (by omega)
            refine ⟨hg44, ?_⟩
            first | have f45 : -1 ≤ (m 112 ix.toNatClampNeg).toInt ∧ (m 112 ix.toNatClampNeg).toInt ≤ 3099 := ra_112 (m := m) hV (k := ix.toNatClampNeg) (i_ix (n := 16) (by omega) (by omega)).2 | have b46 := i_bd (m 112 ix.toNatClampNeg)
            refine zd (fun (h47 : (0 : Int32) ≤ (m 112 ix.toNatClampNeg)) => ?_) (fun (h47 : ¬ (0 : Int32) ≤ (m 112 ix.toNatClampNeg)) => ?_)
            · skip
              have g48 := i_le h47
              have hg49 : (0 ≤ (m 112 ix.toNatClampNeg) ∧ (m 112 ix.toNatClampNeg).toNatClampNeg < 3100) := i_ix (by omega) (by omega)
              refine ⟨hg49, ?_⟩
              have b50 := i_bd v2
              have hV51 : zV (ma_u (zov wr_245 (ma_u m 94 0 (0 : Int32)) m1) 94 0 (0 : Int32)) := uf_94_0 hV_m1
              refine sp_238r0 (aa := aa) (ix) (v2) hV51 (by omega) (by omega) (by omega) (by omega) (show (m 94 10).toInt = 0 ∧ (m 94 58).toInt = 0 from by omega) r_W r_GW r_GU r_OW r_GG r_RB r_QI r_MG r_MK r_WTS (show qU (m 99) v2 from by first | (exact As_u (As_y p2_m1 (by omega))) | (assumption; done) | (exact ow5.1) | (exact ow3.1) | (exfalso; omega; done) | (exfalso; contradiction; done)) (show qMS (m 94 58) aa (qNo (m 100) v2) from by first | (exact As_s (As_y p2_m1 (by omega)) r_MG r_QI) | (exfalso; omega; done) | (exfalso; contradiction; done)) (fun m3 hV_m3 p0_m3 p1_m3 p2_m3 p3_m3 p4_m3 p5_m3 p6_m3 p7_m3 p8_m3 => zmv_n ?_)
              have p0_m3 : zGW T (m3 94 55) (m3 109) := p0_m3
              have p1_m3 : zGU T (m 94 46) (m3 99) := p1_m3
              have p2_m3 : zOw (m3 99) (m 103) (m3 111) := p2_m3
              have p3_m3 : zGG (m 94 58) (m3 94 56) (m 94 57) (m3 106) := p3_m3
              have p4_m3 : qRB (m3 99) (m 100) (m 98) (m 101) (m 102) (m 103) (m 107) (m 108) (m3 109) (m3 111) (m3 112) (m3 113) (m3 114) (m3 94 55) (m 94 46) (m 94 11) (m 94 12) (m 94 62) (m 94 17) (m 94 9) (aRt aa ix (qNo (m 100) v2)) := p4_m3
              have p5_m3 : qI (aRt aa ix (qNo (m 100) v2)) := p5_m3
              have p6_m3 : qMG (m 94 58) (m3 106) (m3 115) (m 94 57) (m3 94 56) (m3 99) (m 100) (aRt aa ix (qNo (m 100) v2)) := p6_m3
              have p7_m3 : (aRt aa ix (qNo (m 100) v2)) 87 8 = (m 94 58) := p7_m3
              have p8_m3 : (m3 94 45).toInt = sm (zbU (m3 99)) (m 102) 3100 := p8_m3
              first | have f52 : 0 ≤ (m 100 (m 112 ix.toNatClampNeg).toNatClampNeg).toInt ∧ (m 100 (m 112 ix.toNatClampNeg).toNatClampNeg).toInt ≤ 100000 := ra_100 (m := m) hV (k := (m 112 ix.toNatClampNeg).toNatClampNeg) (i_ix (n := 3100) (by omega) (by omega)).2 | have b53 := i_bd (m 100 (m 112 ix.toNatClampNeg).toNatClampNeg)
              exact K ((m 100 (m 112 ix.toNatClampNeg).toNatClampNeg)) _ (zF_zov (zF_u (zF_zov (zF_u zF_rfl rfl) ws_245_250) rfl) ws_238_250) hV_m3 r_W p0_m3 p1_m3 p2_m3 p3_m3 (show qRB (m3 99) (m 100) (m 98) (m 101) (m 102) (m 103) (m 107) (m 108) (m3 109) (m3 111) (m3 112) (m3 113) (m3 114) (m3 94 55) (m 94 46) (m 94 11) (m 94 12) (m 94 62) (m 94 17) (m 94 9) (xRo aa ix ob) from by first | (rw [Ro_y (by omega) (by omega) (As_y p2_m1 (by omega))]; exact p4_m3; done) | (exfalso; omega; done) | (exfalso; contradiction; done)) (show qI (xRo aa ix ob) from by first | (rw [Ro_y (by omega) (by omega) (As_y p2_m1 (by omega))]; exact p5_m3; done) | (exfalso; omega; done) | (exfalso; contradiction; done)) (show qMG (m 94 58) (m3 106) (m3 115) (m 94 57) (m3 94 56) (m3 99) (m 100) (xRo aa ix ob) from by first | (rw [Ro_y (by omega) (by omega) (As_y p2_m1 (by omega))]; exact p6_m3; done) | (exfalso; omega; done) | (exfalso; contradiction; done)) (show (xRo aa ix ob) 87 8 = (m 94 58) from by first | (rw [Ro_y (by omega) (by omega) (As_y p2_m1 (by omega))]; exact p7_m3; done) | (exfalso; omega; done) | (exfalso; contradiction; done)) p8_m3
            · skip
              have g54 := i_nle h47
              have b55 := i_bd v2
              have hV56 : zV (ma_u (zov wr_245 (ma_u m 94 0 (0 : Int32)) m1) 94 0 (0 : Int32)) := uf_94_0 hV_m1
              refine sp_238r0 (aa := aa) (ix) (v2) hV56 (by omega) (by omega) (by omega) (by omega) (show (m 94 10).toInt = 0 ∧ (m 94 58).toInt = 0 from by omega) r_W r_GW r_GU r_OW r_GG r_RB r_QI r_MG r_MK r_WTS (show qU (m 99) v2 from by first | (exact As_u (As_y p2_m1 (by omega))) | (assumption; done) | (exact ow5.1) | (exact ow3.1) | (exfalso; omega; done) | (exfalso; contradiction; done)) (show qMS (m 94 58) aa (qNo (m 100) v2) from by first | (exact As_s (As_y p2_m1 (by omega)) r_MG r_QI) | (exfalso; omega; done) | (exfalso; contradiction; done)) (fun m5 hV_m5 p0_m5 p1_m5 p2_m5 p3_m5 p4_m5 p5_m5 p6_m5 p7_m5 p8_m5 => zmv_n ?_)
              have p0_m5 : zGW T (m5 94 55) (m5 109) := p0_m5
              have p1_m5 : zGU T (m 94 46) (m5 99) := p1_m5
              have p2_m5 : zOw (m5 99) (m 103) (m5 111) := p2_m5
              have p3_m5 : zGG (m 94 58) (m5 94 56) (m 94 57) (m5 106) := p3_m5
              have p4_m5 : qRB (m5 99) (m 100) (m 98) (m 101) (m 102) (m 103) (m 107) (m 108) (m5 109) (m5 111) (m5 112) (m5 113) (m5 114) (m5 94 55) (m 94 46) (m 94 11) (m 94 12) (m 94 62) (m 94 17) (m 94 9) (aRt aa ix (qNo (m 100) v2)) := p4_m5
              have p5_m5 : qI (aRt aa ix (qNo (m 100) v2)) := p5_m5
              have p6_m5 : qMG (m 94 58) (m5 106) (m5 115) (m 94 57) (m5 94 56) (m5 99) (m 100) (aRt aa ix (qNo (m 100) v2)) := p6_m5
              have p7_m5 : (aRt aa ix (qNo (m 100) v2)) 87 8 = (m 94 58) := p7_m5
              have p8_m5 : (m5 94 45).toInt = sm (zbU (m5 99)) (m 102) 3100 := p8_m5
              exact K ((-1 : Int32)) _ (zF_zov (zF_u (zF_zov (zF_u zF_rfl rfl) ws_245_250) rfl) ws_238_250) hV_m5 r_W p0_m5 p1_m5 p2_m5 p3_m5 (show qRB (m5 99) (m 100) (m 98) (m 101) (m 102) (m 103) (m 107) (m 108) (m5 109) (m5 111) (m5 112) (m5 113) (m5 114) (m5 94 55) (m 94 46) (m 94 11) (m 94 12) (m 94 62) (m 94 17) (m 94 9) (xRo aa ix ob) from by first | (rw [Ro_y (by omega) (by omega) (As_y p2_m1 (by omega))]; exact p4_m5; done) | (exfalso; omega; done) | (exfalso; contradiction; done)) (show qI (xRo aa ix ob) from by first | (rw [Ro_y (by omega) (by omega) (As_y p2_m1 (by omega))]; exact p5_m5; done) | (exfalso; omega; done) | (exfalso; contradiction; done)) (show qMG (m 94 58) (m5 106) (m5 115) (m 94 57) (m5 94 56) (m5 99) (m 100) (xRo aa ix ob) from by first | (rw [Ro_y (by omega) (by omega) (As_y p2_m1 (by omega))]; exact p6_m5; done) | (exfalso; omega; done) | (exfalso; contradiction; done)) (show (xRo aa ix ob) 87 8 = (m 94 58) from by first | (rw [Ro_y (by omega) (by omega) (As_y p2_m1 (by omega))]; exact p7_m5; done) | (exfalso; omega; done) | (exfalso; contradiction; done)) p8_m5
          · skip
            have g57 := i_ne h42
            have b58 := i_bd v2
            refine zd (fun (h59 : (0 : Int32) ≤ v2) => ?_) (fun (h59 : ¬ (0 : Int32) ≤ v2) => ?_)
            · skip
              have g60 := i_le h59
              have hg61 : (0 ≤ ix ∧ ix.toNatClampNeg < 16) := i_ix (by omega) (by omega)
              refine ⟨hg61, ?_⟩
              first | have f62 : -1 ≤ (m 112 ix.toNatClampNeg).toInt ∧ (m 112 ix.toNatClampNeg).toInt ≤ 3099 := ra_112 (m := m) hV (k := ix.toNatClampNeg) (i_ix (n := 16) (by omega) (by omega)).2 | have b63 := i_bd (m 112 ix.toNatClampNeg)
              refine zd (fun (h64 : (0 : Int32) ≤ (m 112 ix.toNatClampNeg)) => ?_) (fun (h64 : ¬ (0 : Int32) ≤ (m 112 ix.toNatClampNeg)) => ?_)
              · skip
                have g65 := i_le h64
                have hg66 : (0 ≤ (m 112 ix.toNatClampNeg) ∧ (m 112 ix.toNatClampNeg).toNatClampNeg < 3100) := i_ix (by omega) (by omega)
                refine ⟨hg66, ?_⟩
                have hV67 : zV (ma_u (zov wr_245 (ma_u m 94 0 (0 : Int32)) m1) 94 0 (0 : Int32)) := uf_94_0 hV_m1
                refine sp_238r0 (aa := aa) (ix) (v2) hV67 (by omega) (by omega) (by omega) (by omega) (show (m 94 10).toInt = 0 ∧ (m 94 58).toInt = 0 from by omega) r_W r_GW r_GU r_OW r_GG r_RB r_QI r_MG r_MK r_WTS (show qU (m 99) v2 from by first | (exact As_u (As_y p2_m1 (by omega))) | (assumption; done) | (exact ow5.1) | (exact ow3.1) | (exfalso; omega; done) | (exfalso; contradiction; done)) (show qMS (m 94 58) aa (qNo (m 100) v2) from by first | (exact As_s (As_y p2_m1 (by omega)) r_MG r_QI) | (exfalso; omega; done) | (exfalso; contradiction; done)) (fun m7 hV_m7 p0_m7 p1_m7 p2_m7 p3_m7 p4_m7 p5_m7 p6_m7 p7_m7 p8_m7 => zmv_n ?_)
                have p0_m7 : zGW T (m7 94 55) (m7 109) := p0_m7
                have p1_m7 : zGU T (m 94 46) (m7 99) := p1_m7
                have p2_m7 : zOw (m7 99) (m 103) (m7 111) := p2_m7
                have p3_m7 : zGG (m 94 58) (m7 94 56) (m 94 57) (m7 106) := p3_m7
                have p4_m7 : qRB (m7 99) (m 100) (m 98) (m 101) (m 102) (m 103) (m 107) (m 108) (m7 109) (m7 111) (m7 112) (m7 113) (m7 114) (m7 94 55) (m 94 46) (m 94 11) (m 94 12) (m 94 62) (m 94 17) (m 94 9) (aRt aa ix (qNo (m 100) v2)) := p4_m7
                have p5_m7 : qI (aRt aa ix (qNo (m 100) v2)) := p5_m7
                have p6_m7 : qMG (m 94 58) (m7 106) (m7 115) (m 94 57) (m7 94 56) (m7 99) (m 100) (aRt aa ix (qNo (m 100) v2)) := p6_m7
                have p7_m7 : (aRt aa ix (qNo (m 100) v2)) 87 8 = (m 94 58) := p7_m7
                have p8_m7 : (m7 94 45).toInt = sm (zbU (m7 99)) (m 102) 3100 := p8_m7
                first | have f68 : 0 ≤ (m 100 (m 112 ix.toNatClampNeg).toNatClampNeg).toInt ∧ (m 100 (m 112 ix.toNatClampNeg).toNatClampNeg).toInt ≤ 100000 := ra_100 (m := m) hV (k := (m 112 ix.toNatClampNeg).toNatClampNeg) (i_ix (n := 3100) (by omega) (by omega)).2 | have b69 := i_bd (m 100 (m 112 ix.toNatClampNeg).toNatClampNeg)
                exact K ((m 100 (m 112 ix.toNatClampNeg).toNatClampNeg)) _ (zF_zov (zF_u (zF_zov (zF_u zF_rfl rfl) ws_245_250) rfl) ws_238_250) hV_m7 r_W p0_m7 p1_m7 p2_m7 p3_m7 (show qRB (m7 99) (m 100) (m 98) (m 101) (m 102) (m 103) (m 107) (m 108) (m7 109) (m7 111) (m7 112) (m7 113) (m7 114) (m7 94 55) (m 94 46) (m 94 11) (m 94 12) (m 94 62) (m 94 17) (m 94 9) (xRo aa ix ob) from by first | (rw [Ro_y (by omega) (by omega) (As_y p2_m1 (by omega))]; exact p4_m7; done) | (exfalso; omega; done) | (exfalso; contradiction; done)) (show qI (xRo aa ix ob) from by first | (rw [Ro_y (by omega) (by omega) (As_y p2_m1 (by omega))]; exact p5_m7; done) | (exfalso; omega; done) | (exfalso; contradiction; done)) (show qMG (m 94 58) (m7 106) (m7 115) (m 94 57) (m7 94 56) (m7 99) (m 100) (xRo aa ix ob) from by first | (rw [Ro_y (by omega) (by omega) (As_y p2_m1 (by omega))]; exact p6_m7; done) | (exfalso; omega; done) | (exfalso; contradiction; done)) (show (xRo aa ix ob) 87 8 = (m 94 58) from by first | (rw [Ro_y (by omega) (by omega) (As_y p2_m1 (by omega))]; exact p7_m7; done) | (exfalso; omega; done) | (exfalso; contradiction; done)) p8_m7
              · skip
                have g70 := i_nle h64
                have hV71 : zV (ma_u (zov wr_245 (ma_u m 94 0 (0 : Int32)) m1) 94 0 (0 : Int32)) := uf_94_0 hV_m1
                refine sp_238r0 (aa := aa) (ix) (v2) hV71 (by omega) (by omega) (by omega) (by omega) (show (m 94 10).toInt = 0 ∧ (m 94 58).toInt = 0 from by omega) r_W r_GW r_GU r_OW r_GG r_RB r_QI r_MG r_MK r_WTS (show qU (m 99) v2 from by first | (exact As_u (As_y p2_m1 (by omega))) | (assumption; done) | (exact ow5.1) | (exact ow3.1) | (exfalso; omega; done) | (exfalso; contradiction; done)) (show qMS (m 94 58) aa (qNo (m 100) v2) from by first | (exact As_s (As_y p2_m1 (by omega)) r_MG r_QI) | (exfalso; omega; done) | (exfalso; contradiction; done)) (fun m9 hV_m9 p0_m9 p1_m9 p2_m9 p3_m9 p4_m9 p5_m9 p6_m9 p7_m9 p8_m9 => zmv_n ?_)
                have p0_m9 : zGW T (m9 94 55) (m9 109) := p0_m9
                have p1_m9 : zGU T (m 94 46) (m9 99) := p1_m9
                have p2_m9 : zOw (m9 99) (m 103) (m9 111) := p2_m9
                have p3_m9 : zGG (m 94 58) (m9 94 56) (m 94 57) (m9 106) := p3_m9
                have p4_m9 : qRB (m9 99) (m 100) (m 98) (m 101) (m 102) (m 103) (m 107) (m 108) (m9 109) (m9 111) (m9 112) (m9 113) (m9 114) (m9 94 55) (m 94 46) (m 94 11) (m 94 12) (m 94 62) (m 94 17) (m 94 9) (aRt aa ix (qNo (m 100) v2)) := p4_m9
                have p5_m9 : qI (aRt aa ix (qNo (m 100) v2)) := p5_m9
                have p6_m9 : qMG (m 94 58) (m9 106) (m9 115) (m 94 57) (m9 94 56) (m9 99) (m 100) (aRt aa ix (qNo (m 100) v2)) := p6_m9
                have p7_m9 : (aRt aa ix (qNo (m 100) v2)) 87 8 = (m 94 58) := p7_m9
                have p8_m9 : (m9 94 45).toInt = sm (zbU (m9 99)) (m 102) 3100 := p8_m9
                exact K ((-1 : Int32)) _ (zF_zov (zF_u (zF_zov (zF_u zF_rfl rfl) ws_245_250) rfl) ws_238_250) hV_m9 r_W p0_m9 p1_m9 p2_m9 p3_m9 (show qRB (m9 99) (m 100) (m 98) (m 101) (m 102) (m 103) (m 107) (m 108) (m9 109) (m9 111) (m9 112) (m9 113) (m9 114) (m9 94 55) (m 94 46) (m 94 11) (m 94 12) (m 94 62) (m 94 17) (m 94 9) (xRo aa ix ob) from by first | (rw [Ro_y (by omega) (by omega) (As_y p2_m1 (by omega))]; exact p4_m9; done) | (exfalso; omega; done) | (exfalso; contradiction; done)) (show qI (xRo aa ix ob) from by first | (rw [Ro_y (by omega) (by omega) (As_y p2_m1 (by omega))]; exact p5_m9; done) | (exfalso; omega; done) | (exfalso; contradiction; done)) (show qMG (m 94 58) (m9 106) (m9 115) (m 94 57) (m9 94 56) (m9 99) (m 100) (xRo aa ix ob) from by first | (rw [Ro_y (by omega) (by omega) (As_y p2_m1 (by omega))]; exact p6_m9; done) | (exfalso; omega; done) | (exfalso; contradiction; done)) (show (xRo aa ix ob) 87 8 = (m 94 58) from by first | (rw [Ro_y (by omega) (by omega) (As_y p2_m1 (by omega))]; exact p7_m9; done) | (exfalso; omega; done) | (exfalso; contradiction; done)) p8_m9
            · skip
              have g72 := i_nle h59
              have hV73 : zV (ma_u (zov wr_245 (ma_u m 94 0 (0 : Int32)) m1) 94 0 (3 : Int32)) := uf_94_0 hV_m1
              exact K ((0 : Int32)) _ (zF_u (zF_zov (zF_u zF_rfl rfl) ws_245_250) rfl) hV73 r_W r_GW r_GU r_OW r_GG (show qRB (m 99) (m 100) (m 98) (m 101) (m 102) (m 103) (m 107) (m 108) (m 109) (m 111) (m 112) (m 113) (m 114) (m 94 55) (m 94 46) (m 94 11) (m 94 12) (m 94 62) (m 94 17) (m 94 9) (xRo aa ix ob) from by first | (unfold xRo; rw [qIf_n (Sl_n (Or.inl (by omega)))]; exact r_RB; done) | (unfold xRo; rw [qIf_n (Sl_n (Or.inr (by omega)))]; exact r_RB; done) | (unfold xRo; rw [qIf_n (Sl_r (by assumption) (Re_n p2_m1 (by omega)))]; exact r_RB; done) | (exfalso; omega; done) | (exfalso; contradiction; done)) (show qI (xRo aa ix ob) from by first | (unfold xRo; rw [qIf_n (Sl_n (Or.inl (by omega)))]; exact r_QI; done) | (unfold xRo; rw [qIf_n (Sl_n (Or.inr (by omega)))]; exact r_QI; done) | (unfold xRo; rw [qIf_n (Sl_r (by assumption) (Re_n p2_m1 (by omega)))]; exact r_QI; done) | (exfalso; omega; done) | (exfalso; contradiction; done)) (show qMG (m 94 58) (m 106) (m 115) (m 94 57) (m 94 56) (m 99) (m 100) (xRo aa ix ob) from by first | (unfold xRo; rw [qIf_n (Sl_n (Or.inl (by omega)))]; exact r_MG; done) | (unfold xRo; rw [qIf_n (Sl_n (Or.inr (by omega)))]; exact r_MG; done) | (unfold xRo; rw [qIf_n (Sl_r (by assumption) (Re_n p2_m1 (by omega)))]; exact r_MG; done) | (exfalso; omega; done) | (exfalso; contradiction; done)) (show (xRo aa ix ob) 87 8 = (m 94 58) from by first | (unfold xRo; rw [qIf_n (Sl_n (Or.inl (by omega)))]; exact r_MK; done) | (unfold xRo; rw [qIf_n (Sl_n (Or.inr (by omega)))]; exact r_MK; done) | (unfold xRo; rw [qIf_n (Sl_r (by assumption) (Re_n p2_m1 (by omega)))]; exact r_MK; done) | (exfalso; omega; done) | (exfalso; contradiction; done)) r_WTS

/-! from 95.l06 -/
/-! the reference where it sweeps (written by wip/tools/gen20r.py) -/
theorem sp_251r0 {X : Nat × (Nat → Int32)} {P : Option ma_V → (Nat → Nat → Int32) → Prop} {T : Nat} {aa : Nat→Nat→Int32} {m : Nat → Nat → Int32} (ix : Int32) (ob : Int32) (hV : zV m) (hpre0 : T ≤ 512) (r_W : zW (m 94 7) (m 98) (m 101) (m 102) (m 108)) (r_GW : zGW T (m 94 55) (m 109)) (r_GU : zGU T (m 94 46) (m 99)) (r_OW : zOw (m 99) (m 103) (m 111)) (r_GG : zGG (m 94 58) (m 94 56) (m 94 57) (m 106)) (hpre6 : (m 94 10).toInt = 0 ∧ (m 94 58).toInt = 0) (hpre7 : (m 94 8).toInt = 1) (r_RB : qRB (m 99) (m 100) (m 98) (m 101) (m 102) (m 103) (m 107) (m 108) (m 109) (m 111) (m 112) (m 113) (m 114) (m 94 55) (m 94 46) (m 94 11) (m 94 12) (m 94 62) (m 94 17) (m 94 9) aa) (r_QI : qI aa) (r_MG : qMG (m 94 58) (m 106) (m 115) (m 94 57) (m 94 56) (m 99) (m 100) aa) (r_MK : aa 87 8 = (m 94 58)) (r_WTS : (m 94 45).toInt = sm (zbU (m 99)) (m 102) 3100) (KZ : ∀ v m₉, zV (zov wr_251 m m₉) → (zW (m 94 7) (m 98) (m 101) (m 102) (m 108)) → (zGW T (m 94 55) (m 109)) → (zGU T (m 94 46) (m 99)) → (zOw (m 99) (m 103) (m 111)) → (zGG (m 94 58) (m 94 56) (m 94 57) (m 106)) → (qRB (m 99) (m 100) (m 98) (m 101) (m 102) (m 103) (m 107) (m 108) (m 109) (m 111) (m 112) (m₉ 113) (m 114) (m 94 55) (m 94 46) (m 94 11) (m 94 12) (m 94 62) (m 94 17) (m 94 9) (xWe aa ix ob)) → (qI (xWe aa ix ob)) → (qMG (m 94 58) (m 106) (m 115) (m 94 57) (m 94 56) (m 99) (m 100) (xWe aa ix ob)) → ((xWe aa ix ob) 87 8 = (m 94 58)) → ((m 94 45).toInt = sm (zbU (m 99)) (m 102) 3100) → P (some (.inl v)) (zov wr_251 m m₉)) : zm X 5 109 251 0 [(0, .inr (.inr (some 94))), (1, .inl ix), (2, .inl ob)] m P := by
  have K : ∀ v m₉, zF wr_251 m m₉ → zV m₉ → (zW (m₉ 94 7) (m₉ 98) (m₉ 101) (m₉ 102) (m₉ 108)) → (zGW T (m₉ 94 55) (m₉ 109)) → (zGU T (m₉ 94 46) (m₉ 99)) → (zOw (m₉ 99) (m₉ 103) (m₉ 111)) → (zGG (m₉ 94 58) (m₉ 94 56) (m₉ 94 57) (m₉ 106)) → (qRB (m₉ 99) (m₉ 100) (m₉ 98) (m₉ 101) (m₉ 102) (m₉ 103) (m₉ 107) (m₉ 108) (m₉ 109) (m₉ 111) (m₉ 112) (m₉ 113) (m₉ 114) (m₉ 94 55) (m₉ 94 46) (m₉ 94 11) (m₉ 94 12) (m₉ 94 62) (m₉ 94 17) (m₉ 94 9) (xWe aa ix ob)) → (qI (xWe aa ix ob)) → (qMG (m₉ 94 58) (m₉ 106) (m₉ 115) (m₉ 94 57) (m₉ 94 56) (m₉ 99) (m₉ 100) (xWe aa ix ob)) → ((xWe aa ix ob) 87 8 = (m₉ 94 58)) → ((m₉ 94 45).toInt = sm (zbU (m₉ 99)) (m₉ 102) 3100) → P (some (.inl v)) m₉ := by
    intro v m₉ hf z q0 q1 q2 q3 q4 q5 q6 q7 q8 q9
    have e := zov_eq hf
    rw [e] at z ⊢
    try rw [e] at q0
    try rw [e] at q1
    try rw [e] at q2
    try rw [e] at q3
    try rw [e] at q4
    try rw [e] at q5
    try rw [e] at q6
    try rw [e] at q7
    try rw [e] at q8
    try rw [e] at q9
    exact KZ v m₉ z q0 q1 q2 q3 q4 q5 q6 q7 q8 q9
  refine g_251_0 ix ob ?_
  have f1 : 0 ≤ (m 94 10).toInt ∧ (m 94 10).toInt ≤ 6 := rs_94_10 (m := m) hV
  have f2 : 0 ≤ (m 94 58).toInt ∧ (m 94 58).toInt ≤ 1 := rs_94_58 (m := m) hV
  have f3 : 0 ≤ (m 94 8).toInt ∧ (m 94 8).toInt ≤ 1 := rs_94_8 (m := m) hV
  have b4 := i_bd ix
  have li5 : (0 : Int32).toInt = 0 := rfl
  refine zd (fun (h6 : ix < (0 : Int32)) => ?_) (fun (h6 : ¬ ix < (0 : Int32)) => ?_)
  · skip
    have g7 := i_lt h6
    have hV8 : zV (ma_u m 94 0 (1 : Int32)) := uf_94_0 hV
    exact K ((0 : Int32)) _ (zF_u zF_rfl rfl) hV8 r_W r_GW r_GU r_OW r_GG (show qRB (m 99) (m 100) (m 98) (m 101) (m 102) (m 103) (m 107) (m 108) (m 109) (m 111) (m 112) (m 113) (m 114) (m 94 55) (m 94 46) (m 94 11) (m 94 12) (m 94 62) (m 94 17) (m 94 9) (xWe aa ix ob) from by first | (unfold xWe; rw [qIf_n (Sl_n (Or.inl (by omega)))]; exact r_RB; done) | (unfold xWe; rw [qIf_n (Sl_n (Or.inr (by omega)))]; exact r_RB; done) | (exfalso; omega; done) | (exfalso; contradiction; done)) (show qI (xWe aa ix ob) from by first | (unfold xWe; rw [qIf_n (Sl_n (Or.inl (by omega)))]; exact r_QI; done) | (unfold xWe; rw [qIf_n (Sl_n (Or.inr (by omega)))]; exact r_QI; done) | (exfalso; omega; done) | (exfalso; contradiction; done)) (show qMG (m 94 58) (m 106) (m 115) (m 94 57) (m 94 56) (m 99) (m 100) (xWe aa ix ob) from by first | (unfold xWe; rw [qIf_n (Sl_n (Or.inl (by omega)))]; exact r_MG; done) | (unfold xWe; rw [qIf_n (Sl_n (Or.inr (by omega)))]; exact r_MG; done) | (exfalso; omega; done) | (exfalso; contradiction; done)) (show (xWe aa ix ob) 87 8 = (m 94 58) from by first | (unfold xWe; rw [qIf_n (Sl_n (Or.inl (by omega)))]; exact r_MK; done) | (unfold xWe; rw [qIf_n (Sl_n (Or.inr (by omega)))]; exact r_MK; done) | (exfalso; omega; done) | (exfalso; contradiction; done)) r_WTS
  · skip
    have g9 := i_nlt h6
    have li10 : (16 : Int32).toInt = 16 := rfl
    refine zd (fun (h11 : (16 : Int32) ≤ ix) => ?_) (fun (h11 : ¬ (16 : Int32) ≤ ix) => ?_)
    · skip
      have g12 := i_le h11
      have hV13 : zV (ma_u m 94 0 (1 : Int32)) := uf_94_0 hV
      exact K ((0 : Int32)) _ (zF_u zF_rfl rfl) hV13 r_W r_GW r_GU r_OW r_GG (show qRB (m 99) (m 100) (m 98) (m 101) (m 102) (m 103) (m 107) (m 108) (m 109) (m 111) (m 112) (m 113) (m 114) (m 94 55) (m 94 46) (m 94 11) (m 94 12) (m 94 62) (m 94 17) (m 94 9) (xWe aa ix ob) from by first | (unfold xWe; rw [qIf_n (Sl_n (Or.inl (by omega)))]; exact r_RB; done) | (unfold xWe; rw [qIf_n (Sl_n (Or.inr (by omega)))]; exact r_RB; done) | (exfalso; omega; done) | (exfalso; contradiction; done)) (show qI (xWe aa ix ob) from by first | (unfold xWe; rw [qIf_n (Sl_n (Or.inl (by omega)))]; exact r_QI; done) | (unfold xWe; rw [qIf_n (Sl_n (Or.inr (by omega)))]; exact r_QI; done) | (exfalso; omega; done) | (exfalso; contradiction; done)) (show qMG (m 94 58) (m 106) (m 115) (m 94 57) (m 94 56) (m 99) (m 100) (xWe aa ix ob) from by first | (unfold xWe; rw [qIf_n (Sl_n (Or.inl (by omega)))]; exact r_MG; done) | (unfold xWe; rw [qIf_n (Sl_n (Or.inr (by omega)))]; exact r_MG; done) | (exfalso; omega; done) | (exfalso; contradiction; done)) (show (xWe aa ix ob) 87 8 = (m 94 58) from by first | (unfold xWe; rw [qIf_n (Sl_n (Or.inl (by omega)))]; exact r_MK; done) | (unfold xWe; rw [qIf_n (Sl_n (Or.inr (by omega)))]; exact r_MK; done) | (exfalso; omega; done) | (exfalso; contradiction; done)) r_WTS
    · skip
      have g14 := i_nle h11
      refine zd (fun (h15 : (m 94 8) = (0 : Int32)) => ?_) (fun (h15 : ¬ (m 94 8) = (0 : Int32)) => ?_)
      · skip
        have g16 := i_eq h15
        exfalso; omega
      · skip
        have g17 := i_ne h15
        have b18 := i_bd ob
        have li19 : (-1 : Int32).toInt = -1 := rfl
        refine zd (fun (h20 : ob = (-1 : Int32)) => ?_) (fun (h20 : ¬ ob = (-1 : Int32)) => ?_)
        · skip
          have g21 := i_eq h20
          refine zd (fun (h22 : ob = (-1 : Int32)) => ?_) (fun (h22 : ¬ ob = (-1 : Int32)) => ?_)
          · skip
            have g23 := i_eq h22
            have hg24 : (0 ≤ ix ∧ ix.toNatClampNeg < 16) := i_ix (by omega) (by omega)
            refine ⟨hg24, ?_⟩
            first | have f25 : -1 ≤ (m 113 ix.toNatClampNeg).toInt ∧ (m 113 ix.toNatClampNeg).toInt ≤ 3099 := ra_113 (m := m) hV (k := ix.toNatClampNeg) (i_ix (n := 16) (by omega) (by omega)).2 | have b26 := i_bd (m 113 ix.toNatClampNeg)
            refine zd (fun (h27 : (0 : Int32) ≤ (m 113 ix.toNatClampNeg)) => ?_) (fun (h27 : ¬ (0 : Int32) ≤ (m 113 ix.toNatClampNeg)) => ?_)
            · skip
              have g28 := i_le h27
              have hg29 : (0 ≤ (m 113 ix.toNatClampNeg) ∧ (m 113 ix.toNatClampNeg).toNatClampNeg < 3100) := i_ix (by omega) (by omega)
              refine ⟨hg29, ?_⟩
              have hg30 : (0 ≤ ix ∧ ix.toNatClampNeg < 16) := i_ix (by omega) (by omega)
              refine ⟨hg30, ?_⟩
              have hV31 : zV (ma_u m 94 0 (0 : Int32)) := uf_94_0 hV
              have hV32 : zV (ma_u (ma_u m 94 0 (0 : Int32)) 94 0 (0 : Int32)) := uf_94_0 hV31
              have hV33 : zV (ma_u (ma_u (ma_u m 94 0 (0 : Int32)) 94 0 (0 : Int32)) 113 ix.toNatClampNeg (-1 : Int32)) := ua_113 hV32 (by omega) (by omega)
              first | have f34 : 0 ≤ (m 100 (m 113 ix.toNatClampNeg).toNatClampNeg).toInt ∧ (m 100 (m 113 ix.toNatClampNeg).toNatClampNeg).toInt ≤ 100000 := ra_100 (m := m) hV (k := (m 113 ix.toNatClampNeg).toNatClampNeg) (i_ix (n := 3100) (by omega) (by omega)).2 | have b35 := i_bd (m 100 (m 113 ix.toNatClampNeg).toNatClampNeg)
              exact K ((m 100 (m 113 ix.toNatClampNeg).toNatClampNeg)) _ (zF_u (zF_u (zF_u zF_rfl rfl) rfl) rfl) hV33 r_W r_GW r_GU r_OW r_GG (show qRB (m 99) (m 100) (m 98) (m 101) (m 102) (m 103) (m 107) (m 108) (m 109) (m 111) (m 112) ((ma_u m 113 ix.toNatClampNeg (-1 : Int32)) 113) (m 114) (m 94 55) (m 94 46) (m 94 11) (m 94 12) (m 94 62) (m 94 17) (m 94 9) (xWe aa ix ob) from by first | (rw [We_y r_RB.1 (by omega) (by omega) (As_n (us := (m 99)) (nr := (m 100)) (a := aa) (o := ob) (by assumption))]; exact RB_wk r_RB (As_u (As_n (us := (m 99)) (nr := (m 100)) (a := aa) (o := ob) (by assumption))); done) | (exfalso; omega; done) | (exfalso; contradiction; done)) (show qI (xWe aa ix ob) from by first | (rw [We_y r_RB.1 (by omega) (by omega) (As_n (us := (m 99)) (nr := (m 100)) (a := aa) (o := ob) (by assumption))]; exact I_u r_QI (Or.inr (Or.inl rfl)); done) | (exfalso; omega; done) | (exfalso; contradiction; done)) (show qMG (m 94 58) (m 106) (m 115) (m 94 57) (m 94 56) (m 99) (m 100) (xWe aa ix ob) from by first | (rw [We_y r_RB.1 (by omega) (by omega) (As_n (us := (m 99)) (nr := (m 100)) (a := aa) (o := ob) (by assumption))]; exact MG_u r_MG (Or.inl rfl); done) | (exfalso; omega; done) | (exfalso; contradiction; done)) (show (xWe aa ix ob) 87 8 = (m 94 58) from by first | (rw [We_y r_RB.1 (by omega) (by omega) (As_n (us := (m 99)) (nr := (m 100)) (a := aa) (o := ob) (by assumption))]; rw [un (by decide)]; exact r_MK; done) | (exfalso; omega; done) | (exfalso; contradiction; done)) r_WTS
            · skip
              have g36 := i_nle h27
              have hg37 : (0 ≤ ix ∧ ix.toNatClampNeg < 16) := i_ix (by omega) (by omega)
              refine ⟨hg37, ?_⟩
              have hV38 : zV (ma_u m 94 0 (0 : Int32)) := uf_94_0 hV
              have hV39 : zV (ma_u (ma_u m 94 0 (0 : Int32)) 94 0 (0 : Int32)) := uf_94_0 hV38
              have hV40 : zV (ma_u (ma_u (ma_u m 94 0 (0 : Int32)) 94 0 (0 : Int32)) 113 ix.toNatClampNeg (-1 : Int32)) := ua_113 hV39 (by omega) (by omega)
              exact K ((-1 : Int32)) _ (zF_u (zF_u (zF_u zF_rfl rfl) rfl) rfl) hV40 r_W r_GW r_GU r_OW r_GG (show qRB (m 99) (m 100) (m 98) (m 101) (m 102) (m 103) (m 107) (m 108) (m 109) (m 111) (m 112) ((ma_u m 113 ix.toNatClampNeg (-1 : Int32)) 113) (m 114) (m 94 55) (m 94 46) (m 94 11) (m 94 12) (m 94 62) (m 94 17) (m 94 9) (xWe aa ix ob) from by first | (rw [We_y r_RB.1 (by omega) (by omega) (As_n (us := (m 99)) (nr := (m 100)) (a := aa) (o := ob) (by assumption))]; exact RB_wk r_RB (As_u (As_n (us := (m 99)) (nr := (m 100)) (a := aa) (o := ob) (by assumption))); done) | (exfalso; omega; done) | (exfalso; contradiction; done)) (show qI (xWe aa ix ob) from by first | (rw [We_y r_RB.1 (by omega) (by omega) (As_n (us := (m 99)) (nr := (m 100)) (a := aa) (o := ob) (by assumption))]; exact I_u r_QI (Or.inr (Or.inl rfl)); done) | (exfalso; omega; done) | (exfalso; contradiction; done)) (show qMG (m 94 58) (m 106) (m 115) (m 94 57) (m 94 56) (m 99) (m 100) (xWe aa ix ob) from by first | (rw [We_y r_RB.1 (by omega) (by omega) (As_n (us := (m 99)) (nr := (m 100)) (a := aa) (o := ob) (by assumption))]; exact MG_u r_MG (Or.inl rfl); done) | (exfalso; omega; done) | (exfalso; contradiction; done)) (show (xWe aa ix ob) 87 8 = (m 94 58) from by first | (rw [We_y r_RB.1 (by omega) (by omega) (As_n (us := (m 99)) (nr := (m 100)) (a := aa) (o := ob) (by assumption))]; rw [un (by decide)]; exact r_MK; done) | (exfalso; omega; done) | (exfalso; contradiction; done)) r_WTS
          · skip
            have g41 := i_ne h22
            have hV42 : zV (ma_u m 94 0 (0 : Int32)) := uf_94_0 hV
            have hV43 : zV (ma_u (ma_u m 94 0 (0 : Int32)) 94 0 (3 : Int32)) := uf_94_0 hV42
            exact K ((0 : Int32)) _ (zF_u (zF_u zF_rfl rfl) rfl) hV43 r_W r_GW r_GU r_OW r_GG (show qRB (m 99) (m 100) (m 98) (m 101) (m 102) (m 103) (m 107) (m 108) (m 109) (m 111) (m 112) (m 113) (m 114) (m 94 55) (m 94 46) (m 94 11) (m 94 12) (m 94 62) (m 94 17) (m 94 9) (xWe aa ix ob) from by first | (unfold xWe; rw [qIf_n (Sl_n (Or.inl (by omega)))]; exact r_RB; done) | (unfold xWe; rw [qIf_n (Sl_n (Or.inr (by omega)))]; exact r_RB; done) | (exfalso; omega; done) | (exfalso; contradiction; done)) (show qI (xWe aa ix ob) from by first | (unfold xWe; rw [qIf_n (Sl_n (Or.inl (by omega)))]; exact r_QI; done) | (unfold xWe; rw [qIf_n (Sl_n (Or.inr (by omega)))]; exact r_QI; done) | (exfalso; omega; done) | (exfalso; contradiction; done)) (show qMG (m 94 58) (m 106) (m 115) (m 94 57) (m 94 56) (m 99) (m 100) (xWe aa ix ob) from by first | (unfold xWe; rw [qIf_n (Sl_n (Or.inl (by omega)))]; exact r_MG; done) | (unfold xWe; rw [qIf_n (Sl_n (Or.inr (by omega)))]; exact r_MG; done) | (exfalso; omega; done) | (exfalso; contradiction; done)) (show (xWe aa ix ob) 87 8 = (m 94 58) from by first | (unfold xWe; rw [qIf_n (Sl_n (Or.inl (by omega)))]; exact r_MK; done) | (unfold xWe; rw [qIf_n (Sl_n (Or.inr (by omega)))]; exact r_MK; done) | (exfalso; omega; done) | (exfalso; contradiction; done)) r_WTS
        · skip
          have g44 := i_ne h20
          have hV45 : zV (ma_u m 94 0 (0 : Int32)) := uf_94_0 hV
          refine sp_245r (aa := aa) (ob) hV45 r_W r_RB r_QI (fun v2 m1 hV_m1 p0_m1 p1_m1 p2_m1 => zmi_n ?_)
          have p0_m1 : -1 ≤ v2.toInt ∧ v2.toInt ≤ 3099 := p0_m1
          have p1_m1 : v2.toInt < 0 ∨ (m 99) v2.toNatClampNeg ≠ 0 := p1_m1
          have p2_m1 : qRe (m 99) (m 100) aa ob v2 := p2_m1
          refine zd (fun (h46 : ob = (-1 : Int32)) => ?_) (fun (h46 : ¬ ob = (-1 : Int32)) => ?_)
          · skip
            have g47 := i_eq h46
            have hg48 : (0 ≤ ix ∧ ix.toNatClampNeg < 16) := i_ix (by omega) (by omega)
            refine ⟨hg48, ?_⟩
            first | have f49 : -1 ≤ (m 113 ix.toNatClampNeg).toInt ∧ (m 113 ix.toNatClampNeg).toInt ≤ 3099 := ra_113 (m := m) hV (k := ix.toNatClampNeg) (i_ix (n := 16) (by omega) (by omega)).2 | have b50 := i_bd (m 113 ix.toNatClampNeg)
            refine zd (fun (h51 : (0 : Int32) ≤ (m 113 ix.toNatClampNeg)) => ?_) (fun (h51 : ¬ (0 : Int32) ≤ (m 113 ix.toNatClampNeg)) => ?_)
            · skip
              have g52 := i_le h51
              have hg53 : (0 ≤ (m 113 ix.toNatClampNeg) ∧ (m 113 ix.toNatClampNeg).toNatClampNeg < 3100) := i_ix (by omega) (by omega)
              refine ⟨hg53, ?_⟩
              have hg54 : (0 ≤ ix ∧ ix.toNatClampNeg < 16) := i_ix (by omega) (by omega)
              refine ⟨hg54, ?_⟩
              have hV55 : zV (ma_u (zov wr_245 (ma_u m 94 0 (0 : Int32)) m1) 94 0 (0 : Int32)) := uf_94_0 hV_m1
              have b57 := i_bd v2
              have hV56 : zV (ma_u (ma_u (zov wr_245 (ma_u m 94 0 (0 : Int32)) m1) 94 0 (0 : Int32)) 113 ix.toNatClampNeg v2) := ua_113 hV55 (by omega) (by omega)
              first | have f58 : 0 ≤ (m 100 (m 113 ix.toNatClampNeg).toNatClampNeg).toInt ∧ (m 100 (m 113 ix.toNatClampNeg).toNatClampNeg).toInt ≤ 100000 := ra_100 (m := m) hV (k := (m 113 ix.toNatClampNeg).toNatClampNeg) (i_ix (n := 3100) (by omega) (by omega)).2 | have b59 := i_bd (m 100 (m 113 ix.toNatClampNeg).toNatClampNeg)
              exact K ((m 100 (m 113 ix.toNatClampNeg).toNatClampNeg)) _ (zF_u (zF_u (zF_zov (zF_u zF_rfl rfl) ws_245_251) rfl) rfl) hV56 r_W r_GW r_GU r_OW r_GG (show qRB (m 99) (m 100) (m 98) (m 101) (m 102) (m 103) (m 107) (m 108) (m 109) (m 111) (m 112) ((ma_u m 113 ix.toNatClampNeg v2) 113) (m 114) (m 94 55) (m 94 46) (m 94 11) (m 94 12) (m 94 62) (m 94 17) (m 94 9) (xWe aa ix ob) from by first | (rw [We_y r_RB.1 (by omega) (by omega) (As_y p2_m1 (by omega))]; exact RB_wk r_RB (As_u (As_y p2_m1 (by omega))); done) | (exfalso; omega; done) | (exfalso; contradiction; done)) (show qI (xWe aa ix ob) from by first | (rw [We_y r_RB.1 (by omega) (by omega) (As_y p2_m1 (by omega))]; exact I_u r_QI (Or.inr (Or.inl rfl)); done) | (exfalso; omega; done) | (exfalso; contradiction; done)) (show qMG (m 94 58) (m 106) (m 115) (m 94 57) (m 94 56) (m 99) (m 100) (xWe aa ix ob) from by first | (rw [We_y r_RB.1 (by omega) (by omega) (As_y p2_m1 (by omega))]; exact MG_u r_MG (Or.inl rfl); done) | (exfalso; omega; done) | (exfalso; contradiction; done)) (show (xWe aa ix ob) 87 8 = (m 94 58) from by first | (rw [We_y r_RB.1 (by omega) (by omega) (As_y p2_m1 (by omega))]; rw [un (by decide)]; exact r_MK; done) | (exfalso; omega; done) | (exfalso; contradiction; done)) r_WTS
            · skip
              have g60 := i_nle h51
              have hg61 : (0 ≤ ix ∧ ix.toNatClampNeg < 16) := i_ix (by omega) (by omega)
              refine ⟨hg61, ?_⟩
              have hV62 : zV (ma_u (zov wr_245 (ma_u m 94 0 (0 : Int32)) m1) 94 0 (0 : Int32)) := uf_94_0 hV_m1
              have b64 := i_bd v2
              have hV63 : zV (ma_u (ma_u (zov wr_245 (ma_u m 94 0 (0 : Int32)) m1) 94 0 (0 : Int32)) 113 ix.toNatClampNeg v2) := ua_113 hV62 (by omega) (by omega)
              exact K ((-1 : Int32)) _ (zF_u (zF_u (zF_zov (zF_u zF_rfl rfl) ws_245_251) rfl) rfl) hV63 r_W r_GW r_GU r_OW r_GG (show qRB (m 99) (m 100) (m 98) (m 101) (m 102) (m 103) (m 107) (m 108) (m 109) (m 111) (m 112) ((ma_u m 113 ix.toNatClampNeg v2) 113) (m 114) (m 94 55) (m 94 46) (m 94 11) (m 94 12) (m 94 62) (m 94 17) (m 94 9) (xWe aa ix ob) from by first | (rw [We_y r_RB.1 (by omega) (by omega) (As_y p2_m1 (by omega))]; exact RB_wk r_RB (As_u (As_y p2_m1 (by omega))); done) | (exfalso; omega; done) | (exfalso; contradiction; done)) (show qI (xWe aa ix ob) from by first | (rw [We_y r_RB.1 (by omega) (by omega) (As_y p2_m1 (by omega))]; exact I_u r_QI (Or.inr (Or.inl rfl)); done) | (exfalso; omega; done) | (exfalso; contradiction; done)) (show qMG (m 94 58) (m 106) (m 115) (m 94 57) (m 94 56) (m 99) (m 100) (xWe aa ix ob) from by first | (rw [We_y r_RB.1 (by omega) (by omega) (As_y p2_m1 (by omega))]; exact MG_u r_MG (Or.inl rfl); done) | (exfalso; omega; done) | (exfalso; contradiction; done)) (show (xWe aa ix ob) 87 8 = (m 94 58) from by first | (rw [We_y r_RB.1 (by omega) (by omega) (As_y p2_m1 (by omega))]; rw [un (by decide)]; exact r_MK; done) | (exfalso; omega; done) | (exfalso; contradiction; done)) r_WTS
          · skip
            have g65 := i_ne h46
            have b66 := i_bd v2
            refine zd (fun (h67 : (0 : Int32) ≤ v2) => ?_) (fun (h67 : ¬ (0 : Int32) ≤ v2) => ?_)
            · skip
              have g68 := i_le h67
              have hg69 : (0 ≤ ix ∧ ix.toNatClampNeg < 16) := i_ix (by omega) (by omega)
              refine ⟨hg69, ?_⟩
              first | have f70 : -1 ≤ (m 113 ix.toNatClampNeg).toInt ∧ (m 113 ix.toNatClampNeg).toInt ≤ 3099 := ra_113 (m := m) hV (k := ix.toNatClampNeg) (i_ix (n := 16) (by omega) (by omega)).2 | have b71 := i_bd (m 113 ix.toNatClampNeg)
              refine zd (fun (h72 : (0 : Int32) ≤ (m 113 ix.toNatClampNeg)) => ?_) (fun (h72 : ¬ (0 : Int32) ≤ (m 113 ix.toNatClampNeg)) => ?_)
              · skip
                have g73 := i_le h72
                have hg74 : (0 ≤ (m 113 ix.toNatClampNeg) ∧ (m 113 ix.toNatClampNeg).toNatClampNeg < 3100) := i_ix (by omega) (by omega)
                refine ⟨hg74, ?_⟩
                have hg75 : (0 ≤ ix ∧ ix.toNatClampNeg < 16) := i_ix (by omega) (by omega)
                refine ⟨hg75, ?_⟩
                have hV76 : zV (ma_u (zov wr_245 (ma_u m 94 0 (0 : Int32)) m1) 94 0 (0 : Int32)) := uf_94_0 hV_m1
                have hV77 : zV (ma_u (ma_u (zov wr_245 (ma_u m 94 0 (0 : Int32)) m1) 94 0 (0 : Int32)) 113 ix.toNatClampNeg v2) := ua_113 hV76 (by omega) (by omega)
                first | have f78 : 0 ≤ (m 100 (m 113 ix.toNatClampNeg).toNatClampNeg).toInt ∧ (m 100 (m 113 ix.toNatClampNeg).toNatClampNeg).toInt ≤ 100000 := ra_100 (m := m) hV (k := (m 113 ix.toNatClampNeg).toNatClampNeg) (i_ix (n := 3100) (by omega) (by omega)).2 | have b79 := i_bd (m 100 (m 113 ix.toNatClampNeg).toNatClampNeg)
                exact K ((m 100 (m 113 ix.toNatClampNeg).toNatClampNeg)) _ (zF_u (zF_u (zF_zov (zF_u zF_rfl rfl) ws_245_251) rfl) rfl) hV77 r_W r_GW r_GU r_OW r_GG (show qRB (m 99) (m 100) (m 98) (m 101) (m 102) (m 103) (m 107) (m 108) (m 109) (m 111) (m 112) ((ma_u m 113 ix.toNatClampNeg v2) 113) (m 114) (m 94 55) (m 94 46) (m 94 11) (m 94 12) (m 94 62) (m 94 17) (m 94 9) (xWe aa ix ob) from by first | (rw [We_y r_RB.1 (by omega) (by omega) (As_y p2_m1 (by omega))]; exact RB_wk r_RB (As_u (As_y p2_m1 (by omega))); done) | (exfalso; omega; done) | (exfalso; contradiction; done)) (show qI (xWe aa ix ob) from by first | (rw [We_y r_RB.1 (by omega) (by omega) (As_y p2_m1 (by omega))]; exact I_u r_QI (Or.inr (Or.inl rfl)); done) | (exfalso; omega; done) | (exfalso; contradiction; done)) (show qMG (m 94 58) (m 106) (m 115) (m 94 57) (m 94 56) (m 99) (m 100) (xWe aa ix ob) from by first | (rw [We_y r_RB.1 (by omega) (by omega) (As_y p2_m1 (by omega))]; exact MG_u r_MG (Or.inl rfl); done) | (exfalso; omega; done) | (exfalso; contradiction; done)) (show (xWe aa ix ob) 87 8 = (m 94 58) from by first | (rw [We_y r_RB.1 (by omega) (by omega) (As_y p2_m1 (by omega))]; rw [un (by decide)]; exact r_MK; done) | (exfalso; omega; done) | (exfalso; contradiction; done)) r_WTS
              · skip
                have g80 := i_nle h72
                have hg81 : (0 ≤ ix ∧ ix.toNatClampNeg < 16) := i_ix (by omega) (by omega)
                refine ⟨hg81, ?_⟩
                have hV82 : zV (ma_u (zov wr_245 (ma_u m 94 0 (0 : Int32)) m1) 94 0 (0 : Int32)) := uf_94_0 hV_m1
                have hV83 : zV (ma_u (ma_u (zov wr_245 (ma_u m 94 0 (0 : Int32)) m1) 94 0 (0 : Int32)) 113 ix.toNatClampNeg v2) := ua_113 hV82 (by omega) (by omega)
                exact K ((-1 : Int32)) _ (zF_u (zF_u (zF_zov (zF_u zF_rfl rfl) ws_245_251) rfl) rfl) hV83 r_W r_GW r_GU r_OW r_GG (show qRB (m 99) (m 100) (m 98) (m 101) (m 102) (m 103) (m 107) (m 108) (m 109) (m 111) (m 112) ((ma_u m 113 ix.toNatClampNeg v2) 113) (m 114) (m 94 55) (m 94 46) (m 94 11) (m 94 12) (m 94 62) (m 94 17) (m 94 9) (xWe aa ix ob) from by first | (rw [We_y r_RB.1 (by omega) (by omega) (As_y p2_m1 (by omega))]; exact RB_wk r_RB (As_u (As_y p2_m1 (by omega))); done) | (exfalso; omega; done) | (exfalso; contradiction; done)) (show qI (xWe aa ix ob) from by first | (rw [We_y r_RB.1 (by omega) (by omega) (As_y p2_m1 (by omega))]; exact I_u r_QI (Or.inr (Or.inl rfl)); done) | (exfalso; omega; done) | (exfalso; contradiction; done)) (show qMG (m 94 58) (m 106) (m 115) (m 94 57) (m 94 56) (m 99) (m 100) (xWe aa ix ob) from by first | (rw [We_y r_RB.1 (by omega) (by omega) (As_y p2_m1 (by omega))]; exact MG_u r_MG (Or.inl rfl); done) | (exfalso; omega; done) | (exfalso; contradiction; done)) (show (xWe aa ix ob) 87 8 = (m 94 58) from by first | (rw [We_y r_RB.1 (by omega) (by omega) (As_y p2_m1 (by omega))]; rw [un (by decide)]; exact r_MK; done) | (exfalso; omega; done) | (exfalso; contradiction; done)) r_WTS
            · skip
              have g84 := i_nle h67
              have hV85 : zV (ma_u (zov wr_245 (ma_u m 94 0 (0 : Int32)) m1) 94 0 (3 : Int32)) := uf_94_0 hV_m1
              exact K ((0 : Int32)) _ (zF_u (zF_zov (zF_u zF_rfl rfl) ws_245_251) rfl) hV85 r_W r_GW r_GU r_OW r_GG (show qRB (m 99) (m 100) (m 98) (m 101) (m 102) (m 103) (m 107) (m 108) (m 109) (m 111) (m 112) (m 113) (m 114) (m 94 55) (m 94 46) (m 94 11) (m 94 12) (m 94 62) (m 94 17) (m 94 9) (xWe aa ix ob) from by first | (unfold xWe; rw [qIf_n (Sl_n (Or.inl (by omega)))]; exact r_RB; done) | (unfold xWe; rw [qIf_n (Sl_n (Or.inr (by omega)))]; exact r_RB; done) | (unfold xWe; rw [qIf_n (Sl_r (by assumption) (Re_n p2_m1 (by omega)))]; exact r_RB; done) | (exfalso; omega; done) | (exfalso; contradiction; done)) (show qI (xWe aa ix ob) from by first | (unfold xWe; rw [qIf_n (Sl_n (Or.inl (by omega)))]; exact r_QI; done) | (unfold xWe; rw [qIf_n (Sl_n (Or.inr (by omega)))]; exact r_QI; done) | (unfold xWe; rw [qIf_n (Sl_r (by assumption) (Re_n p2_m1 (by omega)))]; exact r_QI; done) | (exfalso; omega; done) | (exfalso; contradiction; done)) (show qMG (m 94 58) (m 106) (m 115) (m 94 57) (m 94 56) (m 99) (m 100) (xWe aa ix ob) from by first | (unfold xWe; rw [qIf_n (Sl_n (Or.inl (by omega)))]; exact r_MG; done) | (unfold xWe; rw [qIf_n (Sl_n (Or.inr (by omega)))]; exact r_MG; done) | (unfold xWe; rw [qIf_n (Sl_r (by assumption) (Re_n p2_m1 (by omega)))]; exact r_MG; done) | (exfalso; omega; done) | (exfalso; contradiction; done)) (show (xWe aa ix ob) 87 8 = (m 94 58) from by first | (unfold xWe; rw [qIf_n (Sl_n (Or.inl (by omega)))]; exact r_MK; done) | (unfold xWe; rw [qIf_n (Sl_n (Or.inr (by omega)))]; exact r_MK; done) | (unfold xWe; rw [qIf_n (Sl_r (by assumption) (Re_n p2_m1 (by omega)))]; exact r_MK; done) | (exfalso; omega; done) | (exfalso; contradiction; done)) r_WTS
theorem sp_254r0 {X : Nat × (Nat → Int32)} {P : Option ma_V → (Nat → Nat → Int32) → Prop} {T : Nat} {aa : Nat→Nat→Int32} {m : Nat → Nat → Int32} (ob : Int32) (hV : zV m) (hpre0 : T + 1 ≤ 3000) (hpre1 : T ≤ 512) (r_W : zW (m 94 7) (m 98) (m 101) (m 102) (m 108)) (r_GW : zGW T (m 94 55) (m 109)) (r_GU : zGU T (m 94 46) (m 99)) (r_OW : zOw (m 99) (m 103) (m 111)) (r_GG : zGG (m 94 58) (m 94 56) (m 94 57) (m 106)) (hpre7 : (m 94 10).toInt = 0 ∧ (m 94 58).toInt = 0) (hpre8 : (m 94 8).toInt = 1) (r_RB : qRB (m 99) (m 100) (m 98) (m 101) (m 102) (m 103) (m 107) (m 108) (m 109) (m 111) (m 112) (m 113) (m 114) (m 94 55) (m 94 46) (m 94 11) (m 94 12) (m 94 62) (m 94 17) (m 94 9) aa) (r_QI : qI aa) (r_MG : qMG (m 94 58) (m 106) (m 115) (m 94 57) (m 94 56) (m 99) (m 100) aa) (r_MK : aa 87 8 = (m 94 58)) (r_WTS : (m 94 45).toInt = sm (zbU (m 99)) (m 102) 3100) (KZ : ∀ v m₉, zV (zov wr_254 m m₉) → (zW (m 94 7) (m 98) (m 101) (m 102) (m 108)) → (zGW (T + 1) (m 94 55) (m₉ 109)) → (zGU T (m 94 46) (m 99)) → (zOw (m 99) (m 103) (m 111)) → (zGG (m 94 58) (m 94 56) (m 94 57) (m 106)) → (qRB (m 99) (m 100) (m 98) (m 101) (m 102) (m 103) (m 107) (m 108) (m₉ 109) (m 111) (m 112) (m 113) (m 114) (m 94 55) (m 94 46) (m 94 11) (m 94 12) (m 94 62) (m 94 17) (m 94 9) (xWi aa ob)) → (qI (xWi aa ob)) → (qMG (m 94 58) (m 106) (m 115) (m 94 57) (m 94 56) (m 99) (m 100) (xWi aa ob)) → ((xWi aa ob) 87 8 = (m 94 58)) → ((m 94 45).toInt = sm (zbU (m 99)) (m 102) 3100) → P (some (.inl v)) (zov wr_254 m m₉)) : zm X 5 109 254 0 [(0, .inr (.inr (some 94))), (1, .inl ob)] m P := by
  have K : ∀ v m₉, zF wr_254 m m₉ → zV m₉ → (zW (m₉ 94 7) (m₉ 98) (m₉ 101) (m₉ 102) (m₉ 108)) → (zGW (T + 1) (m₉ 94 55) (m₉ 109)) → (zGU T (m₉ 94 46) (m₉ 99)) → (zOw (m₉ 99) (m₉ 103) (m₉ 111)) → (zGG (m₉ 94 58) (m₉ 94 56) (m₉ 94 57) (m₉ 106)) → (qRB (m₉ 99) (m₉ 100) (m₉ 98) (m₉ 101) (m₉ 102) (m₉ 103) (m₉ 107) (m₉ 108) (m₉ 109) (m₉ 111) (m₉ 112) (m₉ 113) (m₉ 114) (m₉ 94 55) (m₉ 94 46) (m₉ 94 11) (m₉ 94 12) (m₉ 94 62) (m₉ 94 17) (m₉ 94 9) (xWi aa ob)) → (qI (xWi aa ob)) → (qMG (m₉ 94 58) (m₉ 106) (m₉ 115) (m₉ 94 57) (m₉ 94 56) (m₉ 99) (m₉ 100) (xWi aa ob)) → ((xWi aa ob) 87 8 = (m₉ 94 58)) → ((m₉ 94 45).toInt = sm (zbU (m₉ 99)) (m₉ 102) 3100) → P (some (.inl v)) m₉ := by
    intro v m₉ hf z q0 q1 q2 q3 q4 q5 q6 q7 q8 q9
    have e := zov_eq hf
    rw [e] at z ⊢
    try rw [e] at q0
    try rw [e] at q1
    try rw [e] at q2
    try rw [e] at q3
    try rw [e] at q4
    try rw [e] at q5
    try rw [e] at q6
    try rw [e] at q7
    try rw [e] at q8
    try rw [e] at q9
    exact KZ v m₉ z q0 q1 q2 q3 q4 q5 q6 q7 q8 q9
  refine g_254_0 ob ?_
  have f1 : 0 ≤ (m 94 10).toInt ∧ (m 94 10).toInt ≤ 6 := rs_94_10 (m := m) hV
  have f2 : 0 ≤ (m 94 58).toInt ∧ (m 94 58).toInt ≤ 1 := rs_94_58 (m := m) hV
  have f3 : 0 ≤ (m 94 8).toInt ∧ (m 94 8).toInt ≤ 1 := rs_94_8 (m := m) hV
  have li4 : (0 : Int32).toInt = 0 := rfl
  refine zd (fun (h5 : (m 94 8) = (0 : Int32)) => ?_) (fun (h5 : ¬ (m 94 8) = (0 : Int32)) => ?_)
  · skip
    have g6 := i_eq h5
    exfalso; omega
  · skip
    have g7 := i_ne h5
    have b8 := i_bd ob
    have hV9 : zV (ma_u m 94 0 (0 : Int32)) := uf_94_0 hV
    refine sp_245r (aa := aa) (ob) hV9 r_W r_RB r_QI (fun v2 m1 hV_m1 p0_m1 p1_m1 p2_m1 => zmi_n ?_)
    have p0_m1 : -1 ≤ v2.toInt ∧ v2.toInt ≤ 3099 := p0_m1
    have p1_m1 : v2.toInt < 0 ∨ (m 99) v2.toNatClampNeg ≠ 0 := p1_m1
    have p2_m1 : qRe (m 99) (m 100) aa ob v2 := p2_m1
    have b10 := i_bd v2
    refine zd (fun (h11 : (0 : Int32) ≤ v2) => ?_) (fun (h11 : ¬ (0 : Int32) ≤ v2) => ?_)
    · skip
      have g12 := i_le h11
      have hg13 : (0 ≤ v2 ∧ v2.toNatClampNeg < 3100) := i_ix (by omega) (by omega)
      refine ⟨hg13, ?_⟩
      first | have f14 : 0 ≤ (m 109 v2.toNatClampNeg).toInt ∧ (m 109 v2.toNatClampNeg).toInt ≤ 1 := ra_109 (m := m) hV (k := v2.toNatClampNeg) (i_ix (n := 3100) (by omega) (by omega)).2 | have b15 := i_bd (m 109 v2.toNatClampNeg)
      refine zd (fun (h16 : (m 109 v2.toNatClampNeg) = (0 : Int32)) => ?_) (fun (h16 : ¬ (m 109 v2.toNatClampNeg) = (0 : Int32)) => ?_)
      · skip
        have g17 := i_eq h16
        have hg18 : (0 ≤ v2 ∧ v2.toNatClampNeg < 3100) := i_ix (by omega) (by omega)
        refine ⟨hg18, ?_⟩
        have hV19 : zV (ma_u (zov wr_245 (ma_u m 94 0 (0 : Int32)) m1) 94 0 (0 : Int32)) := uf_94_0 hV_m1
        have li21 : (1 : Int32).toInt = 1 := rfl
        have hV20 : zV (ma_u (ma_u (zov wr_245 (ma_u m 94 0 (0 : Int32)) m1) 94 0 (0 : Int32)) 109 v2.toNatClampNeg (1 : Int32)) := ua_109 hV19 (by omega) (by omega)
        exact K ((1 : Int32)) _ (zF_u (zF_u (zF_zov (zF_u zF_rfl rfl) ws_245_254) rfl) rfl) hV20 r_W (show zGW (T + 1) (m 94 55) ((ma_u m 109 v2.toNatClampNeg (1 : Int32)) 109) from by first | (exact GW_more r_GW (by omega)) | (exfalso; omega; done) | (exfalso; contradiction; done)) r_GU r_OW r_GG (show qRB (m 99) (m 100) (m 98) (m 101) (m 102) (m 103) (m 107) (m 108) ((ma_u m 109 v2.toNatClampNeg (1 : Int32)) 109) (m 111) (m 112) (m 113) (m 114) (m 94 55) (m 94 46) (m 94 11) (m 94 12) (m 94 62) (m 94 17) (m 94 9) (xWi aa ob) from by first | (rw [Wi_y p2_m1 (by omega)]; exact RB_wi r_RB (by omega) (Re_y p2_m1 (by omega)).2.1; done) | (exfalso; omega; done) | (exfalso; contradiction; done)) (show qI (xWi aa ob) from by first | (rw [Wi_y p2_m1 (by omega)]; exact I_u r_QI (Or.inr (Or.inr (Or.inr rfl))); done) | (exfalso; omega; done) | (exfalso; contradiction; done)) (show qMG (m 94 58) (m 106) (m 115) (m 94 57) (m 94 56) (m 99) (m 100) (xWi aa ob) from by first | (rw [Wi_y p2_m1 (by omega)]; exact MG_u r_MG (Or.inr rfl); done) | (exfalso; omega; done) | (exfalso; contradiction; done)) (show (xWi aa ob) 87 8 = (m 94 58) from by first | (rw [Wi_y p2_m1 (by omega)]; rw [un (by decide)]; exact r_MK; done) | (exfalso; omega; done) | (exfalso; contradiction; done)) r_WTS
      · skip
        have g22 := i_ne h16
        have hg23 : (0 ≤ v2 ∧ v2.toNatClampNeg < 3100) := i_ix (by omega) (by omega)
        refine ⟨hg23, ?_⟩
        have hV24 : zV (ma_u (zov wr_245 (ma_u m 94 0 (0 : Int32)) m1) 94 0 (0 : Int32)) := uf_94_0 hV_m1
        have li26 : (1 : Int32).toInt = 1 := rfl
        have hV25 : zV (ma_u (ma_u (zov wr_245 (ma_u m 94 0 (0 : Int32)) m1) 94 0 (0 : Int32)) 109 v2.toNatClampNeg (1 : Int32)) := ua_109 hV24 (by omega) (by omega)
        exact K ((0 : Int32)) _ (zF_u (zF_u (zF_zov (zF_u zF_rfl rfl) ws_245_254) rfl) rfl) hV25 r_W (show zGW (T + 1) (m 94 55) ((ma_u m 109 v2.toNatClampNeg (1 : Int32)) 109) from by first | (exact GW_more r_GW (by omega)) | (exfalso; omega; done) | (exfalso; contradiction; done)) r_GU r_OW r_GG (show qRB (m 99) (m 100) (m 98) (m 101) (m 102) (m 103) (m 107) (m 108) ((ma_u m 109 v2.toNatClampNeg (1 : Int32)) 109) (m 111) (m 112) (m 113) (m 114) (m 94 55) (m 94 46) (m 94 11) (m 94 12) (m 94 62) (m 94 17) (m 94 9) (xWi aa ob) from by first | (rw [Wi_y p2_m1 (by omega)]; exact RB_wi r_RB (by omega) (Re_y p2_m1 (by omega)).2.1; done) | (exfalso; omega; done) | (exfalso; contradiction; done)) (show qI (xWi aa ob) from by first | (rw [Wi_y p2_m1 (by omega)]; exact I_u r_QI (Or.inr (Or.inr (Or.inr rfl))); done) | (exfalso; omega; done) | (exfalso; contradiction; done)) (show qMG (m 94 58) (m 106) (m 115) (m 94 57) (m 94 56) (m 99) (m 100) (xWi aa ob) from by first | (rw [Wi_y p2_m1 (by omega)]; exact MG_u r_MG (Or.inr rfl); done) | (exfalso; omega; done) | (exfalso; contradiction; done)) (show (xWi aa ob) 87 8 = (m 94 58) from by first | (rw [Wi_y p2_m1 (by omega)]; rw [un (by decide)]; exact r_MK; done) | (exfalso; omega; done) | (exfalso; contradiction; done)) r_WTS
    · skip
      have g27 := i_nle h11
      have hV28 : zV (ma_u (zov wr_245 (ma_u m 94 0 (0 : Int32)) m1) 94 0 (2 : Int32)) := uf_94_0 hV_m1
      exact K ((0 : Int32)) _ (zF_u (zF_zov (zF_u zF_rfl rfl) ws_245_254) rfl) hV28 r_W (show zGW (T + 1) (m 94 55) (m 109) from by first | (exact GW_up r_GW (by omega)) | (exfalso; omega; done) | (exfalso; contradiction; done)) r_GU r_OW r_GG (show qRB (m 99) (m 100) (m 98) (m 101) (m 102) (m 103) (m 107) (m 108) (m 109) (m 111) (m 112) (m 113) (m 114) (m 94 55) (m 94 46) (m 94 11) (m 94 12) (m 94 62) (m 94 17) (m 94 9) (xWi aa ob) from by first | (unfold xWi; rw [qIf_n (Re_n p2_m1 (by omega))]; exact r_RB; done) | (exfalso; omega; done) | (exfalso; contradiction; done)) (show qI (xWi aa ob) from by first | (unfold xWi; rw [qIf_n (Re_n p2_m1 (by omega))]; exact r_QI; done) | (exfalso; omega; done) | (exfalso; contradiction; done)) (show qMG (m 94 58) (m 106) (m 115) (m 94 57) (m 94 56) (m 99) (m 100) (xWi aa ob) from by first | (unfold xWi; rw [qIf_n (Re_n p2_m1 (by omega))]; exact r_MG; done) | (exfalso; omega; done) | (exfalso; contradiction; done)) (show (xWi aa ob) 87 8 = (m 94 58) from by first | (unfold xWi; rw [qIf_n (Re_n p2_m1 (by omega))]; exact r_MK; done) | (exfalso; omega; done) | (exfalso; contradiction; done)) r_WTS

/-! from 95.l07 -/
/-! the reference where it sweeps (written by wip/tools/gen20r.py) -/
theorem sp_253r0 {X : Nat × (Nat → Int32)} {P : Option ma_V → (Nat → Nat → Int32) → Prop} {T : Nat} {aa : Nat→Nat→Int32} {m : Nat → Nat → Int32} (ob : Int32) (on : Int32) (hV : zV m) (hpre0 : 0 ≤ on.toInt) (hpre1 : on.toInt ≤ 1) (hpre2 : T ≤ 512) (r_W : zW (m 94 7) (m 98) (m 101) (m 102) (m 108)) (r_GW : zGW T (m 94 55) (m 109)) (r_GU : zGU T (m 94 46) (m 99)) (r_OW : zOw (m 99) (m 103) (m 111)) (r_GG : zGG (m 94 58) (m 94 56) (m 94 57) (m 106)) (hpre8 : (m 94 10).toInt = 0 ∧ (m 94 58).toInt = 0) (hpre9 : (m 94 8).toInt = 1) (r_RB : qRB (m 99) (m 100) (m 98) (m 101) (m 102) (m 103) (m 107) (m 108) (m 109) (m 111) (m 112) (m 113) (m 114) (m 94 55) (m 94 46) (m 94 11) (m 94 12) (m 94 62) (m 94 17) (m 94 9) aa) (r_QI : qI aa) (r_MG : qMG (m 94 58) (m 106) (m 115) (m 94 57) (m 94 56) (m 99) (m 100) aa) (r_MK : aa 87 8 = (m 94 58)) (r_WTS : (m 94 45).toInt = sm (zbU (m 99)) (m 102) 3100) (KZ : ∀ v m₉, zV (zov wr_253 m m₉) → (zW (m 94 7) (m 98) (m 101) (m 102) (m 108)) → (zGW T (m₉ 94 55) (m₉ 109)) → (zGU T (m 94 46) (m₉ 99)) → (zOw (m₉ 99) (m 103) (m₉ 111)) → (zGG (m 94 58) (m 94 56) (m 94 57) (m 106)) → (qRB (m₉ 99) (m 100) (m 98) (m 101) (m 102) (m 103) (m₉ 107) (m 108) (m₉ 109) (m₉ 111) (m 112) (m₉ 113) (m₉ 114) (m₉ 94 55) (m 94 46) (m 94 11) (m 94 12) (m 94 62) (m 94 17) (m 94 9) (xHo aa ob on)) → (qI (xHo aa ob on)) → (qMG (m 94 58) (m 106) (m 115) (m 94 57) (m 94 56) (m₉ 99) (m 100) (xHo aa ob on)) → ((xHo aa ob on) 87 8 = (m 94 58)) → ((m₉ 94 45).toInt = sm (zbU (m₉ 99)) (m 102) 3100) → P (some (.inl v)) (zov wr_253 m m₉)) : zm X 5 109 253 0 [(0, .inr (.inr (some 94))), (1, .inl ob), (2, .inl on)] m P := by
  have K : ∀ v m₉, zF wr_253 m m₉ → zV m₉ → (zW (m₉ 94 7) (m₉ 98) (m₉ 101) (m₉ 102) (m₉ 108)) → (zGW T (m₉ 94 55) (m₉ 109)) → (zGU T (m₉ 94 46) (m₉ 99)) → (zOw (m₉ 99) (m₉ 103) (m₉ 111)) → (zGG (m₉ 94 58) (m₉ 94 56) (m₉ 94 57) (m₉ 106)) → (qRB (m₉ 99) (m₉ 100) (m₉ 98) (m₉ 101) (m₉ 102) (m₉ 103) (m₉ 107) (m₉ 108) (m₉ 109) (m₉ 111) (m₉ 112) (m₉ 113) (m₉ 114) (m₉ 94 55) (m₉ 94 46) (m₉ 94 11) (m₉ 94 12) (m₉ 94 62) (m₉ 94 17) (m₉ 94 9) (xHo aa ob on)) → (qI (xHo aa ob on)) → (qMG (m₉ 94 58) (m₉ 106) (m₉ 115) (m₉ 94 57) (m₉ 94 56) (m₉ 99) (m₉ 100) (xHo aa ob on)) → ((xHo aa ob on) 87 8 = (m₉ 94 58)) → ((m₉ 94 45).toInt = sm (zbU (m₉ 99)) (m₉ 102) 3100) → P (some (.inl v)) m₉ := by
    intro v m₉ hf z q0 q1 q2 q3 q4 q5 q6 q7 q8 q9
    have e := zov_eq hf
    rw [e] at z ⊢
    try rw [e] at q0
    try rw [e] at q1
    try rw [e] at q2
    try rw [e] at q3
    try rw [e] at q4
    try rw [e] at q5
    try rw [e] at q6
    try rw [e] at q7
    try rw [e] at q8
    try rw [e] at q9
    exact KZ v m₉ z q0 q1 q2 q3 q4 q5 q6 q7 q8 q9
  refine g_253_0 ob on ?_
  have f1 : 0 ≤ (m 94 10).toInt ∧ (m 94 10).toInt ≤ 6 := rs_94_10 (m := m) hV
  have f2 : 0 ≤ (m 94 58).toInt ∧ (m 94 58).toInt ≤ 1 := rs_94_58 (m := m) hV
  have f3 : 0 ≤ (m 94 8).toInt ∧ (m 94 8).toInt ≤ 1 := rs_94_8 (m := m) hV
  have li4 : (0 : Int32).toInt = 0 := rfl
  refine zd (fun (h5 : (m 94 8) = (0 : Int32)) => ?_) (fun (h5 : ¬ (m 94 8) = (0 : Int32)) => ?_)
  · skip
    have g6 := i_eq h5
    exfalso; omega
  · skip
    have g7 := i_ne h5
    have b8 := i_bd ob
    have hV9 : zV (ma_u m 94 0 (0 : Int32)) := uf_94_0 hV
    refine sp_245r (aa := aa) (ob) hV9 r_W r_RB r_QI (fun v2 m1 hV_m1 p0_m1 p1_m1 p2_m1 => zmi_n ?_)
    have p0_m1 : -1 ≤ v2.toInt ∧ v2.toInt ≤ 3099 := p0_m1
    have p1_m1 : v2.toInt < 0 ∨ (m 99) v2.toNatClampNeg ≠ 0 := p1_m1
    have p2_m1 : qRe (m 99) (m 100) aa ob v2 := p2_m1
    have b10 := i_bd v2
    refine zd (fun (h11 : (0 : Int32) ≤ v2) => ?_) (fun (h11 : ¬ (0 : Int32) ≤ v2) => ?_)
    · skip
      have g12 := i_le h11
      have li13 : (2 : Int32).toInt = 2 := rfl
      refine zd (fun (h14 : (m 94 10) = (2 : Int32)) => ?_) (fun (h14 : ¬ (m 94 10) = (2 : Int32)) => ?_)
      · skip
        have g15 := i_eq h14
        exfalso; omega
      · skip
        have g16 := i_ne h14
        have li17 : (3 : Int32).toInt = 3 := rfl
        refine zd (fun (h18 : (m 94 10) = (3 : Int32)) => ?_) (fun (h18 : ¬ (m 94 10) = (3 : Int32)) => ?_)
        · skip
          have g19 := i_eq h18
          exfalso; omega
        · skip
          have g20 := i_ne h18
          have b21 := i_bd on
          refine zd (fun (h22 : on = (0 : Int32)) => ?_) (fun (h22 : ¬ on = (0 : Int32)) => ?_)
          · skip
            have g23 := i_eq h22
            have hg24 : (0 ≤ v2 ∧ v2.toNatClampNeg < 3100) := i_ix (by omega) (by omega)
            refine ⟨hg24, ?_⟩
            have b25 := i_bd (m 107 v2.toNatClampNeg)
            refine zd (fun (h26 : (m 107 v2.toNatClampNeg) = (0 : Int32)) => ?_) (fun (h26 : ¬ (m 107 v2.toNatClampNeg) = (0 : Int32)) => ?_)
            · skip
              have g27 := i_eq h26
              have hV28 : zV (ma_u (zov wr_245 (ma_u m 94 0 (0 : Int32)) m1) 94 0 (3 : Int32)) := uf_94_0 hV_m1
              exact K ((0 : Int32)) _ (zF_u (zF_zov (zF_u zF_rfl rfl) ws_245_253) rfl) hV28 r_W r_GW r_GU r_OW r_GG (show qRB (m 99) (m 100) (m 98) (m 101) (m 102) (m 103) (m 107) (m 108) (m 109) (m 111) (m 112) (m 113) (m 114) (m 94 55) (m 94 46) (m 94 11) (m 94 12) (m 94 62) (m 94 17) (m 94 9) (xHo aa ob on) from by first | (unfold xHo; rw [qIf_n (fun w => Re_n p2_m1 (by omega) w.1)]; exact r_RB; done) | (rw [Ho_x r_RB p2_m1 (by omega) (i_zer (by omega)) (i_zer (by omega))]; exact r_RB; done) | (exfalso; omega; done) | (exfalso; contradiction; done)) (show qI (xHo aa ob on) from by first | (unfold xHo; rw [qIf_n (fun w => Re_n p2_m1 (by omega) w.1)]; exact r_QI; done) | (rw [Ho_x r_RB p2_m1 (by omega) (i_zer (by omega)) (i_zer (by omega))]; exact r_QI; done) | (exfalso; omega; done) | (exfalso; contradiction; done)) (show qMG (m 94 58) (m 106) (m 115) (m 94 57) (m 94 56) (m 99) (m 100) (xHo aa ob on) from by first | (unfold xHo; rw [qIf_n (fun w => Re_n p2_m1 (by omega) w.1)]; exact r_MG; done) | (rw [Ho_x r_RB p2_m1 (by omega) (i_zer (by omega)) (i_zer (by omega))]; exact r_MG; done) | (exfalso; omega; done) | (exfalso; contradiction; done)) (show (xHo aa ob on) 87 8 = (m 94 58) from by first | (unfold xHo; rw [qIf_n (fun w => Re_n p2_m1 (by omega) w.1)]; exact r_MK; done) | (rw [Ho_x r_RB p2_m1 (by omega) (i_zer (by omega)) (i_zer (by omega))]; exact r_MK; done) | (exfalso; omega; done) | (exfalso; contradiction; done)) r_WTS
            · skip
              have g29 := i_ne h26
              have hg30 : (0 ≤ v2 ∧ v2.toNatClampNeg < 3100) := i_ix (by omega) (by omega)
              refine ⟨hg30, ?_⟩
              refine zd (fun (h31 : on = (0 : Int32)) => ?_) (fun (h31 : ¬ on = (0 : Int32)) => ?_)
              · skip
                have g32 := i_eq h31
                have hg33 : (0 ≤ v2 ∧ v2.toNatClampNeg < 3100) := i_ix (by omega) (by omega)
                refine ⟨hg33, ?_⟩
                refine zd (fun (h34 : on = (0 : Int32)) => ?_) (fun (h34 : ¬ on = (0 : Int32)) => ?_)
                · skip
                  have g35 := i_eq h34
                  have hV36 : zV (ma_u (zov wr_245 (ma_u m 94 0 (0 : Int32)) m1) 94 0 (0 : Int32)) := uf_94_0 hV_m1
                  have hV37 : zV (ma_u (ma_u (zov wr_245 (ma_u m 94 0 (0 : Int32)) m1) 94 0 (0 : Int32)) 107 v2.toNatClampNeg ((m 107 v2.toNatClampNeg) + (-1 : Int32))) := ua_107 hV36
                  refine sp_241r0 (v2) hV37 (show (m 94 10).toInt = 0 ∧ (m 94 58).toInt = 0 from by omega) (fun m7 hV_m7 p0_m7 => zmv_n ?_)
                  have p0_m7 : (m7 99) = (m 99) ∧ (m7 105) = (m 105) ∧ (m7 109) = (m 109) ∧ (m7 111) = (m 111) ∧ (m7 113) = (m 113) ∧ (m7 114) = (m 114) ∧ (m7 94 55) = (m 94 55) ∧ (m7 94 45) = (m 94 45) := p0_m7
                  try have rgb := rs_94_64 hV
                  try have lel := LE_lo p0_m7
                  try have lex3 := LE_ex p0_m7 (lexi (by omega))
                  try have lexi := LE_some p0_m7
                  first | have e38 : ((m 107 v2.toNatClampNeg) + (-1 : Int32)).toInt = (m 107 v2.toNatClampNeg).toInt + (-1) := i_addk rfl (by omega) (by omega) | have b39 := i_bd ((m 107 v2.toNatClampNeg) + (-1 : Int32))
                  exact K (((m 107 v2.toNatClampNeg) + (-1 : Int32))) _ (zF_zov (zF_u (zF_u (zF_zov (zF_u zF_rfl rfl) ws_245_253) rfl) rfl) ws_241_253) hV_m7 r_W (show zGW T (m7 94 55) (m7 109) from by first | (rw [p0_m7.2.2.1, p0_m7.2.2.2.2.2.2.1]; exact r_GW; done) | (exfalso; omega; done) | (exfalso; contradiction; done)) (show zGU T (m 94 46) (m7 99) from by first | (rw [p0_m7.1]; exact r_GU; done) | (exact GU_0 r_GU) | (exfalso; omega; done) | (exfalso; contradiction; done)) (show zOw (m7 99) (m 103) (m7 111) from by first | (rw [p0_m7.1, p0_m7.2.2.2.1]; exact r_OW; done) | (exact Ow_rm r_OW (by decide) (tn_cast (by omega)).symm) | (exfalso; omega; done) | (exfalso; contradiction; done)) r_GG (show qRB (m7 99) (m 100) (m 98) (m 101) (m 102) (m 103) ((ma_u m 107 v2.toNatClampNeg ((m 107 v2.toNatClampNeg) + (-1 : Int32))) 107) (m 108) (m7 109) (m7 111) (m 112) (m7 113) (m7 114) (m7 94 55) (m 94 46) (m 94 11) (m 94 12) (m 94 62) (m 94 17) (m 94 9) (xHo aa ob on) from by first | (exfalso; omega; done) | (rw [Ho_y r_RB p2_m1 (by omega) (Or.inl (i_nz2 (by omega))) (by rw [if_neg (i_nz2 (by omega))])]; rw [p0_m7.1, p0_m7.2.2.1, p0_m7.2.2.2.1, p0_m7.2.2.2.2.1, p0_m7.2.2.2.2.2.1, p0_m7.2.2.2.2.2.2.1]; exact RB_ho r_RB (by omega) (Re_y p2_m1 (by omega)).2.1; done) | (rw [Ho_y r_RB p2_m1 (by omega) (Or.inr (i_nz2 (by omega))) (by rw [if_pos (i_zer (by omega))])]; rw [p0_m7.1, p0_m7.2.2.1, p0_m7.2.2.2.1, p0_m7.2.2.2.2.1, p0_m7.2.2.2.2.2.1, p0_m7.2.2.2.2.2.2.1]; exact RB_ho r_RB (by omega) (Re_y p2_m1 (by omega)).2.1; done) | (exfalso; omega; done) | (exfalso; contradiction; done)) (show qI (xHo aa ob on) from by first | (exfalso; omega; done) | (rw [Ho_y r_RB p2_m1 (by omega) (Or.inl (i_nz2 (by omega))) (by rw [if_neg (i_nz2 (by omega))])]; exact I_u r_QI (Or.inr (Or.inr (Or.inl rfl))); done) | (rw [Ho_y r_RB p2_m1 (by omega) (Or.inr (i_nz2 (by omega))) (by rw [if_pos (i_zer (by omega))])]; exact I_u r_QI (Or.inr (Or.inr (Or.inl rfl))); done) | (exfalso; omega; done) | (exfalso; contradiction; done)) (show qMG (m 94 58) (m 106) (m 115) (m 94 57) (m 94 56) (m7 99) (m 100) (xHo aa ob on) from by first | (exfalso; omega; done) | (rw [Ho_y r_RB p2_m1 (by omega) (Or.inl (i_nz2 (by omega))) (by rw [if_neg (i_nz2 (by omega))])]; rw [p0_m7.1]; rw [(Re_y p2_m1 (by omega)).2.2.1]; exact MG_ho r_MG r_QI (Re_y p2_m1 (by omega)).2.2.2; done) | (rw [Ho_y r_RB p2_m1 (by omega) (Or.inr (i_nz2 (by omega))) (by rw [if_pos (i_zer (by omega))])]; rw [p0_m7.1]; rw [(Re_y p2_m1 (by omega)).2.2.1]; exact MG_ho r_MG r_QI (Re_y p2_m1 (by omega)).2.2.2; done) | (exfalso; omega; done) | (exfalso; contradiction; done)) (show (xHo aa ob on) 87 8 = (m 94 58) from by first | (exfalso; omega; done) | (rw [Ho_y r_RB p2_m1 (by omega) (Or.inl (i_nz2 (by omega))) (by rw [if_neg (i_nz2 (by omega))])]; rw [un (by decide)]; exact r_MK; done) | (rw [Ho_y r_RB p2_m1 (by omega) (Or.inr (i_nz2 (by omega))) (by rw [if_pos (i_zer (by omega))])]; rw [un (by decide)]; exact r_MK; done) | (exfalso; omega; done) | (exfalso; contradiction; done)) (show (m7 94 45).toInt = sm (zbU (m7 99)) (m 102) 3100 from by first | (rw [p0_m7.1, p0_m7.2.2.2.2.2.2.2]; exact r_WTS; done) | (exfalso; omega; done) | (exfalso; contradiction; done))
                · skip
                  have g40 := i_ne h34
                  refine zd (fun (h41 : v2 < (0 : Int32)) => ?_) (fun (h41 : ¬ v2 < (0 : Int32)) => ?_)
                  · skip
                    have g42 := i_lt h41
                    have hV43 : zV (ma_u (zov wr_245 (ma_u m 94 0 (0 : Int32)) m1) 94 0 (0 : Int32)) := uf_94_0 hV_m1
                    have hV44 : zV (ma_u (ma_u (zov wr_245 (ma_u m 94 0 (0 : Int32)) m1) 94 0 (0 : Int32)) 107 v2.toNatClampNeg ((m 107 v2.toNatClampNeg) + (-1 : Int32))) := ua_107 hV43
                    first | have e45 : ((m 107 v2.toNatClampNeg) + (-1 : Int32)).toInt = (m 107 v2.toNatClampNeg).toInt + (-1) := i_addk rfl (by omega) (by omega) | have b46 := i_bd ((m 107 v2.toNatClampNeg) + (-1 : Int32))
                    exact K (((m 107 v2.toNatClampNeg) + (-1 : Int32))) _ (zF_u (zF_u (zF_zov (zF_u zF_rfl rfl) ws_245_253) rfl) rfl) hV44 r_W r_GW r_GU r_OW r_GG (show qRB (m 99) (m 100) (m 98) (m 101) (m 102) (m 103) ((ma_u m 107 v2.toNatClampNeg ((m 107 v2.toNatClampNeg) + (-1 : Int32))) 107) (m 108) (m 109) (m 111) (m 112) (m 113) (m 114) (m 94 55) (m 94 46) (m 94 11) (m 94 12) (m 94 62) (m 94 17) (m 94 9) (xHo aa ob on) from by first | (exfalso; omega; done) | (rw [Ho_y r_RB p2_m1 (by omega) (Or.inl (i_nz2 (by omega))) (by rw [if_neg (i_nz2 (by omega))])]; exact RB_ho r_RB (by omega) (Re_y p2_m1 (by omega)).2.1; done) | (rw [Ho_y r_RB p2_m1 (by omega) (Or.inr (i_nz2 (by omega))) (by rw [if_pos (i_zer (by omega))])]; exact RB_ho r_RB (by omega) (Re_y p2_m1 (by omega)).2.1; done) | (exfalso; omega; done) | (exfalso; contradiction; done)) (show qI (xHo aa ob on) from by first | (exfalso; omega; done) | (rw [Ho_y r_RB p2_m1 (by omega) (Or.inl (i_nz2 (by omega))) (by rw [if_neg (i_nz2 (by omega))])]; exact I_u r_QI (Or.inr (Or.inr (Or.inl rfl))); done) | (rw [Ho_y r_RB p2_m1 (by omega) (Or.inr (i_nz2 (by omega))) (by rw [if_pos (i_zer (by omega))])]; exact I_u r_QI (Or.inr (Or.inr (Or.inl rfl))); done) | (exfalso; omega; done) | (exfalso; contradiction; done)) (show qMG (m 94 58) (m 106) (m 115) (m 94 57) (m 94 56) (m 99) (m 100) (xHo aa ob on) from by first | (exfalso; omega; done) | (rw [Ho_y r_RB p2_m1 (by omega) (Or.inl (i_nz2 (by omega))) (by rw [if_neg (i_nz2 (by omega))])]; rw [(Re_y p2_m1 (by omega)).2.2.1]; exact MG_ho r_MG r_QI (Re_y p2_m1 (by omega)).2.2.2; done) | (rw [Ho_y r_RB p2_m1 (by omega) (Or.inr (i_nz2 (by omega))) (by rw [if_pos (i_zer (by omega))])]; rw [(Re_y p2_m1 (by omega)).2.2.1]; exact MG_ho r_MG r_QI (Re_y p2_m1 (by omega)).2.2.2; done) | (exfalso; omega; done) | (exfalso; contradiction; done)) (show (xHo aa ob on) 87 8 = (m 94 58) from by first | (exfalso; omega; done) | (rw [Ho_y r_RB p2_m1 (by omega) (Or.inl (i_nz2 (by omega))) (by rw [if_neg (i_nz2 (by omega))])]; rw [un (by decide)]; exact r_MK; done) | (rw [Ho_y r_RB p2_m1 (by omega) (Or.inr (i_nz2 (by omega))) (by rw [if_pos (i_zer (by omega))])]; rw [un (by decide)]; exact r_MK; done) | (exfalso; omega; done) | (exfalso; contradiction; done)) r_WTS
                  · skip
                    have g47 := i_nlt h41
                    have li48 : (4 : Int32).toInt = 4 := rfl
                    refine zd (fun (h49 : (m 94 10) = (4 : Int32)) => ?_) (fun (h49 : ¬ (m 94 10) = (4 : Int32)) => ?_)
                    · skip
                      have g50 := i_eq h49
                      exfalso; omega
                    · skip
                      have g51 := i_ne h49
                      have hV52 : zV (ma_u (zov wr_245 (ma_u m 94 0 (0 : Int32)) m1) 94 0 (0 : Int32)) := uf_94_0 hV_m1
                      have hV53 : zV (ma_u (ma_u (zov wr_245 (ma_u m 94 0 (0 : Int32)) m1) 94 0 (0 : Int32)) 107 v2.toNatClampNeg ((m 107 v2.toNatClampNeg) + (-1 : Int32))) := ua_107 hV52
                      first | have e54 : ((m 107 v2.toNatClampNeg) + (-1 : Int32)).toInt = (m 107 v2.toNatClampNeg).toInt + (-1) := i_addk rfl (by omega) (by omega) | have b55 := i_bd ((m 107 v2.toNatClampNeg) + (-1 : Int32))
                      exact K (((m 107 v2.toNatClampNeg) + (-1 : Int32))) _ (zF_u (zF_u (zF_zov (zF_u zF_rfl rfl) ws_245_253) rfl) rfl) hV53 r_W r_GW r_GU r_OW r_GG (show qRB (m 99) (m 100) (m 98) (m 101) (m 102) (m 103) ((ma_u m 107 v2.toNatClampNeg ((m 107 v2.toNatClampNeg) + (-1 : Int32))) 107) (m 108) (m 109) (m 111) (m 112) (m 113) (m 114) (m 94 55) (m 94 46) (m 94 11) (m 94 12) (m 94 62) (m 94 17) (m 94 9) (xHo aa ob on) from by first | (exfalso; omega; done) | (rw [Ho_y r_RB p2_m1 (by omega) (Or.inl (i_nz2 (by omega))) (by rw [if_neg (i_nz2 (by omega))])]; exact RB_ho r_RB (by omega) (Re_y p2_m1 (by omega)).2.1; done) | (rw [Ho_y r_RB p2_m1 (by omega) (Or.inr (i_nz2 (by omega))) (by rw [if_pos (i_zer (by omega))])]; exact RB_ho r_RB (by omega) (Re_y p2_m1 (by omega)).2.1; done) | (exfalso; omega; done) | (exfalso; contradiction; done)) (show qI (xHo aa ob on) from by first | (exfalso; omega; done) | (rw [Ho_y r_RB p2_m1 (by omega) (Or.inl (i_nz2 (by omega))) (by rw [if_neg (i_nz2 (by omega))])]; exact I_u r_QI (Or.inr (Or.inr (Or.inl rfl))); done) | (rw [Ho_y r_RB p2_m1 (by omega) (Or.inr (i_nz2 (by omega))) (by rw [if_pos (i_zer (by omega))])]; exact I_u r_QI (Or.inr (Or.inr (Or.inl rfl))); done) | (exfalso; omega; done) | (exfalso; contradiction; done)) (show qMG (m 94 58) (m 106) (m 115) (m 94 57) (m 94 56) (m 99) (m 100) (xHo aa ob on) from by first | (exfalso; omega; done) | (rw [Ho_y r_RB p2_m1 (by omega) (Or.inl (i_nz2 (by omega))) (by rw [if_neg (i_nz2 (by omega))])]; rw [(Re_y p2_m1 (by omega)).2.2.1]; exact MG_ho r_MG r_QI (Re_y p2_m1 (by omega)).2.2.2; done) | (rw [Ho_y r_RB p2_m1 (by omega) (Or.inr (i_nz2 (by omega))) (by rw [if_pos (i_zer (by omega))])]; rw [(Re_y p2_m1 (by omega)).2.2.1]; exact MG_ho r_MG r_QI (Re_y p2_m1 (by omega)).2.2.2; done) | (exfalso; omega; done) | (exfalso; contradiction; done)) (show (xHo aa ob on) 87 8 = (m 94 58) from by first | (exfalso; omega; done) | (rw [Ho_y r_RB p2_m1 (by omega) (Or.inl (i_nz2 (by omega))) (by rw [if_neg (i_nz2 (by omega))])]; rw [un (by decide)]; exact r_MK; done) | (rw [Ho_y r_RB p2_m1 (by omega) (Or.inr (i_nz2 (by omega))) (by rw [if_pos (i_zer (by omega))])]; rw [un (by decide)]; exact r_MK; done) | (exfalso; omega; done) | (exfalso; contradiction; done)) r_WTS
              · skip
                have g56 := i_ne h31
                have hg57 : (0 ≤ v2 ∧ v2.toNatClampNeg < 3100) := i_ix (by omega) (by omega)
                refine ⟨hg57, ?_⟩
                refine zd (fun (h58 : on = (0 : Int32)) => ?_) (fun (h58 : ¬ on = (0 : Int32)) => ?_)
                · skip
                  have g59 := i_eq h58
                  have hV60 : zV (ma_u (zov wr_245 (ma_u m 94 0 (0 : Int32)) m1) 94 0 (0 : Int32)) := uf_94_0 hV_m1
                  have hV61 : zV (ma_u (ma_u (zov wr_245 (ma_u m 94 0 (0 : Int32)) m1) 94 0 (0 : Int32)) 107 v2.toNatClampNeg ((m 107 v2.toNatClampNeg) + (1 : Int32))) := ua_107 hV60
                  refine sp_241r0 (v2) hV61 (show (m 94 10).toInt = 0 ∧ (m 94 58).toInt = 0 from by omega) (fun m9 hV_m9 p0_m9 => zmv_n ?_)
                  have p0_m9 : (m9 99) = (m 99) ∧ (m9 105) = (m 105) ∧ (m9 109) = (m 109) ∧ (m9 111) = (m 111) ∧ (m9 113) = (m 113) ∧ (m9 114) = (m 114) ∧ (m9 94 55) = (m 94 55) ∧ (m9 94 45) = (m 94 45) := p0_m9
                  try have rgb := rs_94_64 hV
                  try have lel := LE_lo p0_m9
                  try have lex3 := LE_ex p0_m9 (lexi (by omega))
                  try have lexi := LE_some p0_m9
                  first | have e62 : ((m 107 v2.toNatClampNeg) + (1 : Int32)).toInt = (m 107 v2.toNatClampNeg).toInt + (1) := i_addk rfl (by omega) (by omega) | have b63 := i_bd ((m 107 v2.toNatClampNeg) + (1 : Int32))
                  exact K (((m 107 v2.toNatClampNeg) + (1 : Int32))) _ (zF_zov (zF_u (zF_u (zF_zov (zF_u zF_rfl rfl) ws_245_253) rfl) rfl) ws_241_253) hV_m9 r_W (show zGW T (m9 94 55) (m9 109) from by first | (rw [p0_m9.2.2.1, p0_m9.2.2.2.2.2.2.1]; exact r_GW; done) | (exfalso; omega; done) | (exfalso; contradiction; done)) (show zGU T (m 94 46) (m9 99) from by first | (rw [p0_m9.1]; exact r_GU; done) | (exact GU_0 r_GU) | (exfalso; omega; done) | (exfalso; contradiction; done)) (show zOw (m9 99) (m 103) (m9 111) from by first | (rw [p0_m9.1, p0_m9.2.2.2.1]; exact r_OW; done) | (exact Ow_rm r_OW (by decide) (tn_cast (by omega)).symm) | (exfalso; omega; done) | (exfalso; contradiction; done)) r_GG (show qRB (m9 99) (m 100) (m 98) (m 101) (m 102) (m 103) ((ma_u m 107 v2.toNatClampNeg ((m 107 v2.toNatClampNeg) + (1 : Int32))) 107) (m 108) (m9 109) (m9 111) (m 112) (m9 113) (m9 114) (m9 94 55) (m 94 46) (m 94 11) (m 94 12) (m 94 62) (m 94 17) (m 94 9) (xHo aa ob on) from by first | (exfalso; omega; done) | (rw [Ho_y r_RB p2_m1 (by omega) (Or.inl (i_nz2 (by omega))) (by rw [if_neg (i_nz2 (by omega))])]; rw [p0_m9.1, p0_m9.2.2.1, p0_m9.2.2.2.1, p0_m9.2.2.2.2.1, p0_m9.2.2.2.2.2.1, p0_m9.2.2.2.2.2.2.1]; exact RB_ho r_RB (by omega) (Re_y p2_m1 (by omega)).2.1; done) | (rw [Ho_y r_RB p2_m1 (by omega) (Or.inr (i_nz2 (by omega))) (by rw [if_pos (i_zer (by omega))])]; rw [p0_m9.1, p0_m9.2.2.1, p0_m9.2.2.2.1, p0_m9.2.2.2.2.1, p0_m9.2.2.2.2.2.1, p0_m9.2.2.2.2.2.2.1]; exact RB_ho r_RB (by omega) (Re_y p2_m1 (by omega)).2.1; done) | (exfalso; omega; done) | (exfalso; contradiction; done)) (show qI (xHo aa ob on) from by first | (exfalso; omega; done) | (rw [Ho_y r_RB p2_m1 (by omega) (Or.inl (i_nz2 (by omega))) (by rw [if_neg (i_nz2 (by omega))])]; exact I_u r_QI (Or.inr (Or.inr (Or.inl rfl))); done) | (rw [Ho_y r_RB p2_m1 (by omega) (Or.inr (i_nz2 (by omega))) (by rw [if_pos (i_zer (by omega))])]; exact I_u r_QI (Or.inr (Or.inr (Or.inl rfl))); done) | (exfalso; omega; done) | (exfalso; contradiction; done)) (show qMG (m 94 58) (m 106) (m 115) (m 94 57) (m 94 56) (m9 99) (m 100) (xHo aa ob on) from by first | (exfalso; omega; done) | (rw [Ho_y r_RB p2_m1 (by omega) (Or.inl (i_nz2 (by omega))) (by rw [if_neg (i_nz2 (by omega))])]; rw [p0_m9.1]; rw [(Re_y p2_m1 (by omega)).2.2.1]; exact MG_ho r_MG r_QI (Re_y p2_m1 (by omega)).2.2.2; done) | (rw [Ho_y r_RB p2_m1 (by omega) (Or.inr (i_nz2 (by omega))) (by rw [if_pos (i_zer (by omega))])]; rw [p0_m9.1]; rw [(Re_y p2_m1 (by omega)).2.2.1]; exact MG_ho r_MG r_QI (Re_y p2_m1 (by omega)).2.2.2; done) | (exfalso; omega; done) | (exfalso; contradiction; done)) (show (xHo aa ob on) 87 8 = (m 94 58) from by first | (exfalso; omega; done) | (rw [Ho_y r_RB p2_m1 (by omega) (Or.inl (i_nz2 (by omega))) (by rw [if_neg (i_nz2 (by omega))])]; rw [un (by decide)]; exact r_MK; done) | (rw [Ho_y r_RB p2_m1 (by omega) (Or.inr (i_nz2 (by omega))) (by rw [if_pos (i_zer (by omega))])]; rw [un (by decide)]; exact r_MK; done) | (exfalso; omega; done) | (exfalso; contradiction; done)) (show (m9 94 45).toInt = sm (zbU (m9 99)) (m 102) 3100 from by first | (rw [p0_m9.1, p0_m9.2.2.2.2.2.2.2]; exact r_WTS; done) | (exfalso; omega; done) | (exfalso; contradiction; done))
                · skip
                  have g64 := i_ne h58
                  refine zd (fun (h65 : v2 < (0 : Int32)) => ?_) (fun (h65 : ¬ v2 < (0 : Int32)) => ?_)
                  · skip
                    have g66 := i_lt h65
                    have hV67 : zV (ma_u (zov wr_245 (ma_u m 94 0 (0 : Int32)) m1) 94 0 (0 : Int32)) := uf_94_0 hV_m1
                    have hV68 : zV (ma_u (ma_u (zov wr_245 (ma_u m 94 0 (0 : Int32)) m1) 94 0 (0 : Int32)) 107 v2.toNatClampNeg ((m 107 v2.toNatClampNeg) + (1 : Int32))) := ua_107 hV67
                    first | have e69 : ((m 107 v2.toNatClampNeg) + (1 : Int32)).toInt = (m 107 v2.toNatClampNeg).toInt + (1) := i_addk rfl (by omega) (by omega) | have b70 := i_bd ((m 107 v2.toNatClampNeg) + (1 : Int32))
                    exact K (((m 107 v2.toNatClampNeg) + (1 : Int32))) _ (zF_u (zF_u (zF_zov (zF_u zF_rfl rfl) ws_245_253) rfl) rfl) hV68 r_W r_GW r_GU r_OW r_GG (show qRB (m 99) (m 100) (m 98) (m 101) (m 102) (m 103) ((ma_u m 107 v2.toNatClampNeg ((m 107 v2.toNatClampNeg) + (1 : Int32))) 107) (m 108) (m 109) (m 111) (m 112) (m 113) (m 114) (m 94 55) (m 94 46) (m 94 11) (m 94 12) (m 94 62) (m 94 17) (m 94 9) (xHo aa ob on) from by first | (exfalso; omega; done) | (rw [Ho_y r_RB p2_m1 (by omega) (Or.inl (i_nz2 (by omega))) (by rw [if_neg (i_nz2 (by omega))])]; exact RB_ho r_RB (by omega) (Re_y p2_m1 (by omega)).2.1; done) | (rw [Ho_y r_RB p2_m1 (by omega) (Or.inr (i_nz2 (by omega))) (by rw [if_pos (i_zer (by omega))])]; exact RB_ho r_RB (by omega) (Re_y p2_m1 (by omega)).2.1; done) | (exfalso; omega; done) | (exfalso; contradiction; done)) (show qI (xHo aa ob on) from by first | (exfalso; omega; done) | (rw [Ho_y r_RB p2_m1 (by omega) (Or.inl (i_nz2 (by omega))) (by rw [if_neg (i_nz2 (by omega))])]; exact I_u r_QI (Or.inr (Or.inr (Or.inl rfl))); done) | (rw [Ho_y r_RB p2_m1 (by omega) (Or.inr (i_nz2 (by omega))) (by rw [if_pos (i_zer (by omega))])]; exact I_u r_QI (Or.inr (Or.inr (Or.inl rfl))); done) | (exfalso; omega; done) | (exfalso; contradiction; done)) (show qMG (m 94 58) (m 106) (m 115) (m 94 57) (m 94 56) (m 99) (m 100) (xHo aa ob on) from by first | (exfalso; omega; done) | (rw [Ho_y r_RB p2_m1 (by omega) (Or.inl (i_nz2 (by omega))) (by rw [if_neg (i_nz2 (by omega))])]; rw [(Re_y p2_m1 (by omega)).2.2.1]; exact MG_ho r_MG r_QI (Re_y p2_m1 (by omega)).2.2.2; done) | (rw [Ho_y r_RB p2_m1 (by omega) (Or.inr (i_nz2 (by omega))) (by rw [if_pos (i_zer (by omega))])]; rw [(Re_y p2_m1 (by omega)).2.2.1]; exact MG_ho r_MG r_QI (Re_y p2_m1 (by omega)).2.2.2; done) | (exfalso; omega; done) | (exfalso; contradiction; done)) (show (xHo aa ob on) 87 8 = (m 94 58) from by first | (exfalso; omega; done) | (rw [Ho_y r_RB p2_m1 (by omega) (Or.inl (i_nz2 (by omega))) (by rw [if_neg (i_nz2 (by omega))])]; rw [un (by decide)]; exact r_MK; done) | (rw [Ho_y r_RB p2_m1 (by omega) (Or.inr (i_nz2 (by omega))) (by rw [if_pos (i_zer (by omega))])]; rw [un (by decide)]; exact r_MK; done) | (exfalso; omega; done) | (exfalso; contradiction; done)) r_WTS
                  · skip
                    have g71 := i_nlt h65
                    have li72 : (4 : Int32).toInt = 4 := rfl
                    refine zd (fun (h73 : (m 94 10) = (4 : Int32)) => ?_) (fun (h73 : ¬ (m 94 10) = (4 : Int32)) => ?_)
                    · skip
                      have g74 := i_eq h73
                      exfalso; omega
                    · skip
                      have g75 := i_ne h73
                      have hV76 : zV (ma_u (zov wr_245 (ma_u m 94 0 (0 : Int32)) m1) 94 0 (0 : Int32)) := uf_94_0 hV_m1
                      have hV77 : zV (ma_u (ma_u (zov wr_245 (ma_u m 94 0 (0 : Int32)) m1) 94 0 (0 : Int32)) 107 v2.toNatClampNeg ((m 107 v2.toNatClampNeg) + (1 : Int32))) := ua_107 hV76
                      first | have e78 : ((m 107 v2.toNatClampNeg) + (1 : Int32)).toInt = (m 107 v2.toNatClampNeg).toInt + (1) := i_addk rfl (by omega) (by omega) | have b79 := i_bd ((m 107 v2.toNatClampNeg) + (1 : Int32))
                      exact K (((m 107 v2.toNatClampNeg) + (1 : Int32))) _ (zF_u (zF_u (zF_zov (zF_u zF_rfl rfl) ws_245_253) rfl) rfl) hV77 r_W r_GW r_GU r_OW r_GG (show qRB (m 99) (m 100) (m 98) (m 101) (m 102) (m 103) ((ma_u m 107 v2.toNatClampNeg ((m 107 v2.toNatClampNeg) + (1 : Int32))) 107) (m 108) (m 109) (m 111) (m 112) (m 113) (m 114) (m 94 55) (m 94 46) (m 94 11) (m 94 12) (m 94 62) (m 94 17) (m 94 9) (xHo aa ob on) from by first | (exfalso; omega; done) | (rw [Ho_y r_RB p2_m1 (by omega) (Or.inl (i_nz2 (by omega))) (by rw [if_neg (i_nz2 (by omega))])]; exact RB_ho r_RB (by omega) (Re_y p2_m1 (by omega)).2.1; done) | (rw [Ho_y r_RB p2_m1 (by omega) (Or.inr (i_nz2 (by omega))) (by rw [if_pos (i_zer (by omega))])]; exact RB_ho r_RB (by omega) (Re_y p2_m1 (by omega)).2.1; done) | (exfalso; omega; done) | (exfalso; contradiction; done)) (show qI (xHo aa ob on) from by first | (exfalso; omega; done) | (rw [Ho_y r_RB p2_m1 (by omega) (Or.inl (i_nz2 (by omega))) (by rw [if_neg (i_nz2 (by omega))])]; exact I_u r_QI (Or.inr (Or.inr (Or.inl rfl))); done) | (rw [Ho_y r_RB p2_m1 (by omega) (Or.inr (i_nz2 (by omega))) (by rw [if_pos (i_zer (by omega))])]; exact I_u r_QI (Or.inr (Or.inr (Or.inl rfl))); done) | (exfalso; omega; done) | (exfalso; contradiction; done)) (show qMG (m 94 58) (m 106) (m 115) (m 94 57) (m 94 56) (m 99) (m 100) (xHo aa ob on) from by first | (exfalso; omega; done) | (rw [Ho_y r_RB p2_m1 (by omega) (Or.inl (i_nz2 (by omega))) (by rw [if_neg (i_nz2 (by omega))])]; rw [(Re_y p2_m1 (by omega)).2.2.1]; exact MG_ho r_MG r_QI (Re_y p2_m1 (by omega)).2.2.2; done) | (rw [Ho_y r_RB p2_m1 (by omega) (Or.inr (i_nz2 (by omega))) (by rw [if_pos (i_zer (by omega))])]; rw [(Re_y p2_m1 (by omega)).2.2.1]; exact MG_ho r_MG r_QI (Re_y p2_m1 (by omega)).2.2.2; done) | (exfalso; omega; done) | (exfalso; contradiction; done)) (show (xHo aa ob on) 87 8 = (m 94 58) from by first | (exfalso; omega; done) | (rw [Ho_y r_RB p2_m1 (by omega) (Or.inl (i_nz2 (by omega))) (by rw [if_neg (i_nz2 (by omega))])]; rw [un (by decide)]; exact r_MK; done) | (rw [Ho_y r_RB p2_m1 (by omega) (Or.inr (i_nz2 (by omega))) (by rw [if_pos (i_zer (by omega))])]; rw [un (by decide)]; exact r_MK; done) | (exfalso; omega; done) | (exfalso; contradiction; done)) r_WTS
          · skip
            have g80 := i_ne h22
            have hg81 : (0 ≤ v2 ∧ v2.toNatClampNeg < 3100) := i_ix (by omega) (by omega)
            refine ⟨hg81, ?_⟩
            refine zd (fun (h82 : on = (0 : Int32)) => ?_) (fun (h82 : ¬ on = (0 : Int32)) => ?_)
            · skip
              have g83 := i_eq h82
              have hg84 : (0 ≤ v2 ∧ v2.toNatClampNeg < 3100) := i_ix (by omega) (by omega)
              refine ⟨hg84, ?_⟩
              refine zd (fun (h85 : on = (0 : Int32)) => ?_) (fun (h85 : ¬ on = (0 : Int32)) => ?_)
              · skip
                have g86 := i_eq h85
                have hV87 : zV (ma_u (zov wr_245 (ma_u m 94 0 (0 : Int32)) m1) 94 0 (0 : Int32)) := uf_94_0 hV_m1
                have hV88 : zV (ma_u (ma_u (zov wr_245 (ma_u m 94 0 (0 : Int32)) m1) 94 0 (0 : Int32)) 107 v2.toNatClampNeg ((m 107 v2.toNatClampNeg) + (-1 : Int32))) := ua_107 hV87
                refine sp_241r0 (v2) hV88 (show (m 94 10).toInt = 0 ∧ (m 94 58).toInt = 0 from by omega) (fun m3 hV_m3 p0_m3 => zmv_n ?_)
                have p0_m3 : (m3 99) = (m 99) ∧ (m3 105) = (m 105) ∧ (m3 109) = (m 109) ∧ (m3 111) = (m 111) ∧ (m3 113) = (m 113) ∧ (m3 114) = (m 114) ∧ (m3 94 55) = (m 94 55) ∧ (m3 94 45) = (m 94 45) := p0_m3
                try have rgb := rs_94_64 hV
                try have lel := LE_lo p0_m3
                try have lex3 := LE_ex p0_m3 (lexi (by omega))
                try have lexi := LE_some p0_m3
                have b89 := i_bd (m 107 v2.toNatClampNeg)
                first | have e90 : ((m 107 v2.toNatClampNeg) + (-1 : Int32)).toInt = (m 107 v2.toNatClampNeg).toInt + (-1) := i_addk rfl (by omega) (by omega) | have b91 := i_bd ((m 107 v2.toNatClampNeg) + (-1 : Int32))
                exact K (((m 107 v2.toNatClampNeg) + (-1 : Int32))) _ (zF_zov (zF_u (zF_u (zF_zov (zF_u zF_rfl rfl) ws_245_253) rfl) rfl) ws_241_253) hV_m3 r_W (show zGW T (m3 94 55) (m3 109) from by first | (rw [p0_m3.2.2.1, p0_m3.2.2.2.2.2.2.1]; exact r_GW; done) | (exfalso; omega; done) | (exfalso; contradiction; done)) (show zGU T (m 94 46) (m3 99) from by first | (rw [p0_m3.1]; exact r_GU; done) | (exact GU_0 r_GU) | (exfalso; omega; done) | (exfalso; contradiction; done)) (show zOw (m3 99) (m 103) (m3 111) from by first | (rw [p0_m3.1, p0_m3.2.2.2.1]; exact r_OW; done) | (exact Ow_rm r_OW (by decide) (tn_cast (by omega)).symm) | (exfalso; omega; done) | (exfalso; contradiction; done)) r_GG (show qRB (m3 99) (m 100) (m 98) (m 101) (m 102) (m 103) ((ma_u m 107 v2.toNatClampNeg ((m 107 v2.toNatClampNeg) + (-1 : Int32))) 107) (m 108) (m3 109) (m3 111) (m 112) (m3 113) (m3 114) (m3 94 55) (m 94 46) (m 94 11) (m 94 12) (m 94 62) (m 94 17) (m 94 9) (xHo aa ob on) from by first | (exfalso; omega; done) | (rw [Ho_y r_RB p2_m1 (by omega) (Or.inl (i_nz2 (by omega))) (by rw [if_neg (i_nz2 (by omega))])]; rw [p0_m3.1, p0_m3.2.2.1, p0_m3.2.2.2.1, p0_m3.2.2.2.2.1, p0_m3.2.2.2.2.2.1, p0_m3.2.2.2.2.2.2.1]; exact RB_ho r_RB (by omega) (Re_y p2_m1 (by omega)).2.1; done) | (rw [Ho_y r_RB p2_m1 (by omega) (Or.inr (i_nz2 (by omega))) (by rw [if_pos (i_zer (by omega))])]; rw [p0_m3.1, p0_m3.2.2.1, p0_m3.2.2.2.1, p0_m3.2.2.2.2.1, p0_m3.2.2.2.2.2.1, p0_m3.2.2.2.2.2.2.1]; exact RB_ho r_RB (by omega) (Re_y p2_m1 (by omega)).2.1; done) | (exfalso; omega; done) | (exfalso; contradiction; done)) (show qI (xHo aa ob on) from by first | (exfalso; omega; done) | (rw [Ho_y r_RB p2_m1 (by omega) (Or.inl (i_nz2 (by omega))) (by rw [if_neg (i_nz2 (by omega))])]; exact I_u r_QI (Or.inr (Or.inr (Or.inl rfl))); done) | (rw [Ho_y r_RB p2_m1 (by omega) (Or.inr (i_nz2 (by omega))) (by rw [if_pos (i_zer (by omega))])]; exact I_u r_QI (Or.inr (Or.inr (Or.inl rfl))); done) | (exfalso; omega; done) | (exfalso; contradiction; done)) (show qMG (m 94 58) (m 106) (m 115) (m 94 57) (m 94 56) (m3 99) (m 100) (xHo aa ob on) from by first | (exfalso; omega; done) | (rw [Ho_y r_RB p2_m1 (by omega) (Or.inl (i_nz2 (by omega))) (by rw [if_neg (i_nz2 (by omega))])]; rw [p0_m3.1]; rw [(Re_y p2_m1 (by omega)).2.2.1]; exact MG_ho r_MG r_QI (Re_y p2_m1 (by omega)).2.2.2; done) | (rw [Ho_y r_RB p2_m1 (by omega) (Or.inr (i_nz2 (by omega))) (by rw [if_pos (i_zer (by omega))])]; rw [p0_m3.1]; rw [(Re_y p2_m1 (by omega)).2.2.1]; exact MG_ho r_MG r_QI (Re_y p2_m1 (by omega)).2.2.2; done) | (exfalso; omega; done) | (exfalso; contradiction; done)) (show (xHo aa ob on) 87 8 = (m 94 58) from by first | (exfalso; omega; done) | (rw [Ho_y r_RB p2_m1 (by omega) (Or.inl (i_nz2 (by omega))) (by rw [if_neg (i_nz2 (by omega))])]; rw [un (by decide)]; exact r_MK; done) | (rw [Ho_y r_RB p2_m1 (by omega) (Or.inr (i_nz2 (by omega))) (by rw [if_pos (i_zer (by omega))])]; rw [un (by decide)]; exact r_MK; done) | (exfalso; omega; done) | (exfalso; contradiction; done)) (show (m3 94 45).toInt = sm (zbU (m3 99)) (m 102) 3100 from by first | (rw [p0_m3.1, p0_m3.2.2.2.2.2.2.2]; exact r_WTS; done) | (exfalso; omega; done) | (exfalso; contradiction; done))
              · skip
                have g92 := i_ne h85
                refine zd (fun (h93 : v2 < (0 : Int32)) => ?_) (fun (h93 : ¬ v2 < (0 : Int32)) => ?_)
                · skip
                  have g94 := i_lt h93
                  have hV95 : zV (ma_u (zov wr_245 (ma_u m 94 0 (0 : Int32)) m1) 94 0 (0 : Int32)) := uf_94_0 hV_m1
                  have hV96 : zV (ma_u (ma_u (zov wr_245 (ma_u m 94 0 (0 : Int32)) m1) 94 0 (0 : Int32)) 107 v2.toNatClampNeg ((m 107 v2.toNatClampNeg) + (-1 : Int32))) := ua_107 hV95
                  have b97 := i_bd (m 107 v2.toNatClampNeg)
                  first | have e98 : ((m 107 v2.toNatClampNeg) + (-1 : Int32)).toInt = (m 107 v2.toNatClampNeg).toInt + (-1) := i_addk rfl (by omega) (by omega) | have b99 := i_bd ((m 107 v2.toNatClampNeg) + (-1 : Int32))
                  exact K (((m 107 v2.toNatClampNeg) + (-1 : Int32))) _ (zF_u (zF_u (zF_zov (zF_u zF_rfl rfl) ws_245_253) rfl) rfl) hV96 r_W r_GW r_GU r_OW r_GG (show qRB (m 99) (m 100) (m 98) (m 101) (m 102) (m 103) ((ma_u m 107 v2.toNatClampNeg ((m 107 v2.toNatClampNeg) + (-1 : Int32))) 107) (m 108) (m 109) (m 111) (m 112) (m 113) (m 114) (m 94 55) (m 94 46) (m 94 11) (m 94 12) (m 94 62) (m 94 17) (m 94 9) (xHo aa ob on) from by first | (exfalso; omega; done) | (rw [Ho_y r_RB p2_m1 (by omega) (Or.inl (i_nz2 (by omega))) (by rw [if_neg (i_nz2 (by omega))])]; exact RB_ho r_RB (by omega) (Re_y p2_m1 (by omega)).2.1; done) | (rw [Ho_y r_RB p2_m1 (by omega) (Or.inr (i_nz2 (by omega))) (by rw [if_pos (i_zer (by omega))])]; exact RB_ho r_RB (by omega) (Re_y p2_m1 (by omega)).2.1; done) | (exfalso; omega; done) | (exfalso; contradiction; done)) (show qI (xHo aa ob on) from by first | (exfalso; omega; done) | (rw [Ho_y r_RB p2_m1 (by omega) (Or.inl (i_nz2 (by omega))) (by rw [if_neg (i_nz2 (by omega))])]; exact I_u r_QI (Or.inr (Or.inr (Or.inl rfl))); done) | (rw [Ho_y r_RB p2_m1 (by omega) (Or.inr (i_nz2 (by omega))) (by rw [if_pos (i_zer (by omega))])]; exact I_u r_QI (Or.inr (Or.inr (Or.inl rfl))); done) | (exfalso; omega; done) | (exfalso; contradiction; done)) (show qMG (m 94 58) (m 106) (m 115) (m 94 57) (m 94 56) (m 99) (m 100) (xHo aa ob on) from by first | (exfalso; omega; done) | (rw [Ho_y r_RB p2_m1 (by omega) (Or.inl (i_nz2 (by omega))) (by rw [if_neg (i_nz2 (by omega))])]; rw [(Re_y p2_m1 (by omega)).2.2.1]; exact MG_ho r_MG r_QI (Re_y p2_m1 (by omega)).2.2.2; done) | (rw [Ho_y r_RB p2_m1 (by omega) (Or.inr (i_nz2 (by omega))) (by rw [if_pos (i_zer (by omega))])]; rw [(Re_y p2_m1 (by omega)).2.2.1]; exact MG_ho r_MG r_QI (Re_y p2_m1 (by omega)).2.2.2; done) | (exfalso; omega; done) | (exfalso; contradiction; done)) (show (xHo aa ob on) 87 8 = (m 94 58) from by first | (exfalso; omega; done) | (rw [Ho_y r_RB p2_m1 (by omega) (Or.inl (i_nz2 (by omega))) (by rw [if_neg (i_nz2 (by omega))])]; rw [un (by decide)]; exact r_MK; done) | (rw [Ho_y r_RB p2_m1 (by omega) (Or.inr (i_nz2 (by omega))) (by rw [if_pos (i_zer (by omega))])]; rw [un (by decide)]; exact r_MK; done) | (exfalso; omega; done) | (exfalso; contradiction; done)) r_WTS
                · skip
                  have g100 := i_nlt h93
                  have li101 : (4 : Int32).toInt = 4 := rfl
                  refine zd (fun (h102 : (m 94 10) = (4 : Int32)) => ?_) (fun (h102 : ¬ (m 94 10) = (4 : Int32)) => ?_)
                  · skip
                    have g103 := i_eq h102
                    exfalso; omega
                  · skip
                    have g104 := i_ne h102
                    have hV105 : zV (ma_u (zov wr_245 (ma_u m 94 0 (0 : Int32)) m1) 94 0 (0 : Int32)) := uf_94_0 hV_m1
                    have hV106 : zV (ma_u (ma_u (zov wr_245 (ma_u m 94 0 (0 : Int32)) m1) 94 0 (0 : Int32)) 107 v2.toNatClampNeg ((m 107 v2.toNatClampNeg) + (-1 : Int32))) := ua_107 hV105
                    have b107 := i_bd (m 107 v2.toNatClampNeg)
                    first | have e108 : ((m 107 v2.toNatClampNeg) + (-1 : Int32)).toInt = (m 107 v2.toNatClampNeg).toInt + (-1) := i_addk rfl (by omega) (by omega) | have b109 := i_bd ((m 107 v2.toNatClampNeg) + (-1 : Int32))
                    exact K (((m 107 v2.toNatClampNeg) + (-1 : Int32))) _ (zF_u (zF_u (zF_zov (zF_u zF_rfl rfl) ws_245_253) rfl) rfl) hV106 r_W r_GW r_GU r_OW r_GG (show qRB (m 99) (m 100) (m 98) (m 101) (m 102) (m 103) ((ma_u m 107 v2.toNatClampNeg ((m 107 v2.toNatClampNeg) + (-1 : Int32))) 107) (m 108) (m 109) (m 111) (m 112) (m 113) (m 114) (m 94 55) (m 94 46) (m 94 11) (m 94 12) (m 94 62) (m 94 17) (m 94 9) (xHo aa ob on) from by first | (exfalso; omega; done) | (rw [Ho_y r_RB p2_m1 (by omega) (Or.inl (i_nz2 (by omega))) (by rw [if_neg (i_nz2 (by omega))])]; exact RB_ho r_RB (by omega) (Re_y p2_m1 (by omega)).2.1; done) | (rw [Ho_y r_RB p2_m1 (by omega) (Or.inr (i_nz2 (by omega))) (by rw [if_pos (i_zer (by omega))])]; exact RB_ho r_RB (by omega) (Re_y p2_m1 (by omega)).2.1; done) | (exfalso; omega; done) | (exfalso; contradiction; done)) (show qI (xHo aa ob on) from by first | (exfalso; omega; done) | (rw [Ho_y r_RB p2_m1 (by omega) (Or.inl (i_nz2 (by omega))) (by rw [if_neg (i_nz2 (by omega))])]; exact I_u r_QI (Or.inr (Or.inr (Or.inl rfl))); done) | (rw [Ho_y r_RB p2_m1 (by omega) (Or.inr (i_nz2 (by omega))) (by rw [if_pos (i_zer (by omega))])]; exact I_u r_QI (Or.inr (Or.inr (Or.inl rfl))); done) | (exfalso; omega; done) | (exfalso; contradiction; done)) (show qMG (m 94 58) (m 106) (m 115) (m 94 57) (m 94 56) (m 99) (m 100) (xHo aa ob on) from by first | (exfalso; omega; done) | (rw [Ho_y r_RB p2_m1 (by omega) (Or.inl (i_nz2 (by omega))) (by rw [if_neg (i_nz2 (by omega))])]; rw [(Re_y p2_m1 (by omega)).2.2.1]; exact MG_ho r_MG r_QI (Re_y p2_m1 (by omega)).2.2.2; done) | (rw [Ho_y r_RB p2_m1 (by omega) (Or.inr (i_nz2 (by omega))) (by rw [if_pos (i_zer (by omega))])]; rw [(Re_y p2_m1 (by omega)).2.2.1]; exact MG_ho r_MG r_QI (Re_y p2_m1 (by omega)).2.2.2; done) | (exfalso; omega; done) | (exfalso; contradiction; done)) (show (xHo aa ob on) 87 8 = (m 94 58) from by first | (exfalso; omega; done) | (rw [Ho_y r_RB p2_m1 (by omega) (Or.inl (i_nz2 (by omega))) (by rw [if_neg (i_nz2 (by omega))])]; rw [un (by decide)]; exact r_MK; done) | (rw [Ho_y r_RB p2_m1 (by omega) (Or.inr (i_nz2 (by omega))) (by rw [if_pos (i_zer (by omega))])]; rw [un (by decide)]; exact r_MK; done) | (exfalso; omega; done) | (exfalso; contradiction; done)) r_WTS
            · skip
              have g110 := i_ne h82
              have hg111 : (0 ≤ v2 ∧ v2.toNatClampNeg < 3100) := i_ix (by omega) (by omega)
              refine ⟨hg111, ?_⟩
              refine zd (fun (h112 : on = (0 : Int32)) => ?_) (fun (h112 : ¬ on = (0 : Int32)) => ?_)
              · skip
                have g113 := i_eq h112
                have hV114 : zV (ma_u (zov wr_245 (ma_u m 94 0 (0 : Int32)) m1) 94 0 (0 : Int32)) := uf_94_0 hV_m1
                have hV115 : zV (ma_u (ma_u (zov wr_245 (ma_u m 94 0 (0 : Int32)) m1) 94 0 (0 : Int32)) 107 v2.toNatClampNeg ((m 107 v2.toNatClampNeg) + (1 : Int32))) := ua_107 hV114
                refine sp_241r0 (v2) hV115 (show (m 94 10).toInt = 0 ∧ (m 94 58).toInt = 0 from by omega) (fun m5 hV_m5 p0_m5 => zmv_n ?_)
                have p0_m5 : (m5 99) = (m 99) ∧ (m5 105) = (m 105) ∧ (m5 109) = (m 109) ∧ (m5 111) = (m 111) ∧ (m5 113) = (m 113) ∧ (m5 114) = (m 114) ∧ (m5 94 55) = (m 94 55) ∧ (m5 94 45) = (m 94 45) := p0_m5
                try have rgb := rs_94_64 hV
                try have lel := LE_lo p0_m5
                try have lex3 := LE_ex p0_m5 (lexi (by omega))
                try have lexi := LE_some p0_m5
                have b116 := i_bd (m 107 v2.toNatClampNeg)
                first | have e117 : ((m 107 v2.toNatClampNeg) + (1 : Int32)).toInt = (m 107 v2.toNatClampNeg).toInt + (1) := i_addk rfl (by omega) (by omega) | have b118 := i_bd ((m 107 v2.toNatClampNeg) + (1 : Int32))
                exact K (((m 107 v2.toNatClampNeg) + (1 : Int32))) _ (zF_zov (zF_u (zF_u (zF_zov (zF_u zF_rfl rfl) ws_245_253) rfl) rfl) ws_241_253) hV_m5 r_W (show zGW T (m5 94 55) (m5 109) from by first | (rw [p0_m5.2.2.1, p0_m5.2.2.2.2.2.2.1]; exact r_GW; done) | (exfalso; omega; done) | (exfalso; contradiction; done)) (show zGU T (m 94 46) (m5 99) from by first | (rw [p0_m5.1]; exact r_GU; done) | (exact GU_0 r_GU) | (exfalso; omega; done) | (exfalso; contradiction; done)) (show zOw (m5 99) (m 103) (m5 111) from by first | (rw [p0_m5.1, p0_m5.2.2.2.1]; exact r_OW; done) | (exact Ow_rm r_OW (by decide) (tn_cast (by omega)).symm) | (exfalso; omega; done) | (exfalso; contradiction; done)) r_GG (show qRB (m5 99) (m 100) (m 98) (m 101) (m 102) (m 103) ((ma_u m 107 v2.toNatClampNeg ((m 107 v2.toNatClampNeg) + (1 : Int32))) 107) (m 108) (m5 109) (m5 111) (m 112) (m5 113) (m5 114) (m5 94 55) (m 94 46) (m 94 11) (m 94 12) (m 94 62) (m 94 17) (m 94 9) (xHo aa ob on) from by first | (exfalso; omega; done) | (rw [Ho_y r_RB p2_m1 (by omega) (Or.inl (i_nz2 (by omega))) (by rw [if_neg (i_nz2 (by omega))])]; rw [p0_m5.1, p0_m5.2.2.1, p0_m5.2.2.2.1, p0_m5.2.2.2.2.1, p0_m5.2.2.2.2.2.1, p0_m5.2.2.2.2.2.2.1]; exact RB_ho r_RB (by omega) (Re_y p2_m1 (by omega)).2.1; done) | (rw [Ho_y r_RB p2_m1 (by omega) (Or.inr (i_nz2 (by omega))) (by rw [if_pos (i_zer (by omega))])]; rw [p0_m5.1, p0_m5.2.2.1, p0_m5.2.2.2.1, p0_m5.2.2.2.2.1, p0_m5.2.2.2.2.2.1, p0_m5.2.2.2.2.2.2.1]; exact RB_ho r_RB (by omega) (Re_y p2_m1 (by omega)).2.1; done) | (exfalso; omega; done) | (exfalso; contradiction; done)) (show qI (xHo aa ob on) from by first | (exfalso; omega; done) | (rw [Ho_y r_RB p2_m1 (by omega) (Or.inl (i_nz2 (by omega))) (by rw [if_neg (i_nz2 (by omega))])]; exact I_u r_QI (Or.inr (Or.inr (Or.inl rfl))); done) | (rw [Ho_y r_RB p2_m1 (by omega) (Or.inr (i_nz2 (by omega))) (by rw [if_pos (i_zer (by omega))])]; exact I_u r_QI (Or.inr (Or.inr (Or.inl rfl))); done) | (exfalso; omega; done) | (exfalso; contradiction; done)) (show qMG (m 94 58) (m 106) (m 115) (m 94 57) (m 94 56) (m5 99) (m 100) (xHo aa ob on) from by first | (exfalso; omega; done) | (rw [Ho_y r_RB p2_m1 (by omega) (Or.inl (i_nz2 (by omega))) (by rw [if_neg (i_nz2 (by omega))])]; rw [p0_m5.1]; rw [(Re_y p2_m1 (by omega)).2.2.1]; exact MG_ho r_MG r_QI (Re_y p2_m1 (by omega)).2.2.2; done) | (rw [Ho_y r_RB p2_m1 (by omega) (Or.inr (i_nz2 (by omega))) (by rw [if_pos (i_zer (by omega))])]; rw [p0_m5.1]; rw [(Re_y p2_m1 (by omega)).2.2.1]; exact MG_ho r_MG r_QI (Re_y p2_m1 (by omega)).2.2.2; done) | (exfalso; omega; done) | (exfalso; contradiction; done)) (show (xHo aa ob on) 87 8 = (m 94 58) from by first | (exfalso; omega; done) | (rw [Ho_y r_RB p2_m1 (by omega) (Or.inl (i_nz2 (by omega))) (by rw [if_neg (i_nz2 (by omega))])]; rw [un (by decide)]; exact r_MK; done) | (rw [Ho_y r_RB p2_m1 (by omega) (Or.inr (i_nz2 (by omega))) (by rw [if_pos (i_zer (by omega))])]; rw [un (by decide)]; exact r_MK; done) | (exfalso; omega; done) | (exfalso; contradiction; done)) (show (m5 94 45).toInt = sm (zbU (m5 99)) (m 102) 3100 from by first | (rw [p0_m5.1, p0_m5.2.2.2.2.2.2.2]; exact r_WTS; done) | (exfalso; omega; done) | (exfalso; contradiction; done))
              · skip
                have g119 := i_ne h112
                refine zd (fun (h120 : v2 < (0 : Int32)) => ?_) (fun (h120 : ¬ v2 < (0 : Int32)) => ?_)
                · skip
                  have g121 := i_lt h120
                  have hV122 : zV (ma_u (zov wr_245 (ma_u m 94 0 (0 : Int32)) m1) 94 0 (0 : Int32)) := uf_94_0 hV_m1
                  have hV123 : zV (ma_u (ma_u (zov wr_245 (ma_u m 94 0 (0 : Int32)) m1) 94 0 (0 : Int32)) 107 v2.toNatClampNeg ((m 107 v2.toNatClampNeg) + (1 : Int32))) := ua_107 hV122
                  have b124 := i_bd (m 107 v2.toNatClampNeg)
                  first | have e125 : ((m 107 v2.toNatClampNeg) + (1 : Int32)).toInt = (m 107 v2.toNatClampNeg).toInt + (1) := i_addk rfl (by omega) (by omega) | have b126 := i_bd ((m 107 v2.toNatClampNeg) + (1 : Int32))
                  exact K (((m 107 v2.toNatClampNeg) + (1 : Int32))) _ (zF_u (zF_u (zF_zov (zF_u zF_rfl rfl) ws_245_253) rfl) rfl) hV123 r_W r_GW r_GU r_OW r_GG (show qRB (m 99) (m 100) (m 98) (m 101) (m 102) (m 103) ((ma_u m 107 v2.toNatClampNeg ((m 107 v2.toNatClampNeg) + (1 : Int32))) 107) (m 108) (m 109) (m 111) (m 112) (m 113) (m 114) (m 94 55) (m 94 46) (m 94 11) (m 94 12) (m 94 62) (m 94 17) (m 94 9) (xHo aa ob on) from by first | (exfalso; omega; done) | (rw [Ho_y r_RB p2_m1 (by omega) (Or.inl (i_nz2 (by omega))) (by rw [if_neg (i_nz2 (by omega))])]; exact RB_ho r_RB (by omega) (Re_y p2_m1 (by omega)).2.1; done) | (rw [Ho_y r_RB p2_m1 (by omega) (Or.inr (i_nz2 (by omega))) (by rw [if_pos (i_zer (by omega))])]; exact RB_ho r_RB (by omega) (Re_y p2_m1 (by omega)).2.1; done) | (exfalso; omega; done) | (exfalso; contradiction; done)) (show qI (xHo aa ob on) from by first | (exfalso; omega; done) | (rw [Ho_y r_RB p2_m1 (by omega) (Or.inl (i_nz2 (by omega))) (by rw [if_neg (i_nz2 (by omega))])]; exact I_u r_QI (Or.inr (Or.inr (Or.inl rfl))); done) | (rw [Ho_y r_RB p2_m1 (by omega) (Or.inr (i_nz2 (by omega))) (by rw [if_pos (i_zer (by omega))])]; exact I_u r_QI (Or.inr (Or.inr (Or.inl rfl))); done) | (exfalso; omega; done) | (exfalso; contradiction; done)) (show qMG (m 94 58) (m 106) (m 115) (m 94 57) (m 94 56) (m 99) (m 100) (xHo aa ob on) from by first | (exfalso; omega; done) | (rw [Ho_y r_RB p2_m1 (by omega) (Or.inl (i_nz2 (by omega))) (by rw [if_neg (i_nz2 (by omega))])]; rw [(Re_y p2_m1 (by omega)).2.2.1]; exact MG_ho r_MG r_QI (Re_y p2_m1 (by omega)).2.2.2; done) | (rw [Ho_y r_RB p2_m1 (by omega) (Or.inr (i_nz2 (by omega))) (by rw [if_pos (i_zer (by omega))])]; rw [(Re_y p2_m1 (by omega)).2.2.1]; exact MG_ho r_MG r_QI (Re_y p2_m1 (by omega)).2.2.2; done) | (exfalso; omega; done) | (exfalso; contradiction; done)) (show (xHo aa ob on) 87 8 = (m 94 58) from by first | (exfalso; omega; done) | (rw [Ho_y r_RB p2_m1 (by omega) (Or.inl (i_nz2 (by omega))) (by rw [if_neg (i_nz2 (by omega))])]; rw [un (by decide)]; exact r_MK; done) | (rw [Ho_y r_RB p2_m1 (by omega) (Or.inr (i_nz2 (by omega))) (by rw [if_pos (i_zer (by omega))])]; rw [un (by decide)]; exact r_MK; done) | (exfalso; omega; done) | (exfalso; contradiction; done)) r_WTS
                · skip
                  have g127 := i_nlt h120
                  have li128 : (4 : Int32).toInt = 4 := rfl
                  refine zd (fun (h129 : (m 94 10) = (4 : Int32)) => ?_) (fun (h129 : ¬ (m 94 10) = (4 : Int32)) => ?_)
                  · skip
                    have g130 := i_eq h129
                    exfalso; omega
                  · skip
                    have g131 := i_ne h129
                    have hV132 : zV (ma_u (zov wr_245 (ma_u m 94 0 (0 : Int32)) m1) 94 0 (0 : Int32)) := uf_94_0 hV_m1
                    have hV133 : zV (ma_u (ma_u (zov wr_245 (ma_u m 94 0 (0 : Int32)) m1) 94 0 (0 : Int32)) 107 v2.toNatClampNeg ((m 107 v2.toNatClampNeg) + (1 : Int32))) := ua_107 hV132
                    have b134 := i_bd (m 107 v2.toNatClampNeg)
                    first | have e135 : ((m 107 v2.toNatClampNeg) + (1 : Int32)).toInt = (m 107 v2.toNatClampNeg).toInt + (1) := i_addk rfl (by omega) (by omega) | have b136 := i_bd ((m 107 v2.toNatClampNeg) + (1 : Int32))
                    exact K (((m 107 v2.toNatClampNeg) + (1 : Int32))) _ (zF_u (zF_u (zF_zov (zF_u zF_rfl rfl) ws_245_253) rfl) rfl) hV133 r_W r_GW r_GU r_OW r_GG (show qRB (m 99) (m 100) (m 98) (m 101) (m 102) (m 103) ((ma_u m 107 v2.toNatClampNeg ((m 107 v2.toNatClampNeg) + (1 : Int32))) 107) (m 108) (m 109) (m 111) (m 112) (m 113) (m 114) (m 94 55) (m 94 46) (m 94 11) (m 94 12) (m 94 62) (m 94 17) (m 94 9) (xHo aa ob on) from by first | (exfalso; omega; done) | (rw [Ho_y r_RB p2_m1 (by omega) (Or.inl (i_nz2 (by omega))) (by rw [if_neg (i_nz2 (by omega))])]; exact RB_ho r_RB (by omega) (Re_y p2_m1 (by omega)).2.1; done) | (rw [Ho_y r_RB p2_m1 (by omega) (Or.inr (i_nz2 (by omega))) (by rw [if_pos (i_zer (by omega))])]; exact RB_ho r_RB (by omega) (Re_y p2_m1 (by omega)).2.1; done) | (exfalso; omega; done) | (exfalso; contradiction; done)) (show qI (xHo aa ob on) from by first | (exfalso; omega; done) | (rw [Ho_y r_RB p2_m1 (by omega) (Or.inl (i_nz2 (by omega))) (by rw [if_neg (i_nz2 (by omega))])]; exact I_u r_QI (Or.inr (Or.inr (Or.inl rfl))); done) | (rw [Ho_y r_RB p2_m1 (by omega) (Or.inr (i_nz2 (by omega))) (by rw [if_pos (i_zer (by omega))])]; exact I_u r_QI (Or.inr (Or.inr (Or.inl rfl))); done) | (exfalso; omega; done) | (exfalso; contradiction; done)) (show qMG (m 94 58) (m 106) (m 115) (m 94 57) (m 94 56) (m 99) (m 100) (xHo aa ob on) from by first | (exfalso; omega; done) | (rw [Ho_y r_RB p2_m1 (by omega) (Or.inl (i_nz2 (by omega))) (by rw [if_neg (i_nz2 (by omega))])]; rw [(Re_y p2_m1 (by omega)).2.2.1]; exact MG_ho r_MG r_QI (Re_y p2_m1 (by omega)).2.2.2; done) | (rw [Ho_y r_RB p2_m1 (by omega) (Or.inr (i_nz2 (by omega))) (by rw [if_pos (i_zer (by omega))])]; rw [(Re_y p2_m1 (by omega)).2.2.1]; exact MG_ho r_MG r_QI (Re_y p2_m1 (by omega)).2.2.2; done) | (exfalso; omega; done) | (exfalso; contradiction; done)) (show (xHo aa ob on) 87 8 = (m 94 58) from by first | (exfalso; omega; done) | (rw [Ho_y r_RB p2_m1 (by omega) (Or.inl (i_nz2 (by omega))) (by rw [if_neg (i_nz2 (by omega))])]; rw [un (by decide)]; exact r_MK; done) | (rw [Ho_y r_RB p2_m1 (by omega) (Or.inr (i_nz2 (by omega))) (by rw [if_pos (i_zer (by omega))])]; rw [un (by decide)]; exact r_MK; done) | (exfalso; omega; done) | (exfalso; contradiction; done)) r_WTS
    · skip
      have g137 := i_nle h11
      have hV138 : zV (ma_u (zov wr_245 (ma_u m 94 0 (0 : Int32)) m1) 94 0 (2 : Int32)) := uf_94_0 hV_m1
      exact K ((0 : Int32)) _ (zF_u (zF_zov (zF_u zF_rfl rfl) ws_245_253) rfl) hV138 r_W r_GW r_GU r_OW r_GG (show qRB (m 99) (m 100) (m 98) (m 101) (m 102) (m 103) (m 107) (m 108) (m 109) (m 111) (m 112) (m 113) (m 114) (m 94 55) (m 94 46) (m 94 11) (m 94 12) (m 94 62) (m 94 17) (m 94 9) (xHo aa ob on) from by first | (unfold xHo; rw [qIf_n (fun w => Re_n p2_m1 (by omega) w.1)]; exact r_RB; done) | (rw [Ho_x r_RB p2_m1 (by omega) (i_zer (by omega)) (i_zer (by omega))]; exact r_RB; done) | (exfalso; omega; done) | (exfalso; contradiction; done)) (show qI (xHo aa ob on) from by first | (unfold xHo; rw [qIf_n (fun w => Re_n p2_m1 (by omega) w.1)]; exact r_QI; done) | (rw [Ho_x r_RB p2_m1 (by omega) (i_zer (by omega)) (i_zer (by omega))]; exact r_QI; done) | (exfalso; omega; done) | (exfalso; contradiction; done)) (show qMG (m 94 58) (m 106) (m 115) (m 94 57) (m 94 56) (m 99) (m 100) (xHo aa ob on) from by first | (unfold xHo; rw [qIf_n (fun w => Re_n p2_m1 (by omega) w.1)]; exact r_MG; done) | (rw [Ho_x r_RB p2_m1 (by omega) (i_zer (by omega)) (i_zer (by omega))]; exact r_MG; done) | (exfalso; omega; done) | (exfalso; contradiction; done)) (show (xHo aa ob on) 87 8 = (m 94 58) from by first | (unfold xHo; rw [qIf_n (fun w => Re_n p2_m1 (by omega) w.1)]; exact r_MK; done) | (rw [Ho_x r_RB p2_m1 (by omega) (i_zer (by omega)) (i_zer (by omega))]; exact r_MK; done) | (exfalso; omega; done) | (exfalso; contradiction; done)) r_WTS

/-! from 95.l08 -/
/-! the reference where it sweeps (written by wip/tools/gen20r.py) -/
theorem sp_252r0 {X : Nat × (Nat → Int32)} {P : Option ma_V → (Nat → Nat → Int32) → Prop} {T : Nat} {aa : Nat→Nat→Int32} {m : Nat → Nat → Int32} (ix : Int32) (r1 : Int32) (hV : zV m) (hpre0 : T ≤ 512) (r_W : zW (m 94 7) (m 98) (m 101) (m 102) (m 108)) (r_GW : zGW T (m 94 55) (m 109)) (r_GU : zGU T (m 94 46) (m 99)) (r_OW : zOw (m 99) (m 103) (m 111)) (r_GG : zGG (m 94 58) (m 94 56) (m 94 57) (m 106)) (hpre6 : (m 94 10).toInt = 0 ∧ (m 94 58).toInt = 0) (hpre7 : (m 94 8).toInt = 1) (r_RB : qRB (m 99) (m 100) (m 98) (m 101) (m 102) (m 103) (m 107) (m 108) (m 109) (m 111) (m 112) (m 113) (m 114) (m 94 55) (m 94 46) (m 94 11) (m 94 12) (m 94 62) (m 94 17) (m 94 9) aa) (r_QI : qI aa) (r_MG : qMG (m 94 58) (m 106) (m 115) (m 94 57) (m 94 56) (m 99) (m 100) aa) (r_MK : aa 87 8 = (m 94 58)) (r_WTS : (m 94 45).toInt = sm (zbU (m 99)) (m 102) 3100) (KZ : ∀ v m₉, zV (zov wr_252 m m₉) → (zW (m 94 7) (m 98) (m 101) (m 102) (m 108)) → (zGW T (m₉ 94 55) (m₉ 109)) → (zGU T (m 94 46) (m₉ 99)) → (zOw (m₉ 99) (m 103) (m₉ 111)) → (zGG (m 94 58) (m₉ 94 56) (m 94 57) (m₉ 106)) → (qRB (m₉ 99) (m 100) (m 98) (m 101) (m 102) (m 103) (m 107) (m 108) (m₉ 109) (m₉ 111) (m₉ 112) (m₉ 113) (m₉ 114) (m₉ 94 55) (m 94 46) (m 94 11) (m 94 12) (m 94 62) (m 94 17) (m 94 9) (ySg aa ix r1)) → (qI (ySg aa ix r1)) → (qMG (m 94 58) (m₉ 106) (m₉ 115) (m 94 57) (m₉ 94 56) (m₉ 99) (m 100) (ySg aa ix r1)) → ((ySg aa ix r1) 87 8 = (m 94 58)) → ((m₉ 94 45).toInt = sm (zbU (m₉ 99)) (m 102) 3100) → P (some (.inl v)) (zov wr_252 m m₉)) : zm X 5 111 252 0 [(0, .inr (.inr (some 94))), (1, .inl ix), (2, .inl r1)] m P := by
  have K : ∀ v m₉, zF wr_252 m m₉ → zV m₉ → (zW (m₉ 94 7) (m₉ 98) (m₉ 101) (m₉ 102) (m₉ 108)) → (zGW T (m₉ 94 55) (m₉ 109)) → (zGU T (m₉ 94 46) (m₉ 99)) → (zOw (m₉ 99) (m₉ 103) (m₉ 111)) → (zGG (m₉ 94 58) (m₉ 94 56) (m₉ 94 57) (m₉ 106)) → (qRB (m₉ 99) (m₉ 100) (m₉ 98) (m₉ 101) (m₉ 102) (m₉ 103) (m₉ 107) (m₉ 108) (m₉ 109) (m₉ 111) (m₉ 112) (m₉ 113) (m₉ 114) (m₉ 94 55) (m₉ 94 46) (m₉ 94 11) (m₉ 94 12) (m₉ 94 62) (m₉ 94 17) (m₉ 94 9) (ySg aa ix r1)) → (qI (ySg aa ix r1)) → (qMG (m₉ 94 58) (m₉ 106) (m₉ 115) (m₉ 94 57) (m₉ 94 56) (m₉ 99) (m₉ 100) (ySg aa ix r1)) → ((ySg aa ix r1) 87 8 = (m₉ 94 58)) → ((m₉ 94 45).toInt = sm (zbU (m₉ 99)) (m₉ 102) 3100) → P (some (.inl v)) m₉ := by
    intro v m₉ hf z q0 q1 q2 q3 q4 q5 q6 q7 q8 q9
    have e := zov_eq hf
    rw [e] at z ⊢
    try rw [e] at q0
    try rw [e] at q1
    try rw [e] at q2
    try rw [e] at q3
    try rw [e] at q4
    try rw [e] at q5
    try rw [e] at q6
    try rw [e] at q7
    try rw [e] at q8
    try rw [e] at q9
    exact KZ v m₉ z q0 q1 q2 q3 q4 q5 q6 q7 q8 q9
  refine g_252_0 ix r1 ?_
  have f1 : 0 ≤ (m 94 10).toInt ∧ (m 94 10).toInt ≤ 6 := rs_94_10 (m := m) hV
  have f2 : 0 ≤ (m 94 58).toInt ∧ (m 94 58).toInt ≤ 1 := rs_94_58 (m := m) hV
  have f3 : 0 ≤ (m 94 8).toInt ∧ (m 94 8).toInt ≤ 1 := rs_94_8 (m := m) hV
  have b4 := i_bd ix
  have li5 : (0 : Int32).toInt = 0 := rfl
  refine zd (fun (h6 : ix < (0 : Int32)) => ?_) (fun (h6 : ¬ ix < (0 : Int32)) => ?_)
  · skip
    have g7 := i_lt h6
    have hV8 : zV (ma_u m 94 0 (1 : Int32)) := uf_94_0 hV
    exact K ((0 : Int32)) _ (zF_u zF_rfl rfl) hV8 r_W r_GW r_GU r_OW r_GG (show qRB (m 99) (m 100) (m 98) (m 101) (m 102) (m 103) (m 107) (m 108) (m 109) (m 111) (m 112) (m 113) (m 114) (m 94 55) (m 94 46) (m 94 11) (m 94 12) (m 94 62) (m 94 17) (m 94 9) (ySg aa ix r1) from by first | (rw [Sg_n r_RB (by omega) (by omega) (by omega)]; exact r_RB; done) | (rw [Sg_x (by omega)]; exact r_RB; done) | (exfalso; omega; done) | (exfalso; contradiction; done)) (show qI (ySg aa ix r1) from by first | (rw [Sg_n r_RB (by omega) (by omega) (by omega)]; exact r_QI; done) | (rw [Sg_x (by omega)]; exact r_QI; done) | (exfalso; omega; done) | (exfalso; contradiction; done)) (show qMG (m 94 58) (m 106) (m 115) (m 94 57) (m 94 56) (m 99) (m 100) (ySg aa ix r1) from by first | (rw [Sg_n r_RB (by omega) (by omega) (by omega)]; exact r_MG; done) | (rw [Sg_x (by omega)]; exact r_MG; done) | (exfalso; omega; done) | (exfalso; contradiction; done)) (show (ySg aa ix r1) 87 8 = (m 94 58) from by first | (rw [Sg_n r_RB (by omega) (by omega) (by omega)]; exact r_MK; done) | (rw [Sg_x (by omega)]; exact r_MK; done) | (exfalso; omega; done) | (exfalso; contradiction; done)) r_WTS
  · skip
    have g9 := i_nlt h6
    have li10 : (16 : Int32).toInt = 16 := rfl
    refine zd (fun (h11 : (16 : Int32) ≤ ix) => ?_) (fun (h11 : ¬ (16 : Int32) ≤ ix) => ?_)
    · skip
      have g12 := i_le h11
      have hV13 : zV (ma_u m 94 0 (1 : Int32)) := uf_94_0 hV
      exact K ((0 : Int32)) _ (zF_u zF_rfl rfl) hV13 r_W r_GW r_GU r_OW r_GG (show qRB (m 99) (m 100) (m 98) (m 101) (m 102) (m 103) (m 107) (m 108) (m 109) (m 111) (m 112) (m 113) (m 114) (m 94 55) (m 94 46) (m 94 11) (m 94 12) (m 94 62) (m 94 17) (m 94 9) (ySg aa ix r1) from by first | (rw [Sg_n r_RB (by omega) (by omega) (by omega)]; exact r_RB; done) | (rw [Sg_x (by omega)]; exact r_RB; done) | (exfalso; omega; done) | (exfalso; contradiction; done)) (show qI (ySg aa ix r1) from by first | (rw [Sg_n r_RB (by omega) (by omega) (by omega)]; exact r_QI; done) | (rw [Sg_x (by omega)]; exact r_QI; done) | (exfalso; omega; done) | (exfalso; contradiction; done)) (show qMG (m 94 58) (m 106) (m 115) (m 94 57) (m 94 56) (m 99) (m 100) (ySg aa ix r1) from by first | (rw [Sg_n r_RB (by omega) (by omega) (by omega)]; exact r_MG; done) | (rw [Sg_x (by omega)]; exact r_MG; done) | (exfalso; omega; done) | (exfalso; contradiction; done)) (show (ySg aa ix r1) 87 8 = (m 94 58) from by first | (rw [Sg_n r_RB (by omega) (by omega) (by omega)]; exact r_MK; done) | (rw [Sg_x (by omega)]; exact r_MK; done) | (exfalso; omega; done) | (exfalso; contradiction; done)) r_WTS
    · skip
      have g14 := i_nle h11
      have b15 := i_bd r1
      refine zd (fun (h16 : r1 < (0 : Int32)) => ?_) (fun (h16 : ¬ r1 < (0 : Int32)) => ?_)
      · skip
        have g17 := i_lt h16
        have hV18 : zV (ma_u m 94 0 (1 : Int32)) := uf_94_0 hV
        exact K ((0 : Int32)) _ (zF_u zF_rfl rfl) hV18 r_W r_GW r_GU r_OW r_GG (show qRB (m 99) (m 100) (m 98) (m 101) (m 102) (m 103) (m 107) (m 108) (m 109) (m 111) (m 112) (m 113) (m 114) (m 94 55) (m 94 46) (m 94 11) (m 94 12) (m 94 62) (m 94 17) (m 94 9) (ySg aa ix r1) from by first | (rw [Sg_n r_RB (by omega) (by omega) (by omega)]; exact r_RB; done) | (rw [Sg_x (by omega)]; exact r_RB; done) | (exfalso; omega; done) | (exfalso; contradiction; done)) (show qI (ySg aa ix r1) from by first | (rw [Sg_n r_RB (by omega) (by omega) (by omega)]; exact r_QI; done) | (rw [Sg_x (by omega)]; exact r_QI; done) | (exfalso; omega; done) | (exfalso; contradiction; done)) (show qMG (m 94 58) (m 106) (m 115) (m 94 57) (m 94 56) (m 99) (m 100) (ySg aa ix r1) from by first | (rw [Sg_n r_RB (by omega) (by omega) (by omega)]; exact r_MG; done) | (rw [Sg_x (by omega)]; exact r_MG; done) | (exfalso; omega; done) | (exfalso; contradiction; done)) (show (ySg aa ix r1) 87 8 = (m 94 58) from by first | (rw [Sg_n r_RB (by omega) (by omega) (by omega)]; exact r_MK; done) | (rw [Sg_x (by omega)]; exact r_MK; done) | (exfalso; omega; done) | (exfalso; contradiction; done)) r_WTS
      · skip
        have g19 := i_nlt h16
        refine zd (fun (h20 : (16 : Int32) ≤ r1) => ?_) (fun (h20 : ¬ (16 : Int32) ≤ r1) => ?_)
        · skip
          have g21 := i_le h20
          have hV22 : zV (ma_u m 94 0 (1 : Int32)) := uf_94_0 hV
          exact K ((0 : Int32)) _ (zF_u zF_rfl rfl) hV22 r_W r_GW r_GU r_OW r_GG (show qRB (m 99) (m 100) (m 98) (m 101) (m 102) (m 103) (m 107) (m 108) (m 109) (m 111) (m 112) (m 113) (m 114) (m 94 55) (m 94 46) (m 94 11) (m 94 12) (m 94 62) (m 94 17) (m 94 9) (ySg aa ix r1) from by first | (rw [Sg_n r_RB (by omega) (by omega) (by omega)]; exact r_RB; done) | (rw [Sg_x (by omega)]; exact r_RB; done) | (exfalso; omega; done) | (exfalso; contradiction; done)) (show qI (ySg aa ix r1) from by first | (rw [Sg_n r_RB (by omega) (by omega) (by omega)]; exact r_QI; done) | (rw [Sg_x (by omega)]; exact r_QI; done) | (exfalso; omega; done) | (exfalso; contradiction; done)) (show qMG (m 94 58) (m 106) (m 115) (m 94 57) (m 94 56) (m 99) (m 100) (ySg aa ix r1) from by first | (rw [Sg_n r_RB (by omega) (by omega) (by omega)]; exact r_MG; done) | (rw [Sg_x (by omega)]; exact r_MG; done) | (exfalso; omega; done) | (exfalso; contradiction; done)) (show (ySg aa ix r1) 87 8 = (m 94 58) from by first | (rw [Sg_n r_RB (by omega) (by omega) (by omega)]; exact r_MK; done) | (rw [Sg_x (by omega)]; exact r_MK; done) | (exfalso; omega; done) | (exfalso; contradiction; done)) r_WTS
        · skip
          have g23 := i_nle h20
          refine zd (fun (h24 : (m 94 8) = (0 : Int32)) => ?_) (fun (h24 : ¬ (m 94 8) = (0 : Int32)) => ?_)
          · skip
            have g25 := i_eq h24
            exfalso; omega
          · skip
            have g26 := i_ne h24
            have hg27 : (0 ≤ ix ∧ ix.toNatClampNeg < 16) := i_ix (by omega) (by omega)
            refine ⟨hg27, ?_⟩
            first | have f28 : -1 ≤ (m 113 ix.toNatClampNeg).toInt ∧ (m 113 ix.toNatClampNeg).toInt ≤ 3099 := ra_113 (m := m) hV (k := ix.toNatClampNeg) (i_ix (n := 16) (by omega) (by omega)).2 | have b29 := i_bd (m 113 ix.toNatClampNeg)
            refine zd (fun (h30 : (0 : Int32) ≤ (m 113 ix.toNatClampNeg)) => ?_) (fun (h30 : ¬ (0 : Int32) ≤ (m 113 ix.toNatClampNeg)) => ?_)
            · skip
              have g31 := i_le h30
              refine zd (fun (h32 : (m 94 58) = (0 : Int32)) => ?_) (fun (h32 : ¬ (m 94 58) = (0 : Int32)) => ?_)
              · skip
                have g33 := i_eq h32
                have hV34 : zV (ma_u m 94 0 (0 : Int32)) := uf_94_0 hV
                refine sp_238r0 (aa := (aSt aa (qNo (m 100) (m 113 ix.toNatClampNeg)))) (r1) ((m 113 ix.toNatClampNeg)) hV34 (by omega) (by omega) (by omega) (by omega) (show (m 94 10).toInt = 0 ∧ (m 94 58).toInt = 0 from by omega) r_W r_GW r_GU r_OW r_GG (show qRB (m 99) (m 100) (m 98) (m 101) (m 102) (m 103) (m 107) (m 108) (m 109) (m 111) (m 112) (m 113) (m 114) (m 94 55) (m 94 46) (m 94 11) (m 94 12) (m 94 62) (m 94 17) (m 94 9) (aSt aa (qNo (m 100) (m 113 ix.toNatClampNeg))) from by first | (exact RB_of r_RB St_of) | (exfalso; omega; done) | (exfalso; contradiction; done)) (show qI (aSt aa (qNo (m 100) (m 113 ix.toNatClampNeg))) from by first | (exact qI_of r_QI St_of) | (exfalso; omega; done) | (exfalso; contradiction; done)) (show qMG (m 94 58) (m 106) (m 115) (m 94 57) (m 94 56) (m 99) (m 100) (aSt aa (qNo (m 100) (m 113 ix.toNatClampNeg))) from by first | (exact fun z => absurd (by omega) z) | (exact fun z => St_skip (r_MG z) (fun w => absurd (r_MK.symm.trans w) (i_nz2 (by omega))) (r_RB.2.2.2.1 ix.toNatClampNeg (by omega)).1 (by assumption)) | (exfalso; omega; done) | (exfalso; contradiction; done)) (show (aSt aa (qNo (m 100) (m 113 ix.toNatClampNeg))) 87 8 = (m 94 58) from by first | (exact (St_of 87 8 (by decide) (by decide) (by decide)).symm.trans r_MK) | (exfalso; omega; done) | (exfalso; contradiction; done)) r_WTS (show qU (m 99) (m 113 ix.toNatClampNeg) from by first | (exact (r_RB.2.2.2.1 ix.toNatClampNeg (by omega)).1) | (assumption; done) | (exact ow5.1) | (exact ow3.1) | (exfalso; omega; done) | (exfalso; contradiction; done)) (show qMS (m 94 58) (aSt aa (qNo (m 100) (m 113 ix.toNatClampNeg))) (qNo (m 100) (m 113 ix.toNatClampNeg)) from by first | (exact MS_st r_RB r_MG r_MK (r_RB.2.2.2.1 ix.toNatClampNeg (by omega)).1 (by omega)) | (exfalso; omega; done) | (exfalso; contradiction; done)) (fun m1 hV_m1 p0_m1 p1_m1 p2_m1 p3_m1 p4_m1 p5_m1 p6_m1 p7_m1 p8_m1 => zmv_n ?_)
                have p0_m1 : zGW T (m1 94 55) (m1 109) := p0_m1
                have p1_m1 : zGU T (m 94 46) (m1 99) := p1_m1
                have p2_m1 : zOw (m1 99) (m 103) (m1 111) := p2_m1
                have p3_m1 : zGG (m 94 58) (m1 94 56) (m 94 57) (m1 106) := p3_m1
                have p4_m1 : qRB (m1 99) (m 100) (m 98) (m 101) (m 102) (m 103) (m 107) (m 108) (m1 109) (m1 111) (m1 112) (m1 113) (m1 114) (m1 94 55) (m 94 46) (m 94 11) (m 94 12) (m 94 62) (m 94 17) (m 94 9) (aRt (aSt aa (qNo (m 100) (m 113 ix.toNatClampNeg))) r1 (qNo (m 100) (m 113 ix.toNatClampNeg))) := p4_m1
                have p5_m1 : qI (aRt (aSt aa (qNo (m 100) (m 113 ix.toNatClampNeg))) r1 (qNo (m 100) (m 113 ix.toNatClampNeg))) := p5_m1
                have p6_m1 : qMG (m 94 58) (m1 106) (m1 115) (m 94 57) (m1 94 56) (m1 99) (m 100) (aRt (aSt aa (qNo (m 100) (m 113 ix.toNatClampNeg))) r1 (qNo (m 100) (m 113 ix.toNatClampNeg))) := p6_m1
                have p7_m1 : (aRt (aSt aa (qNo (m 100) (m 113 ix.toNatClampNeg))) r1 (qNo (m 100) (m 113 ix.toNatClampNeg))) 87 8 = (m 94 58) := p7_m1
                have p8_m1 : (m1 94 45).toInt = sm (zbU (m1 99)) (m 102) 3100 := p8_m1
                have hg35 : (0 ≤ (m 113 ix.toNatClampNeg) ∧ (m 113 ix.toNatClampNeg).toNatClampNeg < 3100) := i_ix (by omega) (by omega)
                refine ⟨hg35, ?_⟩
                first | have f36 : 0 ≤ (m 100 (m 113 ix.toNatClampNeg).toNatClampNeg).toInt ∧ (m 100 (m 113 ix.toNatClampNeg).toNatClampNeg).toInt ≤ 100000 := ra_100 (m := m) hV (k := (m 113 ix.toNatClampNeg).toNatClampNeg) (i_ix (n := 3100) (by omega) (by omega)).2 | have b37 := i_bd (m 100 (m 113 ix.toNatClampNeg).toNatClampNeg)
                exact K ((m 100 (m 113 ix.toNatClampNeg).toNatClampNeg)) _ (zF_zov (zF_u zF_rfl rfl) ws_238_252) hV_m1 r_W p0_m1 p1_m1 p2_m1 p3_m1 (show qRB (m1 99) (m 100) (m 98) (m 101) (m 102) (m 103) (m 107) (m 108) (m1 109) (m1 111) (m1 112) (m1 113) (m1 114) (m1 94 55) (m 94 46) (m 94 11) (m 94 12) (m 94 62) (m 94 17) (m 94 9) (ySg aa ix r1) from by first | (rw [Sg_y r_RB (by omega) (by omega) (by omega) (by omega) (by omega)]; exact p4_m1; done) | (exfalso; omega; done) | (exfalso; contradiction; done)) (show qI (ySg aa ix r1) from by first | (rw [Sg_y r_RB (by omega) (by omega) (by omega) (by omega) (by omega)]; exact p5_m1; done) | (exfalso; omega; done) | (exfalso; contradiction; done)) (show qMG (m 94 58) (m1 106) (m1 115) (m 94 57) (m1 94 56) (m1 99) (m 100) (ySg aa ix r1) from by first | (rw [Sg_y r_RB (by omega) (by omega) (by omega) (by omega) (by omega)]; exact p6_m1; done) | (exfalso; omega; done) | (exfalso; contradiction; done)) (show (ySg aa ix r1) 87 8 = (m 94 58) from by first | (rw [Sg_y r_RB (by omega) (by omega) (by omega) (by omega) (by omega)]; exact p7_m1; done) | (exfalso; omega; done) | (exfalso; contradiction; done)) p8_m1
              · skip
                have g38 := i_ne h32
                refine zd (fun (h39 : (m 113 ix.toNatClampNeg) < (0 : Int32)) => ?_) (fun (h39 : ¬ (m 113 ix.toNatClampNeg) < (0 : Int32)) => ?_)
                · skip
                  have g40 := i_lt h39
                  have hV41 : zV (ma_u m 94 0 (0 : Int32)) := uf_94_0 hV
                  refine sp_238r0 (aa := (aSt aa (qNo (m 100) (m 113 ix.toNatClampNeg)))) (r1) ((m 113 ix.toNatClampNeg)) hV41 (by omega) (by omega) (by omega) (by omega) (show (m 94 10).toInt = 0 ∧ (m 94 58).toInt = 0 from by omega) r_W r_GW r_GU r_OW r_GG (show qRB (m 99) (m 100) (m 98) (m 101) (m 102) (m 103) (m 107) (m 108) (m 109) (m 111) (m 112) (m 113) (m 114) (m 94 55) (m 94 46) (m 94 11) (m 94 12) (m 94 62) (m 94 17) (m 94 9) (aSt aa (qNo (m 100) (m 113 ix.toNatClampNeg))) from by first | (exact RB_of r_RB St_of) | (exfalso; omega; done) | (exfalso; contradiction; done)) (show qI (aSt aa (qNo (m 100) (m 113 ix.toNatClampNeg))) from by first | (exact qI_of r_QI St_of) | (exfalso; omega; done) | (exfalso; contradiction; done)) (show qMG (m 94 58) (m 106) (m 115) (m 94 57) (m 94 56) (m 99) (m 100) (aSt aa (qNo (m 100) (m 113 ix.toNatClampNeg))) from by first | (exact fun z => absurd (by omega) z) | (exact fun z => St_skip (r_MG z) (fun w => absurd (r_MK.symm.trans w) (i_nz2 (by omega))) (r_RB.2.2.2.1 ix.toNatClampNeg (by omega)).1 (by assumption)) | (exfalso; omega; done) | (exfalso; contradiction; done)) (show (aSt aa (qNo (m 100) (m 113 ix.toNatClampNeg))) 87 8 = (m 94 58) from by first | (exact (St_of 87 8 (by decide) (by decide) (by decide)).symm.trans r_MK) | (exfalso; omega; done) | (exfalso; contradiction; done)) r_WTS (show qU (m 99) (m 113 ix.toNatClampNeg) from by first | (exact (r_RB.2.2.2.1 ix.toNatClampNeg (by omega)).1) | (assumption; done) | (exact ow5.1) | (exact ow3.1) | (exfalso; omega; done) | (exfalso; contradiction; done)) (show qMS (m 94 58) (aSt aa (qNo (m 100) (m 113 ix.toNatClampNeg))) (qNo (m 100) (m 113 ix.toNatClampNeg)) from by first | (exact MS_st r_RB r_MG r_MK (r_RB.2.2.2.1 ix.toNatClampNeg (by omega)).1 (by omega)) | (exfalso; omega; done) | (exfalso; contradiction; done)) (fun m3 hV_m3 p0_m3 p1_m3 p2_m3 p3_m3 p4_m3 p5_m3 p6_m3 p7_m3 p8_m3 => zmv_n ?_)
                  have p0_m3 : zGW T (m3 94 55) (m3 109) := p0_m3
                  have p1_m3 : zGU T (m 94 46) (m3 99) := p1_m3
                  have p2_m3 : zOw (m3 99) (m 103) (m3 111) := p2_m3
                  have p3_m3 : zGG (m 94 58) (m3 94 56) (m 94 57) (m3 106) := p3_m3
                  have p4_m3 : qRB (m3 99) (m 100) (m 98) (m 101) (m 102) (m 103) (m 107) (m 108) (m3 109) (m3 111) (m3 112) (m3 113) (m3 114) (m3 94 55) (m 94 46) (m 94 11) (m 94 12) (m 94 62) (m 94 17) (m 94 9) (aRt (aSt aa (qNo (m 100) (m 113 ix.toNatClampNeg))) r1 (qNo (m 100) (m 113 ix.toNatClampNeg))) := p4_m3
                  have p5_m3 : qI (aRt (aSt aa (qNo (m 100) (m 113 ix.toNatClampNeg))) r1 (qNo (m 100) (m 113 ix.toNatClampNeg))) := p5_m3
                  have p6_m3 : qMG (m 94 58) (m3 106) (m3 115) (m 94 57) (m3 94 56) (m3 99) (m 100) (aRt (aSt aa (qNo (m 100) (m 113 ix.toNatClampNeg))) r1 (qNo (m 100) (m 113 ix.toNatClampNeg))) := p6_m3
                  have p7_m3 : (aRt (aSt aa (qNo (m 100) (m 113 ix.toNatClampNeg))) r1 (qNo (m 100) (m 113 ix.toNatClampNeg))) 87 8 = (m 94 58) := p7_m3
                  have p8_m3 : (m3 94 45).toInt = sm (zbU (m3 99)) (m 102) 3100 := p8_m3
                  have hg42 : (0 ≤ (m 113 ix.toNatClampNeg) ∧ (m 113 ix.toNatClampNeg).toNatClampNeg < 3100) := i_ix (by omega) (by omega)
                  refine ⟨hg42, ?_⟩
                  first | have f43 : 0 ≤ (m 100 (m 113 ix.toNatClampNeg).toNatClampNeg).toInt ∧ (m 100 (m 113 ix.toNatClampNeg).toNatClampNeg).toInt ≤ 100000 := ra_100 (m := m) hV (k := (m 113 ix.toNatClampNeg).toNatClampNeg) (i_ix (n := 3100) (by omega) (by omega)).2 | have b44 := i_bd (m 100 (m 113 ix.toNatClampNeg).toNatClampNeg)
                  exact K ((m 100 (m 113 ix.toNatClampNeg).toNatClampNeg)) _ (zF_zov (zF_u zF_rfl rfl) ws_238_252) hV_m3 r_W p0_m3 p1_m3 p2_m3 p3_m3 (show qRB (m3 99) (m 100) (m 98) (m 101) (m 102) (m 103) (m 107) (m 108) (m3 109) (m3 111) (m3 112) (m3 113) (m3 114) (m3 94 55) (m 94 46) (m 94 11) (m 94 12) (m 94 62) (m 94 17) (m 94 9) (ySg aa ix r1) from by first | (rw [Sg_y r_RB (by omega) (by omega) (by omega) (by omega) (by omega)]; exact p4_m3; done) | (exfalso; omega; done) | (exfalso; contradiction; done)) (show qI (ySg aa ix r1) from by first | (rw [Sg_y r_RB (by omega) (by omega) (by omega) (by omega) (by omega)]; exact p5_m3; done) | (exfalso; omega; done) | (exfalso; contradiction; done)) (show qMG (m 94 58) (m3 106) (m3 115) (m 94 57) (m3 94 56) (m3 99) (m 100) (ySg aa ix r1) from by first | (rw [Sg_y r_RB (by omega) (by omega) (by omega) (by omega) (by omega)]; exact p6_m3; done) | (exfalso; omega; done) | (exfalso; contradiction; done)) (show (ySg aa ix r1) 87 8 = (m 94 58) from by first | (rw [Sg_y r_RB (by omega) (by omega) (by omega) (by omega) (by omega)]; exact p7_m3; done) | (exfalso; omega; done) | (exfalso; contradiction; done)) p8_m3
                · skip
                  have g45 := i_nlt h39
                  have hg46 : (0 ≤ (m 113 ix.toNatClampNeg) ∧ (m 113 ix.toNatClampNeg).toNatClampNeg < 3100) := i_ix (by omega) (by omega)
                  refine ⟨hg46, ?_⟩
                  have b47 := i_bd (m 106 (m 113 ix.toNatClampNeg).toNatClampNeg)
                  refine zd (fun (h48 : (m 106 (m 113 ix.toNatClampNeg).toNatClampNeg) = (0 : Int32)) => ?_) (fun (h48 : ¬ (m 106 (m 113 ix.toNatClampNeg).toNatClampNeg) = (0 : Int32)) => ?_)
                  · skip
                    have g49 := i_eq h48
                    have hg50 : (0 ≤ (m 113 ix.toNatClampNeg) ∧ (m 113 ix.toNatClampNeg).toNatClampNeg < 3100) := i_ix (by omega) (by omega)
                    refine ⟨hg50, ?_⟩
                    have f51 : 0 ≤ (m 94 56).toInt ∧ (m 94 56).toInt ≤ 3100 := rs_94_56 (m := m) hV
                    try have gk := G1_room (r_GG (by omega)) (by assumption) (by omega)
                    have hg52 : (0 ≤ (m 94 56) ∧ (m 94 56).toNatClampNeg < 3100) := i_ix (by omega) (by omega)
                    refine ⟨hg52, ?_⟩
                    have hV53 : zV (ma_u m 94 0 (0 : Int32)) := uf_94_0 hV
                    have hV54 : zV (ma_u (ma_u m 94 0 (0 : Int32)) 106 (m 113 ix.toNatClampNeg).toNatClampNeg (1 : Int32)) := ua_106 hV53
                    have hV55 : zV (ma_u (ma_u (ma_u m 94 0 (0 : Int32)) 106 (m 113 ix.toNatClampNeg).toNatClampNeg (1 : Int32)) 115 (m 94 56).toNatClampNeg (m 113 ix.toNatClampNeg)) := ua_115 hV54 (by omega) (by omega)
                    first | have e57 : ((m 94 56) + (1 : Int32)).toInt = (m 94 56).toInt + (1) := i_addk rfl (by omega) (by omega) | have b58 := i_bd ((m 94 56) + (1 : Int32))
                    have hV56 : zV (ma_u (ma_u (ma_u (ma_u m 94 0 (0 : Int32)) 106 (m 113 ix.toNatClampNeg).toNatClampNeg (1 : Int32)) 115 (m 94 56).toNatClampNeg (m 113 ix.toNatClampNeg)) 94 56 ((m 94 56) + (1 : Int32))) := us_94_56 hV55 (by omega) (by omega)
                    refine sp_238r0 (aa := (aSt aa (qNo (m 100) (m 113 ix.toNatClampNeg)))) (r1) ((m 113 ix.toNatClampNeg)) hV56 (by omega) (by omega) (by omega) (by omega) (show (m 94 10).toInt = 0 ∧ (m 94 58).toInt = 0 from by omega) r_W r_GW r_GU r_OW (show zGG (m 94 58) ((m 94 56) + (1 : Int32)) (m 94 57) ((ma_u m 106 (m 113 ix.toNatClampNeg).toNatClampNeg (1 : Int32)) 106) from by first | (exact fun z => G1_push (r_GG z) (by assumption) (by omega) (by decide) (by assumption)) | (exact r_GG) | (exact fun z => absurd z (by decide)) | (exact fun z => absurd z (by omega)) | (exfalso; omega; done) | (exfalso; contradiction; done)) (show qRB (m 99) (m 100) (m 98) (m 101) (m 102) (m 103) (m 107) (m 108) (m 109) (m 111) (m 112) (m 113) (m 114) (m 94 55) (m 94 46) (m 94 11) (m 94 12) (m 94 62) (m 94 17) (m 94 9) (aSt aa (qNo (m 100) (m 113 ix.toNatClampNeg))) from by first | (exact RB_of r_RB St_of) | (exfalso; omega; done) | (exfalso; contradiction; done)) (show qI (aSt aa (qNo (m 100) (m 113 ix.toNatClampNeg))) from by first | (exact qI_of r_QI St_of) | (exfalso; omega; done) | (exfalso; contradiction; done)) (show qMG (m 94 58) ((ma_u m 106 (m 113 ix.toNatClampNeg).toNatClampNeg (1 : Int32)) 106) ((ma_u m 115 (m 94 56).toNatClampNeg (m 113 ix.toNatClampNeg)) 115) (m 94 57) ((m 94 56) + (1 : Int32)) (m 99) (m 100) (aSt aa (qNo (m 100) (m 113 ix.toNatClampNeg))) from by first | (exact fun z => St_push r_RB (r_MG z) (fun w => absurd (r_MK.symm.trans w) (i_nz2 (by omega))) (r_RB.2.2.2.1 ix.toNatClampNeg (by omega)).1 (by omega) (by assumption)) | (exfalso; omega; done) | (exfalso; contradiction; done)) (show (aSt aa (qNo (m 100) (m 113 ix.toNatClampNeg))) 87 8 = (m 94 58) from by first | (exact (St_of 87 8 (by decide) (by decide) (by decide)).symm.trans r_MK) | (exfalso; omega; done) | (exfalso; contradiction; done)) r_WTS (show qU (m 99) (m 113 ix.toNatClampNeg) from by first | (exact (r_RB.2.2.2.1 ix.toNatClampNeg (by omega)).1) | (assumption; done) | (exact ow5.1) | (exact ow3.1) | (exfalso; omega; done) | (exfalso; contradiction; done)) (show qMS (m 94 58) (aSt aa (qNo (m 100) (m 113 ix.toNatClampNeg))) (qNo (m 100) (m 113 ix.toNatClampNeg)) from by first | (exact MS_st r_RB r_MG r_MK (r_RB.2.2.2.1 ix.toNatClampNeg (by omega)).1 (by omega)) | (exfalso; omega; done) | (exfalso; contradiction; done)) (fun m5 hV_m5 p0_m5 p1_m5 p2_m5 p3_m5 p4_m5 p5_m5 p6_m5 p7_m5 p8_m5 => zmv_n ?_)
                    have p0_m5 : zGW T (m5 94 55) (m5 109) := p0_m5
                    have p1_m5 : zGU T (m 94 46) (m5 99) := p1_m5
                    have p2_m5 : zOw (m5 99) (m 103) (m5 111) := p2_m5
                    have p3_m5 : zGG (m 94 58) (m5 94 56) (m 94 57) (m5 106) := p3_m5
                    have p4_m5 : qRB (m5 99) (m 100) (m 98) (m 101) (m 102) (m 103) (m 107) (m 108) (m5 109) (m5 111) (m5 112) (m5 113) (m5 114) (m5 94 55) (m 94 46) (m 94 11) (m 94 12) (m 94 62) (m 94 17) (m 94 9) (aRt (aSt aa (qNo (m 100) (m 113 ix.toNatClampNeg))) r1 (qNo (m 100) (m 113 ix.toNatClampNeg))) := p4_m5
                    have p5_m5 : qI (aRt (aSt aa (qNo (m 100) (m 113 ix.toNatClampNeg))) r1 (qNo (m 100) (m 113 ix.toNatClampNeg))) := p5_m5
                    have p6_m5 : qMG (m 94 58) (m5 106) (m5 115) (m 94 57) (m5 94 56) (m5 99) (m 100) (aRt (aSt aa (qNo (m 100) (m 113 ix.toNatClampNeg))) r1 (qNo (m 100) (m 113 ix.toNatClampNeg))) := p6_m5
                    have p7_m5 : (aRt (aSt aa (qNo (m 100) (m 113 ix.toNatClampNeg))) r1 (qNo (m 100) (m 113 ix.toNatClampNeg))) 87 8 = (m 94 58) := p7_m5
                    have p8_m5 : (m5 94 45).toInt = sm (zbU (m5 99)) (m 102) 3100 := p8_m5
                    have hg59 : (0 ≤ (m 113 ix.toNatClampNeg) ∧ (m 113 ix.toNatClampNeg).toNatClampNeg < 3100) := i_ix (by omega) (by omega)
                    refine ⟨hg59, ?_⟩
                    first | have f60 : 0 ≤ (m 100 (m 113 ix.toNatClampNeg).toNatClampNeg).toInt ∧ (m 100 (m 113 ix.toNatClampNeg).toNatClampNeg).toInt ≤ 100000 := ra_100 (m := m) hV (k := (m 113 ix.toNatClampNeg).toNatClampNeg) (i_ix (n := 3100) (by omega) (by omega)).2 | have b61 := i_bd (m 100 (m 113 ix.toNatClampNeg).toNatClampNeg)
                    exact K ((m 100 (m 113 ix.toNatClampNeg).toNatClampNeg)) _ (zF_zov (zF_u (zF_u (zF_u (zF_u zF_rfl rfl) rfl) rfl) rfl) ws_238_252) hV_m5 r_W p0_m5 p1_m5 p2_m5 p3_m5 (show qRB (m5 99) (m 100) (m 98) (m 101) (m 102) (m 103) (m 107) (m 108) (m5 109) (m5 111) (m5 112) (m5 113) (m5 114) (m5 94 55) (m 94 46) (m 94 11) (m 94 12) (m 94 62) (m 94 17) (m 94 9) (ySg aa ix r1) from by first | (rw [Sg_y r_RB (by omega) (by omega) (by omega) (by omega) (by omega)]; exact p4_m5; done) | (exfalso; omega; done) | (exfalso; contradiction; done)) (show qI (ySg aa ix r1) from by first | (rw [Sg_y r_RB (by omega) (by omega) (by omega) (by omega) (by omega)]; exact p5_m5; done) | (exfalso; omega; done) | (exfalso; contradiction; done)) (show qMG (m 94 58) (m5 106) (m5 115) (m 94 57) (m5 94 56) (m5 99) (m 100) (ySg aa ix r1) from by first | (rw [Sg_y r_RB (by omega) (by omega) (by omega) (by omega) (by omega)]; exact p6_m5; done) | (exfalso; omega; done) | (exfalso; contradiction; done)) (show (ySg aa ix r1) 87 8 = (m 94 58) from by first | (rw [Sg_y r_RB (by omega) (by omega) (by omega) (by omega) (by omega)]; exact p7_m5; done) | (exfalso; omega; done) | (exfalso; contradiction; done)) p8_m5
                  · skip
                    have g62 := i_ne h48
                    have hV63 : zV (ma_u m 94 0 (0 : Int32)) := uf_94_0 hV
                    refine sp_238r0 (aa := (aSt aa (qNo (m 100) (m 113 ix.toNatClampNeg)))) (r1) ((m 113 ix.toNatClampNeg)) hV63 (by omega) (by omega) (by omega) (by omega) (show (m 94 10).toInt = 0 ∧ (m 94 58).toInt = 0 from by omega) r_W r_GW r_GU r_OW r_GG (show qRB (m 99) (m 100) (m 98) (m 101) (m 102) (m 103) (m 107) (m 108) (m 109) (m 111) (m 112) (m 113) (m 114) (m 94 55) (m 94 46) (m 94 11) (m 94 12) (m 94 62) (m 94 17) (m 94 9) (aSt aa (qNo (m 100) (m 113 ix.toNatClampNeg))) from by first | (exact RB_of r_RB St_of) | (exfalso; omega; done) | (exfalso; contradiction; done)) (show qI (aSt aa (qNo (m 100) (m 113 ix.toNatClampNeg))) from by first | (exact qI_of r_QI St_of) | (exfalso; omega; done) | (exfalso; contradiction; done)) (show qMG (m 94 58) (m 106) (m 115) (m 94 57) (m 94 56) (m 99) (m 100) (aSt aa (qNo (m 100) (m 113 ix.toNatClampNeg))) from by first | (exact fun z => absurd (by omega) z) | (exact fun z => St_skip (r_MG z) (fun w => absurd (r_MK.symm.trans w) (i_nz2 (by omega))) (r_RB.2.2.2.1 ix.toNatClampNeg (by omega)).1 (by assumption)) | (exfalso; omega; done) | (exfalso; contradiction; done)) (show (aSt aa (qNo (m 100) (m 113 ix.toNatClampNeg))) 87 8 = (m 94 58) from by first | (exact (St_of 87 8 (by decide) (by decide) (by decide)).symm.trans r_MK) | (exfalso; omega; done) | (exfalso; contradiction; done)) r_WTS (show qU (m 99) (m 113 ix.toNatClampNeg) from by first | (exact (r_RB.2.2.2.1 ix.toNatClampNeg (by omega)).1) | (assumption; done) | (exact ow5.1) | (exact ow3.1) | (exfalso; omega; done) | (exfalso; contradiction; done)) (show qMS (m 94 58) (aSt aa (qNo (m 100) (m 113 ix.toNatClampNeg))) (qNo (m 100) (m 113 ix.toNatClampNeg)) from by first | (exact MS_st r_RB r_MG r_MK (r_RB.2.2.2.1 ix.toNatClampNeg (by omega)).1 (by omega)) | (exfalso; omega; done) | (exfalso; contradiction; done)) (fun m7 hV_m7 p0_m7 p1_m7 p2_m7 p3_m7 p4_m7 p5_m7 p6_m7 p7_m7 p8_m7 => zmv_n ?_)
                    have p0_m7 : zGW T (m7 94 55) (m7 109) := p0_m7
                    have p1_m7 : zGU T (m 94 46) (m7 99) := p1_m7
                    have p2_m7 : zOw (m7 99) (m 103) (m7 111) := p2_m7
                    have p3_m7 : zGG (m 94 58) (m7 94 56) (m 94 57) (m7 106) := p3_m7
                    have p4_m7 : qRB (m7 99) (m 100) (m 98) (m 101) (m 102) (m 103) (m 107) (m 108) (m7 109) (m7 111) (m7 112) (m7 113) (m7 114) (m7 94 55) (m 94 46) (m 94 11) (m 94 12) (m 94 62) (m 94 17) (m 94 9) (aRt (aSt aa (qNo (m 100) (m 113 ix.toNatClampNeg))) r1 (qNo (m 100) (m 113 ix.toNatClampNeg))) := p4_m7
                    have p5_m7 : qI (aRt (aSt aa (qNo (m 100) (m 113 ix.toNatClampNeg))) r1 (qNo (m 100) (m 113 ix.toNatClampNeg))) := p5_m7
                    have p6_m7 : qMG (m 94 58) (m7 106) (m7 115) (m 94 57) (m7 94 56) (m7 99) (m 100) (aRt (aSt aa (qNo (m 100) (m 113 ix.toNatClampNeg))) r1 (qNo (m 100) (m 113 ix.toNatClampNeg))) := p6_m7
                    have p7_m7 : (aRt (aSt aa (qNo (m 100) (m 113 ix.toNatClampNeg))) r1 (qNo (m 100) (m 113 ix.toNatClampNeg))) 87 8 = (m 94 58) := p7_m7
                    have p8_m7 : (m7 94 45).toInt = sm (zbU (m7 99)) (m 102) 3100 := p8_m7
                    have hg64 : (0 ≤ (m 113 ix.toNatClampNeg) ∧ (m 113 ix.toNatClampNeg).toNatClampNeg < 3100) := i_ix (by omega) (by omega)
                    refine ⟨hg64, ?_⟩
                    first | have f65 : 0 ≤ (m 100 (m 113 ix.toNatClampNeg).toNatClampNeg).toInt ∧ (m 100 (m 113 ix.toNatClampNeg).toNatClampNeg).toInt ≤ 100000 := ra_100 (m := m) hV (k := (m 113 ix.toNatClampNeg).toNatClampNeg) (i_ix (n := 3100) (by omega) (by omega)).2 | have b66 := i_bd (m 100 (m 113 ix.toNatClampNeg).toNatClampNeg)
                    exact K ((m 100 (m 113 ix.toNatClampNeg).toNatClampNeg)) _ (zF_zov (zF_u zF_rfl rfl) ws_238_252) hV_m7 r_W p0_m7 p1_m7 p2_m7 p3_m7 (show qRB (m7 99) (m 100) (m 98) (m 101) (m 102) (m 103) (m 107) (m 108) (m7 109) (m7 111) (m7 112) (m7 113) (m7 114) (m7 94 55) (m 94 46) (m 94 11) (m 94 12) (m 94 62) (m 94 17) (m 94 9) (ySg aa ix r1) from by first | (rw [Sg_y r_RB (by omega) (by omega) (by omega) (by omega) (by omega)]; exact p4_m7; done) | (exfalso; omega; done) | (exfalso; contradiction; done)) (show qI (ySg aa ix r1) from by first | (rw [Sg_y r_RB (by omega) (by omega) (by omega) (by omega) (by omega)]; exact p5_m7; done) | (exfalso; omega; done) | (exfalso; contradiction; done)) (show qMG (m 94 58) (m7 106) (m7 115) (m 94 57) (m7 94 56) (m7 99) (m 100) (ySg aa ix r1) from by first | (rw [Sg_y r_RB (by omega) (by omega) (by omega) (by omega) (by omega)]; exact p6_m7; done) | (exfalso; omega; done) | (exfalso; contradiction; done)) (show (ySg aa ix r1) 87 8 = (m 94 58) from by first | (rw [Sg_y r_RB (by omega) (by omega) (by omega) (by omega) (by omega)]; exact p7_m7; done) | (exfalso; omega; done) | (exfalso; contradiction; done)) p8_m7
            · skip
              have g67 := i_nle h30
              have hV68 : zV (ma_u m 94 0 (0 : Int32)) := uf_94_0 hV
              have li69 : (-1 : Int32).toInt = -1 := rfl
              exact K ((-1 : Int32)) _ (zF_u zF_rfl rfl) hV68 r_W r_GW r_GU r_OW r_GG (show qRB (m 99) (m 100) (m 98) (m 101) (m 102) (m 103) (m 107) (m 108) (m 109) (m 111) (m 112) (m 113) (m 114) (m 94 55) (m 94 46) (m 94 11) (m 94 12) (m 94 62) (m 94 17) (m 94 9) (ySg aa ix r1) from by first | (rw [Sg_n r_RB (by omega) (by omega) (by omega)]; exact r_RB; done) | (rw [Sg_x (by omega)]; exact r_RB; done) | (exfalso; omega; done) | (exfalso; contradiction; done)) (show qI (ySg aa ix r1) from by first | (rw [Sg_n r_RB (by omega) (by omega) (by omega)]; exact r_QI; done) | (rw [Sg_x (by omega)]; exact r_QI; done) | (exfalso; omega; done) | (exfalso; contradiction; done)) (show qMG (m 94 58) (m 106) (m 115) (m 94 57) (m 94 56) (m 99) (m 100) (ySg aa ix r1) from by first | (rw [Sg_n r_RB (by omega) (by omega) (by omega)]; exact r_MG; done) | (rw [Sg_x (by omega)]; exact r_MG; done) | (exfalso; omega; done) | (exfalso; contradiction; done)) (show (ySg aa ix r1) 87 8 = (m 94 58) from by first | (rw [Sg_n r_RB (by omega) (by omega) (by omega)]; exact r_MK; done) | (rw [Sg_x (by omega)]; exact r_MK; done) | (exfalso; omega; done) | (exfalso; contradiction; done)) r_WTS

/-! from 95.l09 -/
/-! the reference where it sweeps (written by wip/tools/gen20r.py) -/
theorem lp_255r0_61 {X : Nat × (Nat → Int32)} {P : Option ma_V → (Nat → Nat → Int32) → Prop} {T : Nat} {aa : Nat→Nat→Int32} {r1 : Int32} {m0 : Nat → Nat → Int32} (h0 : zV m0) (K : ∀ v m₉, zF wr_255 m0 m₉ → zV m₉ → (zW (m₉ 94 7) (m₉ 98) (m₉ 101) (m₉ 102) (m₉ 108)) → (zGW T (m₉ 94 55) (m₉ 109)) → (zGU T (m₉ 94 46) (m₉ 99)) → (zOw (m₉ 99) (m₉ 103) (m₉ 111)) → (zGG (m₉ 94 58) (m₉ 94 56) (m₉ 94 57) (m₉ 106)) → (qRB (m₉ 99) (m₉ 100) (m₉ 98) (m₉ 101) (m₉ 102) (m₉ 103) (m₉ 107) (m₉ 108) (m₉ 109) (m₉ 111) (m₉ 112) (m₉ 113) (m₉ 114) (m₉ 94 55) (m₉ 94 46) (m₉ 94 11) (m₉ 94 12) (m₉ 94 62) (m₉ 94 17) (m₉ 94 9) (xGr aa r1)) → (qI (xGr aa r1)) → (qMG (m₉ 94 58) (m₉ 106) (m₉ 115) (m₉ 94 57) (m₉ 94 56) (m₉ 99) (m₉ 100) (xGr aa r1)) → ((xGr aa r1) 87 8 = (m₉ 94 58)) → ((m₉ 94 45).toInt = sm (zbU (m₉ 99)) (m₉ 102) 3100) → P (some (.inl v)) m₉) : ∀ (n : Nat) (m : Nat → Nat → Int32) (l1 : Int32) (l2 : Int32) (l3 : Int32), (3100 - l3.toInt).toNat = n → zF wr_255 m0 m → zV m → (0 ≤ l3.toInt) → (0 ≤ l1.toInt) → (l1.toInt ≤ 15) → (l1.toInt = r1.toInt) → (l1 = r1) → (0 ≤ l2.toInt) → (l2.toInt ≤ 3099) → (T ≤ 512) → (1 ≤ (m0 94 55).toInt) → ((m 94 55).toInt = (m0 94 55).toInt - 1) → (l3.toInt ≤ (m 94 55).toInt) → (zW (m 94 7) (m 98) (m 101) (m 102) (m 108)) → (zGW T (m 94 55) (m 109)) → (zGU T (m 94 46) (m 99)) → (zOw (m 99) (m 103) (m 111)) → (zGG (m 94 58) (m 94 56) (m 94 57) (m 106)) → ((m 94 10).toInt = 0 ∧ (m 94 58).toInt = 0) → ((m 94 8).toInt = 1) → (qRB (m 99) (m 100) (m 98) (m 101) (m 102) (m 103) (m 107) (m 108) (m 109) (m 111) (m 112) (m 113) (m0 114) (m0 94 55) (m 94 46) (m 94 11) (m 94 12) (m 94 62) (m 94 17) (m 94 9) aa) → (qI aa) → (qMG (m 94 58) (m 106) (m 115) (m 94 57) (m 94 56) (m 99) (m 100) aa) → (aa 87 8 = (m 94 58)) → ((m 94 45).toInt = sm (zbU (m 99)) (m 102) 3100) → (qSh (m0 114) (m 114) l3.toInt) → ((m 94 55) = (m0 94 55) - 1) → (l2 = (m0 114) 0) → zm X 5 111 255 61 [(0, .inr (.inr (some 94))), (1, .inl l1), (2, .inl l2), (3, .inl l3)] m P := by
  intro n
  induction n using Nat.strongRecOn with
  | _ n IH =>
    intro m l1 l2 l3 hmu hF hV hi0 hi1 hi2 hi3 r_R1e hi5 hi6 hi7 hi8 hi9 hi10 r_W r_GW r_GU r_OW r_GG hi16 hi17 r_RB0 r_QI r_MG r_MK r_WTS r_SHl r_WMe r_L2s
    refine g_255_61 l1 l2 l3 ?_
    have f1 : 0 ≤ (m0 94 55).toInt ∧ (m0 94 55).toInt ≤ 3100 := rs_94_55 (m := m0) h0
    have f2 : 0 ≤ (m 94 55).toInt ∧ (m 94 55).toInt ≤ 3100 := rs_94_55 (m := m) hV
    have f3 : 0 ≤ (m 94 10).toInt ∧ (m 94 10).toInt ≤ 6 := rs_94_10 (m := m) hV
    have f4 : 0 ≤ (m 94 58).toInt ∧ (m 94 58).toInt ≤ 1 := rs_94_58 (m := m) hV
    have f5 : 0 ≤ (m 94 8).toInt ∧ (m 94 8).toInt ≤ 1 := rs_94_8 (m := m) hV
    have b6 := i_bd l3
    refine zd (fun (h7 : (m 94 55) ≤ l3) => ?_) (fun (h7 : ¬ (m 94 55) ≤ l3) => ?_)
    · skip
      have g8 := i_le h7
      have b9 := i_bd l2
      have hg10 : (0 ≤ l2 ∧ l2.toNatClampNeg < 3100) := i_ix (by omega) (by omega)
      refine ⟨hg10, ?_⟩
      have b11 := i_bd l1
      refine sp_238r0 (aa := (aTw aa)) (l1) (l2) hV (by omega) (by omega) (by omega) (by omega) (show (m 94 10).toInt = 0 ∧ (m 94 58).toInt = 0 from by omega) r_W r_GW r_GU r_OW r_GG (show qRB (m 99) (m 100) (m 98) (m 101) (m 102) (m 103) (m 107) (m 108) (m 109) (m 111) (m 112) (m 113) (m 114) (m 94 55) (m 94 46) (m 94 11) (m 94 12) (m 94 62) (m 94 17) (m 94 9) (aTw aa) from by first | (exact RB_tw r_RB0 (by omega) r_SHl (by rw [congrArg Int32.toInt r_WMe] at *; omega) r_WMe) | (exact RB_tw r_RB0 (by omega) r_SHl (by omega) r_WMe) | (exfalso; omega; done) | (exfalso; contradiction; done)) (show qI (aTw aa) from by first | (exact I_tw r_QI (show 0 < (aa 69 5).toInt from by rw [r_RB0.2.2.2.2.1.1]; omega)) | (exfalso; omega; done) | (exfalso; contradiction; done)) (show qMG (m 94 58) (m 106) (m 115) (m 94 57) (m 94 56) (m 99) (m 100) (aTw aa) from by first | (exact MG_tw r_MG (show 0 < (aa 69 5).toInt from by rw [r_RB0.2.2.2.2.1.1]; omega)) | (exfalso; omega; done) | (exfalso; contradiction; done)) (show (aTw aa) 87 8 = (m 94 58) from by first | (rw [(Tw_r (show 0 < (aa 69 5).toInt from by rw [r_RB0.2.2.2.2.1.1]; omega)).2.2.1 87 (by decide) (by decide)]; exact r_MK; done) | (exfalso; omega; done) | (exfalso; contradiction; done)) r_WTS (show qU (m 99) l2 from by first | (rw [r_L2s]; exact Or.inr (r_RB0.2.2.2.2.1.2 0 (by omega)).1.2; done) | (assumption; done) | (exact ow5.1) | (exact ow3.1) | (exfalso; omega; done) | (exfalso; contradiction; done)) (show qMS (m 94 58) (aTw aa) (qNo (m 100) l2) from by first | (rw [r_L2s]; exact MS_tw r_RB0 r_MG (by omega) rfl; done) | (exfalso; omega; done) | (exfalso; contradiction; done)) (fun m1 hV_m1 p0_m1 p1_m1 p2_m1 p3_m1 p4_m1 p5_m1 p6_m1 p7_m1 p8_m1 => zmv_n ?_)
      have p0_m1 : zGW T (m1 94 55) (m1 109) := p0_m1
      have p1_m1 : zGU T (m 94 46) (m1 99) := p1_m1
      have p2_m1 : zOw (m1 99) (m 103) (m1 111) := p2_m1
      have p3_m1 : zGG (m 94 58) (m1 94 56) (m 94 57) (m1 106) := p3_m1
      have p4_m1 : qRB (m1 99) (m 100) (m 98) (m 101) (m 102) (m 103) (m 107) (m 108) (m1 109) (m1 111) (m1 112) (m1 113) (m1 114) (m1 94 55) (m 94 46) (m 94 11) (m 94 12) (m 94 62) (m 94 17) (m 94 9) (aRt (aTw aa) l1 (qNo (m 100) l2)) := p4_m1
      have p5_m1 : qI (aRt (aTw aa) l1 (qNo (m 100) l2)) := p5_m1
      have p6_m1 : qMG (m 94 58) (m1 106) (m1 115) (m 94 57) (m1 94 56) (m1 99) (m 100) (aRt (aTw aa) l1 (qNo (m 100) l2)) := p6_m1
      have p7_m1 : (aRt (aTw aa) l1 (qNo (m 100) l2)) 87 8 = (m 94 58) := p7_m1
      have p8_m1 : (m1 94 45).toInt = sm (zbU (m1 99)) (m 102) 3100 := p8_m1
      refine sp_241r0 (l2) hV_m1 (show (m 94 10).toInt = 0 ∧ (m 94 58).toInt = 0 from by omega) (fun m3 hV_m3 p0_m3 => zmv_n ?_)
      have p0_m3 : (m3 99) = (m1 99) ∧ (m3 105) = (m1 105) ∧ (m3 109) = (m1 109) ∧ (m3 111) = (m1 111) ∧ (m3 113) = (m1 113) ∧ (m3 114) = (m1 114) ∧ (m3 94 55) = (m1 94 55) ∧ (m3 94 45) = (m1 94 45) := p0_m3
      try have rgb := rs_94_64 hV
      try have lel := LE_lo p0_m3
      try have lex3 := LE_ex p0_m3 (lexi (by omega))
      try have lexi := LE_some p0_m3
      first | have f12 : 0 ≤ (m 100 l2.toNatClampNeg).toInt ∧ (m 100 l2.toNatClampNeg).toInt ≤ 100000 := ra_100 (m := m) hV (k := l2.toNatClampNeg) (i_ix (n := 3100) (by omega) (by omega)).2 | have b13 := i_bd (m 100 l2.toNatClampNeg)
      exact K ((m 100 l2.toNatClampNeg)) _ (zF_zov (zF_zov hF ws_238_255) ws_241_255) hV_m3 r_W (show zGW T (m3 94 55) (m3 109) from by first | (rw [p0_m3.2.2.1, p0_m3.2.2.2.2.2.2.1]; exact p0_m1; done) | (exfalso; omega; done) | (exfalso; contradiction; done)) (show zGU T (m 94 46) (m3 99) from by first | (rw [p0_m3.1]; exact p1_m1; done) | (exact GU_0 p1_m1) | (exfalso; omega; done) | (exfalso; contradiction; done)) (show zOw (m3 99) (m 103) (m3 111) from by first | (rw [p0_m3.1, p0_m3.2.2.2.1]; exact p2_m1; done) | (exact Ow_rm p2_m1 (by decide) (tn_cast (by omega)).symm) | (exfalso; omega; done) | (exfalso; contradiction; done)) p3_m1 (show qRB (m3 99) (m 100) (m 98) (m 101) (m 102) (m 103) (m 107) (m 108) (m3 109) (m3 111) (m1 112) (m3 113) (m3 114) (m3 94 55) (m 94 46) (m 94 11) (m 94 12) (m 94 62) (m 94 17) (m 94 9) (xGr aa r1) from by first | (rw [Gr_y r_RB0 (by omega) (by omega) (by omega), ← r_L2s, ← r_R1e]; rw [p0_m3.1, p0_m3.2.2.1, p0_m3.2.2.2.1, p0_m3.2.2.2.2.1, p0_m3.2.2.2.2.2.1, p0_m3.2.2.2.2.2.2.1]; exact p4_m1; done) | (exfalso; omega; done) | (exfalso; contradiction; done)) (show qI (xGr aa r1) from by first | (rw [Gr_y r_RB0 (by omega) (by omega) (by omega), ← r_L2s, ← r_R1e]; exact p5_m1; done) | (exfalso; omega; done) | (exfalso; contradiction; done)) (show qMG (m 94 58) (m1 106) (m1 115) (m 94 57) (m1 94 56) (m3 99) (m 100) (xGr aa r1) from by first | (rw [Gr_y r_RB0 (by omega) (by omega) (by omega), ← r_L2s, ← r_R1e]; rw [p0_m3.1]; exact p6_m1; done) | (exfalso; omega; done) | (exfalso; contradiction; done)) (show (xGr aa r1) 87 8 = (m 94 58) from by first | (rw [Gr_y r_RB0 (by omega) (by omega) (by omega), ← r_L2s, ← r_R1e]; exact p7_m1; done) | (exfalso; omega; done) | (exfalso; contradiction; done)) (show (m3 94 45).toInt = sm (zbU (m3 99)) (m 102) 3100 from by first | (rw [p0_m3.1, p0_m3.2.2.2.2.2.2.2]; exact p8_m1; done) | (exfalso; omega; done) | (exfalso; contradiction; done))
    · skip
      have g14 := i_nle h7
      first | have e15 : (l3 + (1 : Int32)).toInt = l3.toInt + (1) := i_addk rfl (by omega) (by omega) | have b16 := i_bd (l3 + (1 : Int32))
      have hg17 : (0 ≤ (l3 + (1 : Int32)) ∧ (l3 + (1 : Int32)).toNatClampNeg < 3100) := i_ix (by omega) (by omega)
      refine ⟨hg17, ?_⟩
      have hg18 : (0 ≤ l3 ∧ l3.toNatClampNeg < 3100) := i_ix (by omega) (by omega)
      refine ⟨hg18, ?_⟩
      first | have f20 : 0 ≤ (m 114 (l3 + (1 : Int32)).toNatClampNeg).toInt ∧ (m 114 (l3 + (1 : Int32)).toNatClampNeg).toInt ≤ 3099 := ra_114 (m := m) hV (k := (l3 + (1 : Int32)).toNatClampNeg) (i_ix (n := 3100) (by omega) (by omega)).2 | have b21 := i_bd (m 114 (l3 + (1 : Int32)).toNatClampNeg)
      have hV19 : zV (ma_u m 114 l3.toNatClampNeg (m 114 (l3 + (1 : Int32)).toNatClampNeg)) := ua_114 hV (by omega) (by omega)
      have b22 := i_bd l1
      have b23 := i_bd l2
      exact IH (3100 - (l3 + (1 : Int32)).toInt).toNat (by omega) _ (l1) (l2) ((l3 + (1 : Int32))) rfl (zF_u hF rfl) hV19 (by omega) (by omega) (by omega) (by omega) r_R1e (by omega) (by omega) (by omega) (show 1 ≤ (m0 94 55).toInt from by omega) (show (m 94 55).toInt = (m0 94 55).toInt - 1 from by omega) (show (l3 + (1 : Int32)).toInt ≤ (m 94 55).toInt from by omega) r_W r_GW r_GU r_OW r_GG (show (m 94 10).toInt = 0 ∧ (m 94 58).toInt = 0 from by omega) (show (m 94 8).toInt = 1 from by omega) r_RB0 r_QI r_MG r_MK r_WTS (show qSh (m0 114) ((ma_u m 114 l3.toNatClampNeg (m 114 (l3 + (1 : Int32)).toNatClampNeg)) 114) (l3 + (1 : Int32)).toInt from by first | (exact Sh_s r_SHl (by omega) (by omega) (by omega)) | (exfalso; omega; done) | (exfalso; contradiction; done)) r_WMe r_L2s
theorem sp_255r0 {X : Nat × (Nat → Int32)} {P : Option ma_V → (Nat → Nat → Int32) → Prop} {T : Nat} {aa : Nat→Nat→Int32} {m : Nat → Nat → Int32} (r1 : Int32) (hV : zV m) (hpre0 : T ≤ 512) (r_W : zW (m 94 7) (m 98) (m 101) (m 102) (m 108)) (r_GW : zGW T (m 94 55) (m 109)) (r_GU : zGU T (m 94 46) (m 99)) (r_OW : zOw (m 99) (m 103) (m 111)) (r_GG : zGG (m 94 58) (m 94 56) (m 94 57) (m 106)) (hpre6 : (m 94 10).toInt = 0 ∧ (m 94 58).toInt = 0) (hpre7 : (m 94 8).toInt = 1) (r_RB : qRB (m 99) (m 100) (m 98) (m 101) (m 102) (m 103) (m 107) (m 108) (m 109) (m 111) (m 112) (m 113) (m 114) (m 94 55) (m 94 46) (m 94 11) (m 94 12) (m 94 62) (m 94 17) (m 94 9) aa) (r_QI : qI aa) (r_MG : qMG (m 94 58) (m 106) (m 115) (m 94 57) (m 94 56) (m 99) (m 100) aa) (r_MK : aa 87 8 = (m 94 58)) (r_WTS : (m 94 45).toInt = sm (zbU (m 99)) (m 102) 3100) (KZ : ∀ v m₉, zV (zov wr_255 m m₉) → (zW (m 94 7) (m 98) (m 101) (m 102) (m 108)) → (zGW T (m₉ 94 55) (m₉ 109)) → (zGU T (m 94 46) (m₉ 99)) → (zOw (m₉ 99) (m 103) (m₉ 111)) → (zGG (m 94 58) (m₉ 94 56) (m 94 57) (m₉ 106)) → (qRB (m₉ 99) (m 100) (m 98) (m 101) (m 102) (m 103) (m 107) (m 108) (m₉ 109) (m₉ 111) (m₉ 112) (m₉ 113) (m₉ 114) (m₉ 94 55) (m 94 46) (m 94 11) (m 94 12) (m 94 62) (m 94 17) (m 94 9) (xGr aa r1)) → (qI (xGr aa r1)) → (qMG (m 94 58) (m₉ 106) (m₉ 115) (m 94 57) (m₉ 94 56) (m₉ 99) (m 100) (xGr aa r1)) → ((xGr aa r1) 87 8 = (m 94 58)) → ((m₉ 94 45).toInt = sm (zbU (m₉ 99)) (m 102) 3100) → P (some (.inl v)) (zov wr_255 m m₉)) : zm X 5 111 255 0 [(0, .inr (.inr (some 94))), (1, .inl r1)] m P := by
  have K : ∀ v m₉, zF wr_255 m m₉ → zV m₉ → (zW (m₉ 94 7) (m₉ 98) (m₉ 101) (m₉ 102) (m₉ 108)) → (zGW T (m₉ 94 55) (m₉ 109)) → (zGU T (m₉ 94 46) (m₉ 99)) → (zOw (m₉ 99) (m₉ 103) (m₉ 111)) → (zGG (m₉ 94 58) (m₉ 94 56) (m₉ 94 57) (m₉ 106)) → (qRB (m₉ 99) (m₉ 100) (m₉ 98) (m₉ 101) (m₉ 102) (m₉ 103) (m₉ 107) (m₉ 108) (m₉ 109) (m₉ 111) (m₉ 112) (m₉ 113) (m₉ 114) (m₉ 94 55) (m₉ 94 46) (m₉ 94 11) (m₉ 94 12) (m₉ 94 62) (m₉ 94 17) (m₉ 94 9) (xGr aa r1)) → (qI (xGr aa r1)) → (qMG (m₉ 94 58) (m₉ 106) (m₉ 115) (m₉ 94 57) (m₉ 94 56) (m₉ 99) (m₉ 100) (xGr aa r1)) → ((xGr aa r1) 87 8 = (m₉ 94 58)) → ((m₉ 94 45).toInt = sm (zbU (m₉ 99)) (m₉ 102) 3100) → P (some (.inl v)) m₉ := by
    intro v m₉ hf z q0 q1 q2 q3 q4 q5 q6 q7 q8 q9
    have e := zov_eq hf
    rw [e] at z ⊢
    try rw [e] at q0
    try rw [e] at q1
    try rw [e] at q2
    try rw [e] at q3
    try rw [e] at q4
    try rw [e] at q5
    try rw [e] at q6
    try rw [e] at q7
    try rw [e] at q8
    try rw [e] at q9
    exact KZ v m₉ z q0 q1 q2 q3 q4 q5 q6 q7 q8 q9
  refine g_255_0 r1 ?_
  have f1 : 0 ≤ (m 94 10).toInt ∧ (m 94 10).toInt ≤ 6 := rs_94_10 (m := m) hV
  have f2 : 0 ≤ (m 94 58).toInt ∧ (m 94 58).toInt ≤ 1 := rs_94_58 (m := m) hV
  have f3 : 0 ≤ (m 94 8).toInt ∧ (m 94 8).toInt ≤ 1 := rs_94_8 (m := m) hV
  have b4 := i_bd r1
  have li5 : (0 : Int32).toInt = 0 := rfl
  refine zd (fun (h6 : r1 < (0 : Int32)) => ?_) (fun (h6 : ¬ r1 < (0 : Int32)) => ?_)
  · skip
    have g7 := i_lt h6
    have hV8 : zV (ma_u m 94 0 (1 : Int32)) := uf_94_0 hV
    exact K ((0 : Int32)) _ (zF_u zF_rfl rfl) hV8 r_W r_GW r_GU r_OW r_GG (show qRB (m 99) (m 100) (m 98) (m 101) (m 102) (m 103) (m 107) (m 108) (m 109) (m 111) (m 112) (m 113) (m 114) (m 94 55) (m 94 46) (m 94 11) (m 94 12) (m 94 62) (m 94 17) (m 94 9) (xGr aa r1) from by first | (unfold xGr; rw [qIf_n (fun w => by have w1 := w.1; have w2 := w.2; omega)]; exact r_RB; done) | (rw [Gr_0 r_RB (i_zer (by omega))]; exact r_RB; done) | (exfalso; omega; done) | (exfalso; contradiction; done)) (show qI (xGr aa r1) from by first | (unfold xGr; rw [qIf_n (fun w => by have w1 := w.1; have w2 := w.2; omega)]; exact r_QI; done) | (rw [Gr_0 r_RB (i_zer (by omega))]; exact r_QI; done) | (exfalso; omega; done) | (exfalso; contradiction; done)) (show qMG (m 94 58) (m 106) (m 115) (m 94 57) (m 94 56) (m 99) (m 100) (xGr aa r1) from by first | (unfold xGr; rw [qIf_n (fun w => by have w1 := w.1; have w2 := w.2; omega)]; exact r_MG; done) | (rw [Gr_0 r_RB (i_zer (by omega))]; exact r_MG; done) | (exfalso; omega; done) | (exfalso; contradiction; done)) (show (xGr aa r1) 87 8 = (m 94 58) from by first | (unfold xGr; rw [qIf_n (fun w => by have w1 := w.1; have w2 := w.2; omega)]; exact r_MK; done) | (rw [Gr_0 r_RB (i_zer (by omega))]; exact r_MK; done) | (exfalso; omega; done) | (exfalso; contradiction; done)) r_WTS
  · skip
    have g9 := i_nlt h6
    have li10 : (16 : Int32).toInt = 16 := rfl
    refine zd (fun (h11 : (16 : Int32) ≤ r1) => ?_) (fun (h11 : ¬ (16 : Int32) ≤ r1) => ?_)
    · skip
      have g12 := i_le h11
      have hV13 : zV (ma_u m 94 0 (1 : Int32)) := uf_94_0 hV
      exact K ((0 : Int32)) _ (zF_u zF_rfl rfl) hV13 r_W r_GW r_GU r_OW r_GG (show qRB (m 99) (m 100) (m 98) (m 101) (m 102) (m 103) (m 107) (m 108) (m 109) (m 111) (m 112) (m 113) (m 114) (m 94 55) (m 94 46) (m 94 11) (m 94 12) (m 94 62) (m 94 17) (m 94 9) (xGr aa r1) from by first | (unfold xGr; rw [qIf_n (fun w => by have w1 := w.1; have w2 := w.2; omega)]; exact r_RB; done) | (rw [Gr_0 r_RB (i_zer (by omega))]; exact r_RB; done) | (exfalso; omega; done) | (exfalso; contradiction; done)) (show qI (xGr aa r1) from by first | (unfold xGr; rw [qIf_n (fun w => by have w1 := w.1; have w2 := w.2; omega)]; exact r_QI; done) | (rw [Gr_0 r_RB (i_zer (by omega))]; exact r_QI; done) | (exfalso; omega; done) | (exfalso; contradiction; done)) (show qMG (m 94 58) (m 106) (m 115) (m 94 57) (m 94 56) (m 99) (m 100) (xGr aa r1) from by first | (unfold xGr; rw [qIf_n (fun w => by have w1 := w.1; have w2 := w.2; omega)]; exact r_MG; done) | (rw [Gr_0 r_RB (i_zer (by omega))]; exact r_MG; done) | (exfalso; omega; done) | (exfalso; contradiction; done)) (show (xGr aa r1) 87 8 = (m 94 58) from by first | (unfold xGr; rw [qIf_n (fun w => by have w1 := w.1; have w2 := w.2; omega)]; exact r_MK; done) | (rw [Gr_0 r_RB (i_zer (by omega))]; exact r_MK; done) | (exfalso; omega; done) | (exfalso; contradiction; done)) r_WTS
    · skip
      have g14 := i_nle h11
      refine zd (fun (h15 : (m 94 8) = (0 : Int32)) => ?_) (fun (h15 : ¬ (m 94 8) = (0 : Int32)) => ?_)
      · skip
        have g16 := i_eq h15
        exfalso; omega
      · skip
        have g17 := i_ne h15
        have f18 : 0 ≤ (m 94 55).toInt ∧ (m 94 55).toInt ≤ 3100 := rs_94_55 (m := m) hV
        refine zd (fun (h19 : (m 94 55) = (0 : Int32)) => ?_) (fun (h19 : ¬ (m 94 55) = (0 : Int32)) => ?_)
        · skip
          have g20 := i_eq h19
          have hV21 : zV (ma_u m 94 0 (0 : Int32)) := uf_94_0 hV
          have li22 : (-1 : Int32).toInt = -1 := rfl
          exact K ((-1 : Int32)) _ (zF_u zF_rfl rfl) hV21 r_W r_GW r_GU r_OW r_GG (show qRB (m 99) (m 100) (m 98) (m 101) (m 102) (m 103) (m 107) (m 108) (m 109) (m 111) (m 112) (m 113) (m 114) (m 94 55) (m 94 46) (m 94 11) (m 94 12) (m 94 62) (m 94 17) (m 94 9) (xGr aa r1) from by first | (unfold xGr; rw [qIf_n (fun w => by have w1 := w.1; have w2 := w.2; omega)]; exact r_RB; done) | (rw [Gr_0 r_RB (i_zer (by omega))]; exact r_RB; done) | (exfalso; omega; done) | (exfalso; contradiction; done)) (show qI (xGr aa r1) from by first | (unfold xGr; rw [qIf_n (fun w => by have w1 := w.1; have w2 := w.2; omega)]; exact r_QI; done) | (rw [Gr_0 r_RB (i_zer (by omega))]; exact r_QI; done) | (exfalso; omega; done) | (exfalso; contradiction; done)) (show qMG (m 94 58) (m 106) (m 115) (m 94 57) (m 94 56) (m 99) (m 100) (xGr aa r1) from by first | (unfold xGr; rw [qIf_n (fun w => by have w1 := w.1; have w2 := w.2; omega)]; exact r_MG; done) | (rw [Gr_0 r_RB (i_zer (by omega))]; exact r_MG; done) | (exfalso; omega; done) | (exfalso; contradiction; done)) (show (xGr aa r1) 87 8 = (m 94 58) from by first | (unfold xGr; rw [qIf_n (fun w => by have w1 := w.1; have w2 := w.2; omega)]; exact r_MK; done) | (rw [Gr_0 r_RB (i_zer (by omega))]; exact r_MK; done) | (exfalso; omega; done) | (exfalso; contradiction; done)) r_WTS
        · skip
          have g23 := i_ne h19
          have hV24 : zV (ma_u m 94 0 (0 : Int32)) := uf_94_0 hV
          first | have e26 : ((m 94 55) - (1 : Int32)).toInt = (m 94 55).toInt - (1) := i_subk rfl (by omega) (by omega) | have b27 := i_bd ((m 94 55) - (1 : Int32))
          have hV25 : zV (ma_u (ma_u m 94 0 (0 : Int32)) 94 55 ((m 94 55) - (1 : Int32))) := us_94_55 hV24 (by omega) (by omega)
          have f28 : 0 ≤ (m 114 0).toInt ∧ (m 114 0).toInt ≤ 3099 := ra_114 (m := m) hV (k := 0) (by decide)
          exact lp_255r0_61 (r1 := r1) hV K _ _ (r1) ((m 114 0)) ((0 : Int32)) rfl (zF_u (zF_u zF_rfl rfl) rfl) hV25 (by omega) (by omega) (by omega) (by omega) (show r1 = r1 from by first | (exact rfl) | (exfalso; omega; done) | (exfalso; contradiction; done)) (by omega) (by omega) (by omega) (show 1 ≤ (m 94 55).toInt from by omega) (show ((m 94 55) - (1 : Int32)).toInt = (m 94 55).toInt - 1 from by omega) (show (0 : Int32).toInt ≤ ((m 94 55) - (1 : Int32)).toInt from by omega) r_W (show zGW T ((m 94 55) - (1 : Int32)) (m 109) from by first | (exact GW_le r_GW (by omega)) | (exfalso; omega; done) | (exfalso; contradiction; done)) r_GU r_OW r_GG (show (m 94 10).toInt = 0 ∧ (m 94 58).toInt = 0 from by omega) (show (m 94 8).toInt = 1 from by omega) (show qRB (m 99) (m 100) (m 98) (m 101) (m 102) (m 103) (m 107) (m 108) (m 109) (m 111) (m 112) (m 113) (m 114) (m 94 55) (m 94 46) (m 94 11) (m 94 12) (m 94 62) (m 94 17) (m 94 9) aa from by first | (exact r_RB) | (exfalso; omega; done) | (exfalso; contradiction; done)) r_QI r_MG r_MK r_WTS (show qSh (m 114) (m 114) (0 : Int32).toInt from by first | (exact Sh_0 (by decide)) | (exfalso; omega; done) | (exfalso; contradiction; done)) (show ((m 94 55) - (1 : Int32)) = (m 94 55) - 1 from by first | (exact rfl) | (exfalso; omega; done) | (exfalso; contradiction; done)) (show (m 114 0) = (m 114) 0 from by first | (exact rfl) | (exfalso; omega; done) | (exfalso; contradiction; done))

/-! from 95.l10 -/
/-! the reference where it sweeps (written by wip/tools/gen20r.py) -/
set_option maxHeartbeats 8000000 in
theorem lp_247r0_207 {X : Nat × (Nat → Int32)} {P : Option ma_V → (Nat → Nat → Int32) → Prop} {T : Nat} {aa : Nat→Nat→Int32} {ob : Int32} {ix : Int32} {oo : Int32} {m0 : Nat → Nat → Int32} (h0 : zV m0) (K : ∀ v m₉, zF wr_247 m0 m₉ → zV m₉ → (zW (m₉ 94 7) (m₉ 98) (m₉ 101) (m₉ 102) (m₉ 108)) → (zGW T (m₉ 94 55) (m₉ 109)) → (zGU T (m₉ 94 46) (m₉ 99)) → (zOw (m₉ 99) (m₉ 103) (m₉ 111)) → (zGG (m₉ 94 58) (m₉ 94 56) (m₉ 94 57) (m₉ 106)) → (qRB (m₉ 99) (m₉ 100) (m₉ 98) (m₉ 101) (m₉ 102) (m₉ 103) (m₉ 107) (m₉ 108) (m₉ 109) (m₉ 111) (m₉ 112) (m₉ 113) (m₉ 114) (m₉ 94 55) (m₉ 94 46) (m₉ 94 11) (m₉ 94 12) (m₉ 94 62) (m₉ 94 17) (m₉ 94 9) (xLi aa ob ix oo)) → (qI (xLi aa ob ix oo)) → (qMG (m₉ 94 58) (m₉ 106) (m₉ 115) (m₉ 94 57) (m₉ 94 56) (m₉ 99) (m₉ 100) (xLi aa ob ix oo)) → ((xLi aa ob ix oo) 87 8 = (m₉ 94 58)) → ((m₉ 94 45).toInt = sm (zbU (m₉ 99)) (m₉ 102) 3100) → P (some (.inl v)) m₉) : ∀ (n : Nat) (m : Nat → Nat → Int32) (l6 : Int32) (l7 : Int32) (l8 : Int32), ((0 : Int)).toNat = n → zF wr_247 m0 m → zV m → (-1 ≤ l6.toInt) → (l6.toInt ≤ 3099) → (-1 ≤ l7.toInt) → (l7.toInt ≤ 3099) → (T ≤ 512) → (zW (m 94 7) (m 98) (m 101) (m 102) (m 108)) → (zGW T (m 94 55) (m 109)) → (zGU T (m 94 46) (m 99)) → (zOw (m 99) (m 103) (m 111)) → (zGG (m 94 58) (m 94 56) (m 94 57) (m 106)) → ((m 94 10).toInt = 0 ∧ (m 94 58).toInt = 0) → ((m 94 8).toInt = 1) → (qRB (m 99) (m 100) (m 98) (m 101) (m 102) (m 103) (m 107) (m 108) (m 109) (m 111) (m 112) (m 113) (m 114) (m 94 55) (m 94 46) (m 94 11) (m 94 12) (m 94 62) (m 94 17) (m 94 9) (aCi aa ob.toNatClampNeg ix (qNo (m 100) l6))) → (qI (aCi aa ob.toNatClampNeg ix (qNo (m 100) l6))) → ((aCi aa ob.toNatClampNeg ix (qNo (m 100) l6)) 87 8 = (m 94 58)) → (qGQ (m 94 58) (m 106) (m 115) (m 94 57) (m 94 56) (m 99) (m 100) (aCi aa ob.toNatClampNeg ix (qNo (m 100) l6))) → ((m 94 45).toInt = sm (zbU (m 99)) (m 102) 3100) → (xLi aa ob ix oo = (aNc (aCi aa ob.toNatClampNeg ix (qNo (m 100) l6)) (qNo (m 100) l7) (qNo (m 100) l6))) → (qMF (m 94 58) (aNc (aCi aa ob.toNatClampNeg ix (qNo (m 100) l6)) (qNo (m 100) l7) (qNo (m 100) l6))) → (qU (m 99) l7) → (qU (m 99) l6) → zm X 5 109 247 207 [(0, .inr (.inr (some 94))), (6, .inl l6), (7, .inl l7), (8, .inl l8)] m P := by
  intro n
  induction n using Nat.strongRecOn with
  | _ n IH =>
    intro m l6 l7 l8 hmu hF hV hi0 hi1 hi2 hi3 hi4 r_W r_GW r_GU r_OW r_GG hi10 hi11 r_RB r_QI r_MK r_MQG r_WTS r_LIq r_MF r_UVl r_UTl
    refine g_247_207 l6 l7 l8 ?_
    have f1 : 0 ≤ (m 94 10).toInt ∧ (m 94 10).toInt ≤ 6 := rs_94_10 (m := m) hV
    have f2 : 0 ≤ (m 94 58).toInt ∧ (m 94 58).toInt ≤ 1 := rs_94_58 (m := m) hV
    have f3 : 0 ≤ (m 94 8).toInt ∧ (m 94 8).toInt ≤ 1 := rs_94_8 (m := m) hV
    have b4 := i_bd l7
    have b5 := i_bd l6
    refine sp_240r0 (aa := (aCi aa ob.toNatClampNeg ix (qNo (m 100) l6))) (l7) (l6) hV (show (m 94 10).toInt = 0 ∧ (m 94 58).toInt = 0 from by omega) (by omega) (by omega) (by omega) (by omega) r_GG r_RB r_QI r_MK (show qU (m 99) l7 from by first | (exact r_UVl) | (exfalso; omega; done) | (exfalso; contradiction; done)) (show qU (m 99) l6 from by first | (exact r_UTl) | (exfalso; omega; done) | (exfalso; contradiction; done)) r_MQG (fun m1 hV_m1 p0_m1 p1_m1 p2_m1 p3_m1 p4_m1 => zmv_n ?_)
    have p0_m1 : zGG (m 94 58) (m1 94 56) (m 94 57) (m1 106) := p0_m1
    have p1_m1 : qRB (m 99) (m 100) (m 98) (m 101) (m 102) (m 103) (m 107) (m 108) (m 109) (m 111) (m 112) (m 113) (m 114) (m 94 55) (m 94 46) (m 94 11) (m 94 12) (m 94 62) (m 94 17) (m 94 9) (aNc (aCi aa ob.toNatClampNeg ix (qNo (m 100) l6)) (qNo (m 100) l7) (qNo (m 100) l6)) := p1_m1
    have p2_m1 : qI (aNc (aCi aa ob.toNatClampNeg ix (qNo (m 100) l6)) (qNo (m 100) l7) (qNo (m 100) l6)) := p2_m1
    have p3_m1 : (aNc (aCi aa ob.toNatClampNeg ix (qNo (m 100) l6)) (qNo (m 100) l7) (qNo (m 100) l6)) 87 8 = (m 94 58) := p3_m1
    have p4_m1 : qGQ (m 94 58) (m1 106) (m1 115) (m 94 57) (m1 94 56) (m 99) (m 100) (aNc (aCi aa ob.toNatClampNeg ix (qNo (m 100) l6)) (qNo (m 100) l7) (qNo (m 100) l6)) := p4_m1
    refine sp_241r0 (l7) hV_m1 (show (m 94 10).toInt = 0 ∧ (m 94 58).toInt = 0 from by omega) (fun m3 hV_m3 p0_m3 => zmv_n ?_)
    have p0_m3 : (m3 99) = (m 99) ∧ (m3 105) = (m 105) ∧ (m3 109) = (m 109) ∧ (m3 111) = (m 111) ∧ (m3 113) = (m 113) ∧ (m3 114) = (m 114) ∧ (m3 94 55) = (m 94 55) ∧ (m3 94 45) = (m 94 45) := p0_m3
    try have rgb := rs_94_64 hV
    try have lel := LE_lo p0_m3
    try have lex3 := LE_ex p0_m3 (lexi (by omega))
    try have lexi := LE_some p0_m3
    try have w60 := (ra_102 hV (k := l4.toNatClampNeg) (by omega)).2
    have b6 := i_bd l8
    exact K (l8) _ (zF_zov (zF_zov hF ws_240_247) ws_241_247) hV_m3 r_W (show zGW T (m3 94 55) (m3 109) from by first | (rw [p0_m3.2.2.1, p0_m3.2.2.2.2.2.2.1]; exact r_GW; done) | (exfalso; omega; done) | (exfalso; contradiction; done)) (show zGU T (m 94 46) (m3 99) from by first | (rw [p0_m3.1]; exact r_GU; done) | (exact GU_0 r_GU) | (exfalso; omega; done) | (exfalso; contradiction; done)) (show zOw (m3 99) (m 103) (m3 111) from by first | (rw [p0_m3.1, p0_m3.2.2.2.1]; exact r_OW; done) | (exact Ow_rm r_OW (by decide) (tn_cast (by omega)).symm) | (exfalso; omega; done) | (exfalso; contradiction; done)) p0_m1 (show qRB (m3 99) (m 100) (m 98) (m 101) (m 102) (m 103) (m 107) (m 108) (m3 109) (m3 111) (m 112) (m3 113) (m3 114) (m3 94 55) (m 94 46) (m 94 11) (m 94 12) (m 94 62) (m 94 17) (m 94 9) (xLi aa ob ix oo) from by first | (rw [r_LIq]; rw [p0_m3.1, p0_m3.2.2.1, p0_m3.2.2.2.1, p0_m3.2.2.2.2.1, p0_m3.2.2.2.2.2.1, p0_m3.2.2.2.2.2.2.1]; exact p1_m1; done) | (exfalso; omega; done) | (exfalso; contradiction; done)) (show qI (xLi aa ob ix oo) from by first | (rw [r_LIq]; exact p2_m1; done) | (exfalso; omega; done) | (exfalso; contradiction; done)) (show qMG (m 94 58) (m1 106) (m1 115) (m 94 57) (m1 94 56) (m3 99) (m 100) (xLi aa ob ix oo) from by first | (rw [r_LIq]; rw [p0_m3.1]; exact fun z => ⟨p4_m1 z, r_MF z⟩; done) | (exfalso; omega; done) | (exfalso; contradiction; done)) (show (xLi aa ob ix oo) 87 8 = (m 94 58) from by first | (rw [r_LIq]; exact p3_m1; done) | (exfalso; omega; done) | (exfalso; contradiction; done)) (show (m3 94 45).toInt = sm (zbU (m3 99)) (m 102) 3100 from by first | (rw [p0_m3.1, p0_m3.2.2.2.2.2.2.2]; exact r_WTS; done) | (exfalso; omega; done) | (exfalso; contradiction; done))
set_option maxHeartbeats 8000000 in
theorem lp_247r0_149 {X : Nat × (Nat → Int32)} {P : Option ma_V → (Nat → Nat → Int32) → Prop} {T : Nat} {aa : Nat→Nat→Int32} {ob : Int32} {ix : Int32} {oo : Int32} {m0 : Nat → Nat → Int32} (h0 : zV m0) (K : ∀ v m₉, zF wr_247 m0 m₉ → zV m₉ → (zW (m₉ 94 7) (m₉ 98) (m₉ 101) (m₉ 102) (m₉ 108)) → (zGW T (m₉ 94 55) (m₉ 109)) → (zGU T (m₉ 94 46) (m₉ 99)) → (zOw (m₉ 99) (m₉ 103) (m₉ 111)) → (zGG (m₉ 94 58) (m₉ 94 56) (m₉ 94 57) (m₉ 106)) → (qRB (m₉ 99) (m₉ 100) (m₉ 98) (m₉ 101) (m₉ 102) (m₉ 103) (m₉ 107) (m₉ 108) (m₉ 109) (m₉ 111) (m₉ 112) (m₉ 113) (m₉ 114) (m₉ 94 55) (m₉ 94 46) (m₉ 94 11) (m₉ 94 12) (m₉ 94 62) (m₉ 94 17) (m₉ 94 9) (xLi aa ob ix oo)) → (qI (xLi aa ob ix oo)) → (qMG (m₉ 94 58) (m₉ 106) (m₉ 115) (m₉ 94 57) (m₉ 94 56) (m₉ 99) (m₉ 100) (xLi aa ob ix oo)) → ((xLi aa ob ix oo) 87 8 = (m₉ 94 58)) → ((m₉ 94 45).toInt = sm (zbU (m₉ 99)) (m₉ 102) 3100) → P (some (.inl v)) m₉) : ∀ (n : Nat) (m : Nat → Nat → Int32) (l2 : Int32) (l4 : Int32) (l6 : Int32) (l7 : Int32) (l8 : Int32), ((0 : Int)).toNat = n → zF wr_247 m0 m → zV m → (0 ≤ l4.toInt) → (l4.toInt ≤ 3099) → (0 ≤ l2.toInt) → (l2.toInt < (m 102 l4.toNatClampNeg).toInt) → ((m 101) l4.toNatClampNeg = 16 ∨ ((m 101) l4.toNatClampNeg < 16 ∧ (((m 98) ((m 101) l4.toNatClampNeg).toNatClampNeg >>> (l2 &&& 31)) &&& 1) = 1)) → (-1 ≤ l6.toInt) → (l6.toInt ≤ 3099) → (-1 ≤ l7.toInt) → (l7.toInt ≤ 3099) → (T ≤ 512) → (zW (m 94 7) (m 98) (m 101) (m 102) (m 108)) → (zGW T (m 94 55) (m 109)) → (zGU T (m 94 46) (m 99)) → (zOw (m 99) (m 103) (m 111)) → (zGG (m 94 58) (m 94 56) (m 94 57) (m 106)) → ((m 94 10).toInt = 0 ∧ (m 94 58).toInt = 0) → ((m 94 8).toInt = 1) → (qRB (m 99) (m 100) (m 98) (m 101) (m 102) (m 103) (m 107) (m 108) (m 109) (m 111) (m 112) (m 113) (m 114) (m 94 55) (m 94 46) (m 94 11) (m 94 12) (m 94 62) (m 94 17) (m 94 9) aa) → (qI aa) → (qMG (m 94 58) (m 106) (m 115) (m 94 57) (m 94 56) (m 99) (m 100) aa) → (aa 87 8 = (m 94 58)) → ((m 94 45).toInt = sm (zbU (m 99)) (m 102) 3100) → (l2 = ix) → (qRe (m 99) (m 100) aa ob l4) → (qAs (m 99) (m 100) aa oo l6) → (l7 = (m 108) (l4 * (60 : Int32) + l2).toNatClampNeg) → zm X 5 109 247 149 [(0, .inr (.inr (some 94))), (2, .inl l2), (4, .inl l4), (6, .inl l6), (7, .inl l7), (8, .inl l8)] m P := by
  intro n
  induction n using Nat.strongRecOn with
  | _ n IH =>
    intro m l2 l4 l6 l7 l8 hmu hF hV hi0 hi1 hi2 hi3 r_ISR hi5 hi6 hi7 hi8 hi9 r_W r_GW r_GU r_OW r_GG hi15 hi16 r_RB r_QI r_MG r_MK r_WTS r_L2e r_REl r_ASl r_L7e
    refine g_247_149 l2 l4 l6 l7 l8 ?_
    have b1 := i_bd l4
    first | have f2 : 0 ≤ (m 102 l4.toNatClampNeg).toInt ∧ (m 102 l4.toNatClampNeg).toInt ≤ 60 := ra_102 (m := m) hV (k := l4.toNatClampNeg) (i_ix (n := 3100) (by omega) (by omega)).2 | have b3 := i_bd (m 102 l4.toNatClampNeg)
    have f4 : 0 ≤ (m 94 10).toInt ∧ (m 94 10).toInt ≤ 6 := rs_94_10 (m := m) hV
    have f5 : 0 ≤ (m 94 58).toInt ∧ (m 94 58).toInt ≤ 1 := rs_94_58 (m := m) hV
    have f6 : 0 ≤ (m 94 8).toInt ∧ (m 94 8).toInt ≤ 1 := rs_94_8 (m := m) hV
    have li7 : (60 : Int32).toInt = 60 := rfl
    first | have e8 : (l4 * (60 : Int32)).toInt = l4.toInt * 60 := i_mulk rfl (by omega) (by omega) | have b9 := i_bd (l4 * (60 : Int32))
    have b10 := i_bd l2
    first | have e11 : ((l4 * (60 : Int32)) + l2).toInt = (l4 * (60 : Int32)).toInt + l2.toInt := i_add (by omega) (by omega) | have b12 := i_bd ((l4 * (60 : Int32)) + l2)
    have hg13 : (0 ≤ ((l4 * (60 : Int32)) + l2) ∧ ((l4 * (60 : Int32)) + l2).toNatClampNeg < 186000) := i_ix (by omega) (by omega)
    refine ⟨hg13, ?_⟩
    have li14 : (3 : Int32).toInt = 3 := rfl
    refine zd (fun (h15 : (m 94 10) = (3 : Int32)) => ?_) (fun (h15 : ¬ (m 94 10) = (3 : Int32)) => ?_)
    · skip
      have g16 := i_eq h15
      exfalso; omega
    · skip
      have g17 := i_ne h15
      try have w60 := (ra_102 hV (k := l4.toNatClampNeg) (by omega)).2
      try have ww := W_isr r_W (s := l4) (i := l2) (by omega) (by omega) (by omega) (by omega) (by omega) r_ISR
      have hV18 : zV (ma_u m 108 ((l4 * (60 : Int32)) + l2).toNatClampNeg l6) := ua_108 hV
      have b19 := i_bd l6
      have b20 := i_bd l7
      have b21 := i_bd l8
      exact lp_247r0_207 (ob := ob) (ix := ix) (oo := oo) h0 K _ _ (l6) (l7) (l8) rfl (zF_u hF rfl) hV18 (by omega) (by omega) (by omega) (by omega) (by omega) (show zW (m 94 7) (m 98) (m 101) (m 102) ((ma_u m 108 ((l4 * (60 : Int32)) + l2).toNatClampNeg l6) 108) from by first | (exact W_link r_W (by omega) (by omega) (fun s2 i2 hs2 hi2 => zrf_link (s := l4) (i := l2) (by omega) (by omega) (by omega) (by omega) r_ISR s2 i2 (by have := (ra_102 hV hs2).2; omega))) | (exfalso; omega; done) | (exfalso; contradiction; done)) r_GW r_GU r_OW r_GG (show (m 94 10).toInt = 0 ∧ (m 94 58).toInt = 0 from by omega) (show (m 94 8).toInt = 1 from by omega) (show qRB (m 99) (m 100) (m 98) (m 101) (m 102) (m 103) (m 107) ((ma_u m 108 ((l4 * (60 : Int32)) + l2).toNatClampNeg l6) 108) (m 109) (m 111) (m 112) (m 113) (m 114) (m 94 55) (m 94 46) (m 94 11) (m 94 12) (m 94 62) (m 94 17) (m 94 9) (aCi aa ob.toNatClampNeg ix (qNo (m 100) l6)) from by first | (rw [← r_L2e]; exact (RB_li r_RB r_QI (s := l4) (by omega) (by omega) (Re_y r_REl (by omega)).2.1 (i := l2) (by omega) (by omega) r_ISR (Re_y r_REl (by omega)).2.2.1 (As_u r_ASl)).1; done) | (exfalso; omega; done) | (exfalso; contradiction; done)) (show qI (aCi aa ob.toNatClampNeg ix (qNo (m 100) l6)) from by first | (rw [← r_L2e, Ci_eq r_QI (RB_li r_RB r_QI (s := l4) (by omega) (by omega) (Re_y r_REl (by omega)).2.1 (i := l2) (by omega) (by omega) r_ISR (Re_y r_REl (by omega)).2.2.1 (As_u r_ASl)).2.2.1]; exact I_w r_QI (RB_li r_RB r_QI (s := l4) (by omega) (by omega) (Re_y r_REl (by omega)).2.1 (i := l2) (by omega) (by omega) r_ISR (Re_y r_REl (by omega)).2.2.1 (As_u r_ASl)).2.2.1; done) | (exfalso; omega; done) | (exfalso; contradiction; done)) (show (aCi aa ob.toNatClampNeg ix (qNo (m 100) l6)) 87 8 = (m 94 58) from by first | (rw [← r_L2e, Ci_eq r_QI (RB_li r_RB r_QI (s := l4) (by omega) (by omega) (Re_y r_REl (by omega)).2.1 (i := l2) (by omega) (by omega) r_ISR (Re_y r_REl (by omega)).2.2.1 (As_u r_ASl)).2.2.1, un (by decide)]; exact r_MK; done) | (exfalso; omega; done) | (exfalso; contradiction; done)) (show qGQ (m 94 58) (m 106) (m 115) (m 94 57) (m 94 56) (m 99) (m 100) (aCi aa ob.toNatClampNeg ix (qNo (m 100) l6)) from by first | (rw [← r_L2e, Ci_eq r_QI (RB_li r_RB r_QI (s := l4) (by omega) (by omega) (Re_y r_REl (by omega)).2.1 (i := l2) (by omega) (by omega) r_ISR (Re_y r_REl (by omega)).2.2.1 (As_u r_ASl)).2.2.1]; exact fun z => MQ_71 (r_MG z).1; done) | (exfalso; omega; done) | (exfalso; contradiction; done)) r_WTS (show xLi aa ob ix oo = (aNc (aCi aa ob.toNatClampNeg ix (qNo (m 100) l6)) (qNo (m 100) l7) (qNo (m 100) l6)) from by first | (rw [← r_L2e, Li_y r_RB r_REl (by omega) (by omega) (by omega) r_ISR r_ASl, (RB_li r_RB r_QI (s := l4) (by omega) (by omega) (Re_y r_REl (by omega)).2.1 (i := l2) (by omega) (by omega) r_ISR (Re_y r_REl (by omega)).2.2.1 (As_u r_ASl)).2.2.2.1, ← r_L7e]; done) | (exfalso; omega; done) | (exfalso; contradiction; done)) (show qMF (m 94 58) (aNc (aCi aa ob.toNatClampNeg ix (qNo (m 100) l6)) (qNo (m 100) l7) (qNo (m 100) l6)) from by first | (rw [← r_L2e]; exact LI_mi r_RB r_QI r_MG r_MK (RB_li r_RB r_QI (s := l4) (by omega) (by omega) (Re_y r_REl (by omega)).2.1 (i := l2) (by omega) (by omega) r_ISR (Re_y r_REl (by omega)).2.2.1 (As_u r_ASl)).2.2.1 (RB_li r_RB r_QI (s := l4) (by omega) (by omega) (Re_y r_REl (by omega)).2.1 (i := l2) (by omega) (by omega) r_ISR (Re_y r_REl (by omega)).2.2.1 (As_u r_ASl)).2.1 r_ASl (by rw [r_L7e]; exact (RB_li r_RB r_QI (s := l4) (by omega) (by omega) (Re_y r_REl (by omega)).2.1 (i := l2) (by omega) (by omega) r_ISR (Re_y r_REl (by omega)).2.2.1 (As_u r_ASl)).2.2.2.1) (by rw [r_L7e]; exact (RB_li r_RB r_QI (s := l4) (by omega) (by omega) (Re_y r_REl (by omega)).2.1 (i := l2) (by omega) (by omega) r_ISR (Re_y r_REl (by omega)).2.2.1 (As_u r_ASl)).2.2.2.2); done) | (exfalso; omega; done) | (exfalso; contradiction; done)) (show qU (m 99) l7 from by first | (rw [r_L7e]; exact (RB_li r_RB r_QI (s := l4) (by omega) (by omega) (Re_y r_REl (by omega)).2.1 (i := l2) (by omega) (by omega) r_ISR (Re_y r_REl (by omega)).2.2.1 (As_u r_ASl)).2.2.2.2; done) | (exfalso; omega; done) | (exfalso; contradiction; done)) (show qU (m 99) l6 from by first | (exact As_u r_ASl) | (exfalso; omega; done) | (exfalso; contradiction; done))
set_option maxHeartbeats 8000000 in
theorem lp_247r0_121 {X : Nat × (Nat → Int32)} {P : Option ma_V → (Nat → Nat → Int32) → Prop} {T : Nat} {aa : Nat→Nat→Int32} {ob : Int32} {ix : Int32} {oo : Int32} {m0 : Nat → Nat → Int32} (h0 : zV m0) (K : ∀ v m₉, zF wr_247 m0 m₉ → zV m₉ → (zW (m₉ 94 7) (m₉ 98) (m₉ 101) (m₉ 102) (m₉ 108)) → (zGW T (m₉ 94 55) (m₉ 109)) → (zGU T (m₉ 94 46) (m₉ 99)) → (zOw (m₉ 99) (m₉ 103) (m₉ 111)) → (zGG (m₉ 94 58) (m₉ 94 56) (m₉ 94 57) (m₉ 106)) → (qRB (m₉ 99) (m₉ 100) (m₉ 98) (m₉ 101) (m₉ 102) (m₉ 103) (m₉ 107) (m₉ 108) (m₉ 109) (m₉ 111) (m₉ 112) (m₉ 113) (m₉ 114) (m₉ 94 55) (m₉ 94 46) (m₉ 94 11) (m₉ 94 12) (m₉ 94 62) (m₉ 94 17) (m₉ 94 9) (xLi aa ob ix oo)) → (qI (xLi aa ob ix oo)) → (qMG (m₉ 94 58) (m₉ 106) (m₉ 115) (m₉ 94 57) (m₉ 94 56) (m₉ 99) (m₉ 100) (xLi aa ob ix oo)) → ((xLi aa ob ix oo) 87 8 = (m₉ 94 58)) → ((m₉ 94 45).toInt = sm (zbU (m₉ 99)) (m₉ 102) 3100) → P (some (.inl v)) m₉) : ∀ (n : Nat) (m : Nat → Nat → Int32) (l2 : Int32) (l4 : Int32) (l6 : Int32), ((0 : Int)).toNat = n → zF wr_247 m0 m → zV m → (0 ≤ l4.toInt) → (l4.toInt ≤ 3099) → (0 ≤ l2.toInt) → (l2.toInt < (m 102 l4.toNatClampNeg).toInt) → ((m 101) l4.toNatClampNeg = 16 ∨ ((m 101) l4.toNatClampNeg < 16 ∧ (((m 98) ((m 101) l4.toNatClampNeg).toNatClampNeg >>> (l2 &&& 31)) &&& 1) = 1)) → (-1 ≤ l6.toInt) → (l6.toInt ≤ 3099) → (T ≤ 512) → (zW (m 94 7) (m 98) (m 101) (m 102) (m 108)) → (zGW T (m 94 55) (m 109)) → (zGU T (m 94 46) (m 99)) → (zOw (m 99) (m 103) (m 111)) → (zGG (m 94 58) (m 94 56) (m 94 57) (m 106)) → ((m 94 10).toInt = 0 ∧ (m 94 58).toInt = 0) → ((m 94 8).toInt = 1) → (qRB (m 99) (m 100) (m 98) (m 101) (m 102) (m 103) (m 107) (m 108) (m 109) (m 111) (m 112) (m 113) (m 114) (m 94 55) (m 94 46) (m 94 11) (m 94 12) (m 94 62) (m 94 17) (m 94 9) aa) → (qI aa) → (qMG (m 94 58) (m 106) (m 115) (m 94 57) (m 94 56) (m 99) (m 100) aa) → (aa 87 8 = (m 94 58)) → ((m 94 45).toInt = sm (zbU (m 99)) (m 102) 3100) → (l2 = ix) → (qRe (m 99) (m 100) aa ob l4) → (qAs (m 99) (m 100) aa oo l6) → zm X 5 109 247 121 [(0, .inr (.inr (some 94))), (2, .inl l2), (4, .inl l4), (6, .inl l6)] m P := by
  intro n
  induction n using Nat.strongRecOn with
  | _ n IH =>
    intro m l2 l4 l6 hmu hF hV hi0 hi1 hi2 hi3 r_ISR hi5 hi6 hi7 r_W r_GW r_GU r_OW r_GG hi13 hi14 r_RB r_QI r_MG r_MK r_WTS r_L2e r_REl r_ASl
    refine g_247_121 l2 l4 l6 ?_
    have b1 := i_bd l4
    first | have f2 : 0 ≤ (m 102 l4.toNatClampNeg).toInt ∧ (m 102 l4.toNatClampNeg).toInt ≤ 60 := ra_102 (m := m) hV (k := l4.toNatClampNeg) (i_ix (n := 3100) (by omega) (by omega)).2 | have b3 := i_bd (m 102 l4.toNatClampNeg)
    have f4 : 0 ≤ (m 94 10).toInt ∧ (m 94 10).toInt ≤ 6 := rs_94_10 (m := m) hV
    have f5 : 0 ≤ (m 94 58).toInt ∧ (m 94 58).toInt ≤ 1 := rs_94_58 (m := m) hV
    have f6 : 0 ≤ (m 94 8).toInt ∧ (m 94 8).toInt ≤ 1 := rs_94_8 (m := m) hV
    have li7 : (60 : Int32).toInt = 60 := rfl
    first | have e8 : (l4 * (60 : Int32)).toInt = l4.toInt * 60 := i_mulk rfl (by omega) (by omega) | have b9 := i_bd (l4 * (60 : Int32))
    have b10 := i_bd l2
    first | have e11 : ((l4 * (60 : Int32)) + l2).toInt = (l4 * (60 : Int32)).toInt + l2.toInt := i_add (by omega) (by omega) | have b12 := i_bd ((l4 * (60 : Int32)) + l2)
    have hg13 : (0 ≤ ((l4 * (60 : Int32)) + l2) ∧ ((l4 * (60 : Int32)) + l2).toNatClampNeg < 186000) := i_ix (by omega) (by omega)
    refine ⟨hg13, ?_⟩
    have li14 : (0 : Int32).toInt = 0 := rfl
    have b15 := i_bd (m 108 ((l4 * (60 : Int32)) + l2).toNatClampNeg)
    refine zd (fun (h16 : (0 : Int32) ≤ (m 108 ((l4 * (60 : Int32)) + l2).toNatClampNeg)) => ?_) (fun (h16 : ¬ (0 : Int32) ≤ (m 108 ((l4 * (60 : Int32)) + l2).toNatClampNeg)) => ?_)
    · skip
      have g17 := i_le h16
      try have w60 := (ra_102 hV (k := l4.toNatClampNeg) (by omega)).2
      try have ww := W_isr r_W (s := l4) (i := l2) (by omega) (by omega) (by omega) (by omega) (by omega) r_ISR
      have hg18 : (0 ≤ (m 108 ((l4 * (60 : Int32)) + l2).toNatClampNeg) ∧ (m 108 ((l4 * (60 : Int32)) + l2).toNatClampNeg).toNatClampNeg < 3100) := i_ix (by omega) (by omega)
      refine ⟨hg18, ?_⟩
      have b19 := i_bd l6
      refine zd (fun (h20 : l6 < (0 : Int32)) => ?_) (fun (h20 : ¬ l6 < (0 : Int32)) => ?_)
      · skip
        have g21 := i_lt h20
        try have w60 := (ra_102 hV (k := l4.toNatClampNeg) (by omega)).2
        try have ww := W_isr r_W (s := l4) (i := l2) (by omega) (by omega) (by omega) (by omega) (by omega) r_ISR
        first | have f22 : 0 ≤ (m 100 (m 108 ((l4 * (60 : Int32)) + l2).toNatClampNeg).toNatClampNeg).toInt ∧ (m 100 (m 108 ((l4 * (60 : Int32)) + l2).toNatClampNeg).toNatClampNeg).toInt ≤ 100000 := ra_100 (m := m) hV (k := (m 108 ((l4 * (60 : Int32)) + l2).toNatClampNeg).toNatClampNeg) (i_ix (n := 3100) (by omega) (by omega)).2 | have b23 := i_bd (m 100 (m 108 ((l4 * (60 : Int32)) + l2).toNatClampNeg).toNatClampNeg)
        exact lp_247r0_149 (ob := ob) (ix := ix) (oo := oo) h0 K _ _ (l2) (l4) (l6) ((m 108 ((l4 * (60 : Int32)) + l2).toNatClampNeg)) ((m 100 (m 108 ((l4 * (60 : Int32)) + l2).toNatClampNeg).toNatClampNeg)) rfl hF hV (by omega) (by omega) (by omega) (show l2.toInt < (m 102 l4.toNatClampNeg).toInt from by omega) r_ISR (by omega) (by omega) (by omega) (by omega) (by omega) r_W r_GW r_GU r_OW r_GG (show (m 94 10).toInt = 0 ∧ (m 94 58).toInt = 0 from by omega) (show (m 94 8).toInt = 1 from by omega) r_RB r_QI r_MG r_MK r_WTS r_L2e r_REl r_ASl (show (m 108 ((l4 * (60 : Int32)) + l2).toNatClampNeg) = (m 108) (l4 * (60 : Int32) + l2).toNatClampNeg from by first | (exact rfl) | (exfalso; omega; done) | (exfalso; contradiction; done))
      · skip
        have g24 := i_nlt h20
        have li25 : (4 : Int32).toInt = 4 := rfl
        refine zd (fun (h26 : (m 94 10) = (4 : Int32)) => ?_) (fun (h26 : ¬ (m 94 10) = (4 : Int32)) => ?_)
        · skip
          have g27 := i_eq h26
          exfalso; omega
        · skip
          have g28 := i_ne h26
          try have w60 := (ra_102 hV (k := l4.toNatClampNeg) (by omega)).2
          try have ww := W_isr r_W (s := l4) (i := l2) (by omega) (by omega) (by omega) (by omega) (by omega) r_ISR
          first | have f29 : 0 ≤ (m 100 (m 108 ((l4 * (60 : Int32)) + l2).toNatClampNeg).toNatClampNeg).toInt ∧ (m 100 (m 108 ((l4 * (60 : Int32)) + l2).toNatClampNeg).toNatClampNeg).toInt ≤ 100000 := ra_100 (m := m) hV (k := (m 108 ((l4 * (60 : Int32)) + l2).toNatClampNeg).toNatClampNeg) (i_ix (n := 3100) (by omega) (by omega)).2 | have b30 := i_bd (m 100 (m 108 ((l4 * (60 : Int32)) + l2).toNatClampNeg).toNatClampNeg)
          exact lp_247r0_149 (ob := ob) (ix := ix) (oo := oo) h0 K _ _ (l2) (l4) (l6) ((m 108 ((l4 * (60 : Int32)) + l2).toNatClampNeg)) ((m 100 (m 108 ((l4 * (60 : Int32)) + l2).toNatClampNeg).toNatClampNeg)) rfl hF hV (by omega) (by omega) (by omega) (show l2.toInt < (m 102 l4.toNatClampNeg).toInt from by omega) r_ISR (by omega) (by omega) (by omega) (by omega) (by omega) r_W r_GW r_GU r_OW r_GG (show (m 94 10).toInt = 0 ∧ (m 94 58).toInt = 0 from by omega) (show (m 94 8).toInt = 1 from by omega) r_RB r_QI r_MG r_MK r_WTS r_L2e r_REl r_ASl (show (m 108 ((l4 * (60 : Int32)) + l2).toNatClampNeg) = (m 108) (l4 * (60 : Int32) + l2).toNatClampNeg from by first | (exact rfl) | (exfalso; omega; done) | (exfalso; contradiction; done))
    · skip
      have g31 := i_nle h16
      have b32 := i_bd l6
      refine zd (fun (h33 : l6 < (0 : Int32)) => ?_) (fun (h33 : ¬ l6 < (0 : Int32)) => ?_)
      · skip
        have g34 := i_lt h33
        try have w60 := (ra_102 hV (k := l4.toNatClampNeg) (by omega)).2
        try have ww := W_isr r_W (s := l4) (i := l2) (by omega) (by omega) (by omega) (by omega) (by omega) r_ISR
        have li35 : (-1 : Int32).toInt = -1 := rfl
        exact lp_247r0_149 (ob := ob) (ix := ix) (oo := oo) h0 K _ _ (l2) (l4) (l6) ((m 108 ((l4 * (60 : Int32)) + l2).toNatClampNeg)) ((-1 : Int32)) rfl hF hV (by omega) (by omega) (by omega) (show l2.toInt < (m 102 l4.toNatClampNeg).toInt from by omega) r_ISR (by omega) (by omega) (by omega) (by omega) (by omega) r_W r_GW r_GU r_OW r_GG (show (m 94 10).toInt = 0 ∧ (m 94 58).toInt = 0 from by omega) (show (m 94 8).toInt = 1 from by omega) r_RB r_QI r_MG r_MK r_WTS r_L2e r_REl r_ASl (show (m 108 ((l4 * (60 : Int32)) + l2).toNatClampNeg) = (m 108) (l4 * (60 : Int32) + l2).toNatClampNeg from by first | (exact rfl) | (exfalso; omega; done) | (exfalso; contradiction; done))
      · skip
        have g36 := i_nlt h33
        have li37 : (4 : Int32).toInt = 4 := rfl
        refine zd (fun (h38 : (m 94 10) = (4 : Int32)) => ?_) (fun (h38 : ¬ (m 94 10) = (4 : Int32)) => ?_)
        · skip
          have g39 := i_eq h38
          exfalso; omega
        · skip
          have g40 := i_ne h38
          try have w60 := (ra_102 hV (k := l4.toNatClampNeg) (by omega)).2
          try have ww := W_isr r_W (s := l4) (i := l2) (by omega) (by omega) (by omega) (by omega) (by omega) r_ISR
          have li41 : (-1 : Int32).toInt = -1 := rfl
          exact lp_247r0_149 (ob := ob) (ix := ix) (oo := oo) h0 K _ _ (l2) (l4) (l6) ((m 108 ((l4 * (60 : Int32)) + l2).toNatClampNeg)) ((-1 : Int32)) rfl hF hV (by omega) (by omega) (by omega) (show l2.toInt < (m 102 l4.toNatClampNeg).toInt from by omega) r_ISR (by omega) (by omega) (by omega) (by omega) (by omega) r_W r_GW r_GU r_OW r_GG (show (m 94 10).toInt = 0 ∧ (m 94 58).toInt = 0 from by omega) (show (m 94 8).toInt = 1 from by omega) r_RB r_QI r_MG r_MK r_WTS r_L2e r_REl r_ASl (show (m 108 ((l4 * (60 : Int32)) + l2).toNatClampNeg) = (m 108) (l4 * (60 : Int32) + l2).toNatClampNeg from by first | (exact rfl) | (exfalso; omega; done) | (exfalso; contradiction; done))
set_option maxHeartbeats 8000000 in
theorem lp_247r0_105 {X : Nat × (Nat → Int32)} {P : Option ma_V → (Nat → Nat → Int32) → Prop} {T : Nat} {aa : Nat→Nat→Int32} {ob : Int32} {ix : Int32} {oo : Int32} {m0 : Nat → Nat → Int32} (h0 : zV m0) (K : ∀ v m₉, zF wr_247 m0 m₉ → zV m₉ → (zW (m₉ 94 7) (m₉ 98) (m₉ 101) (m₉ 102) (m₉ 108)) → (zGW T (m₉ 94 55) (m₉ 109)) → (zGU T (m₉ 94 46) (m₉ 99)) → (zOw (m₉ 99) (m₉ 103) (m₉ 111)) → (zGG (m₉ 94 58) (m₉ 94 56) (m₉ 94 57) (m₉ 106)) → (qRB (m₉ 99) (m₉ 100) (m₉ 98) (m₉ 101) (m₉ 102) (m₉ 103) (m₉ 107) (m₉ 108) (m₉ 109) (m₉ 111) (m₉ 112) (m₉ 113) (m₉ 114) (m₉ 94 55) (m₉ 94 46) (m₉ 94 11) (m₉ 94 12) (m₉ 94 62) (m₉ 94 17) (m₉ 94 9) (xLi aa ob ix oo)) → (qI (xLi aa ob ix oo)) → (qMG (m₉ 94 58) (m₉ 106) (m₉ 115) (m₉ 94 57) (m₉ 94 56) (m₉ 99) (m₉ 100) (xLi aa ob ix oo)) → ((xLi aa ob ix oo) 87 8 = (m₉ 94 58)) → ((m₉ 94 45).toInt = sm (zbU (m₉ 99)) (m₉ 102) 3100) → P (some (.inl v)) m₉) : ∀ (n : Nat) (m : Nat → Nat → Int32) (l2 : Int32) (l3 : Int32) (l4 : Int32), ((0 : Int)).toNat = n → zF wr_247 m0 m → zV m → (0 ≤ l4.toInt) → (l4.toInt ≤ 3099) → (0 ≤ l2.toInt) → (l2.toInt < (m 102 l4.toNatClampNeg).toInt) → ((m 101) l4.toNatClampNeg = 16 ∨ ((m 101) l4.toNatClampNeg < 16 ∧ (((m 98) ((m 101) l4.toNatClampNeg).toNatClampNeg >>> (l2 &&& 31)) &&& 1) = 1)) → (T ≤ 512) → (zW (m 94 7) (m 98) (m 101) (m 102) (m 108)) → (zGW T (m 94 55) (m 109)) → (zGU T (m 94 46) (m 99)) → (zOw (m 99) (m 103) (m 111)) → (zGG (m 94 58) (m 94 56) (m 94 57) (m 106)) → ((m 94 10).toInt = 0 ∧ (m 94 58).toInt = 0) → ((m 94 8).toInt = 1) → (qRB (m 99) (m 100) (m 98) (m 101) (m 102) (m 103) (m 107) (m 108) (m 109) (m 111) (m 112) (m 113) (m 114) (m 94 55) (m 94 46) (m 94 11) (m 94 12) (m 94 62) (m 94 17) (m 94 9) aa) → (qI aa) → (qMG (m 94 58) (m 106) (m 115) (m 94 57) (m 94 56) (m 99) (m 100) aa) → (aa 87 8 = (m 94 58)) → ((m 94 45).toInt = sm (zbU (m 99)) (m 102) 3100) → (l2 = ix) → (l3 = oo) → (qRe (m 99) (m 100) aa ob l4) → (oo = -1 ∨ zRq aa oo) → zm X 5 109 247 105 [(0, .inr (.inr (some 94))), (2, .inl l2), (3, .inl l3), (4, .inl l4)] m P := by
  intro n
  induction n using Nat.strongRecOn with
  | _ n IH =>
    intro m l2 l3 l4 hmu hF hV hi0 hi1 hi2 hi3 r_ISR hi5 r_W r_GW r_GU r_OW r_GG hi11 hi12 r_RB r_QI r_MG r_MK r_WTS r_L2e r_L3e r_REl r_THy
    refine g_247_105 l2 l3 l4 ?_
    have b1 := i_bd l4
    first | have f2 : 0 ≤ (m 102 l4.toNatClampNeg).toInt ∧ (m 102 l4.toNatClampNeg).toInt ≤ 60 := ra_102 (m := m) hV (k := l4.toNatClampNeg) (i_ix (n := 3100) (by omega) (by omega)).2 | have b3 := i_bd (m 102 l4.toNatClampNeg)
    have f4 : 0 ≤ (m 94 10).toInt ∧ (m 94 10).toInt ≤ 6 := rs_94_10 (m := m) hV
    have f5 : 0 ≤ (m 94 58).toInt ∧ (m 94 58).toInt ≤ 1 := rs_94_58 (m := m) hV
    have f6 : 0 ≤ (m 94 8).toInt ∧ (m 94 8).toInt ≤ 1 := rs_94_8 (m := m) hV
    have b7 := i_bd l3
    have li8 : (-1 : Int32).toInt = -1 := rfl
    refine zd (fun (h9 : l3 = (-1 : Int32)) => ?_) (fun (h9 : ¬ l3 = (-1 : Int32)) => ?_)
    · skip
      have g10 := i_eq h9
      try have w60 := (ra_102 hV (k := l4.toNatClampNeg) (by omega)).2
      try have ww := W_isr r_W (s := l4) (i := l2) (by omega) (by omega) (by omega) (by omega) (by omega) r_ISR
      have b11 := i_bd l2
      exact lp_247r0_121 (ob := ob) (ix := ix) (oo := oo) h0 K _ _ (l2) (l4) ((-1 : Int32)) rfl hF hV (by omega) (by omega) (by omega) (show l2.toInt < (m 102 l4.toNatClampNeg).toInt from by omega) r_ISR (by omega) (by omega) (by omega) r_W r_GW r_GU r_OW r_GG (show (m 94 10).toInt = 0 ∧ (m 94 58).toInt = 0 from by omega) (show (m 94 8).toInt = 1 from by omega) r_RB r_QI r_MG r_MK r_WTS r_L2e r_REl (show qAs (m 99) (m 100) aa oo (-1 : Int32) from by first | (exact As_n (r_L3e.symm.trans (by assumption))) | (exfalso; omega; done) | (exfalso; contradiction; done))
    · skip
      have g12 := i_ne h9
      refine sp_246r (l3) hV  (fun v2 m1 hV_m1 p0_m1 p1_m1 => zmi_n ?_)
      have p0_m1 : -1 ≤ v2.toInt ∧ v2.toInt ≤ 3099 := p0_m1
      have p1_m1 : qPl (m 99) (m 100) l3 v2 := p1_m1
      try have w60 := (ra_102 hV (k := l4.toNatClampNeg) (by omega)).2
      try have ww := W_isr r_W (s := l4) (i := l2) (by omega) (by omega) (by omega) (by omega) (by omega) r_ISR
      have b13 := i_bd l2
      have b14 := i_bd v2
      exact lp_247r0_121 (ob := ob) (ix := ix) (oo := oo) h0 K _ _ (l2) (l4) (v2) rfl (zF_zov hF ws_246_247) hV_m1 (by omega) (by omega) (by omega) (show l2.toInt < (m 102 l4.toNatClampNeg).toInt from by omega) r_ISR (by omega) (by omega) (by omega) r_W r_GW r_GU r_OW r_GG (show (m 94 10).toInt = 0 ∧ (m 94 58).toInt = 0 from by omega) (show (m 94 8).toInt = 1 from by omega) r_RB r_QI r_MG r_MK r_WTS r_L2e r_REl (show qAs (m 99) (m 100) aa oo v2 from by first | (exact As_p r_RB p1_m1 r_L3e r_THy (by omega)) | (exfalso; omega; done) | (exfalso; contradiction; done))
set_option maxHeartbeats 8000000 in
theorem lp_247r0_53 {X : Nat × (Nat → Int32)} {P : Option ma_V → (Nat → Nat → Int32) → Prop} {T : Nat} {aa : Nat→Nat→Int32} {ob : Int32} {ix : Int32} {oo : Int32} {m0 : Nat → Nat → Int32} (h0 : zV m0) (K : ∀ v m₉, zF wr_247 m0 m₉ → zV m₉ → (zW (m₉ 94 7) (m₉ 98) (m₉ 101) (m₉ 102) (m₉ 108)) → (zGW T (m₉ 94 55) (m₉ 109)) → (zGU T (m₉ 94 46) (m₉ 99)) → (zOw (m₉ 99) (m₉ 103) (m₉ 111)) → (zGG (m₉ 94 58) (m₉ 94 56) (m₉ 94 57) (m₉ 106)) → (qRB (m₉ 99) (m₉ 100) (m₉ 98) (m₉ 101) (m₉ 102) (m₉ 103) (m₉ 107) (m₉ 108) (m₉ 109) (m₉ 111) (m₉ 112) (m₉ 113) (m₉ 114) (m₉ 94 55) (m₉ 94 46) (m₉ 94 11) (m₉ 94 12) (m₉ 94 62) (m₉ 94 17) (m₉ 94 9) (xLi aa ob ix oo)) → (qI (xLi aa ob ix oo)) → (qMG (m₉ 94 58) (m₉ 106) (m₉ 115) (m₉ 94 57) (m₉ 94 56) (m₉ 99) (m₉ 100) (xLi aa ob ix oo)) → ((xLi aa ob ix oo) 87 8 = (m₉ 94 58)) → ((m₉ 94 45).toInt = sm (zbU (m₉ 99)) (m₉ 102) 3100) → P (some (.inl v)) m₉) : ∀ (n : Nat) (m : Nat → Nat → Int32) (l2 : Int32) (l3 : Int32) (l4 : Int32) (l5 : Int32), ((0 : Int)).toNat = n → zF wr_247 m0 m → zV m → (-1 ≤ l4.toInt) → (l4.toInt ≤ 3099) → (0 ≤ l5.toInt) → (l5.toInt ≤ 1) → (l5.toInt = 0 ∨ 0 ≤ l4.toInt) → (T ≤ 512) → (zW (m 94 7) (m 98) (m 101) (m 102) (m 108)) → (zGW T (m 94 55) (m 109)) → (zGU T (m 94 46) (m 99)) → (zOw (m 99) (m 103) (m 111)) → (zGG (m 94 58) (m 94 56) (m 94 57) (m 106)) → ((m 94 10).toInt = 0 ∧ (m 94 58).toInt = 0) → ((m 94 8).toInt = 1) → (qRB (m 99) (m 100) (m 98) (m 101) (m 102) (m 103) (m 107) (m 108) (m 109) (m 111) (m 112) (m 113) (m 114) (m 94 55) (m 94 46) (m 94 11) (m 94 12) (m 94 62) (m 94 17) (m 94 9) aa) → (qI aa) → (qMG (m 94 58) (m 106) (m 115) (m 94 57) (m 94 56) (m 99) (m 100) aa) → (aa 87 8 = (m 94 58)) → ((m 94 45).toInt = sm (zbU (m 99)) (m 102) 3100) → (l2 = ix) → (l3 = oo) → (qRe (m 99) (m 100) aa ob l4) → (qTh aa ob oo l5) → zm X 5 109 247 53 [(0, .inr (.inr (some 94))), (2, .inl l2), (3, .inl l3), (4, .inl l4), (5, .inl l5)] m P := by
  intro n
  induction n using Nat.strongRecOn with
  | _ n IH =>
    intro m l2 l3 l4 l5 hmu hF hV hi0 hi1 hi2 hi3 hi4 hi5 r_W r_GW r_GU r_OW r_GG hi11 hi12 r_RB r_QI r_MG r_MK r_WTS r_L2e r_L3e r_REl r_TH
    refine g_247_53 l2 l3 l4 l5 ?_
    have f1 : 0 ≤ (m 94 10).toInt ∧ (m 94 10).toInt ≤ 6 := rs_94_10 (m := m) hV
    have f2 : 0 ≤ (m 94 58).toInt ∧ (m 94 58).toInt ≤ 1 := rs_94_58 (m := m) hV
    have f3 : 0 ≤ (m 94 8).toInt ∧ (m 94 8).toInt ≤ 1 := rs_94_8 (m := m) hV
    have b4 := i_bd l5
    have li5 : (0 : Int32).toInt = 0 := rfl
    refine zd (fun (h6 : l5 = (0 : Int32)) => ?_) (fun (h6 : ¬ l5 = (0 : Int32)) => ?_)
    · skip
      have g7 := i_eq h6
      try have w60 := (ra_102 hV (k := l4.toNatClampNeg) (by omega)).2
      have hV8 : zV (ma_u m 94 0 (2 : Int32)) := uf_94_0 hV
      exact K ((0 : Int32)) _ (zF_u hF rfl) hV8 r_W r_GW r_GU r_OW r_GG (show qRB (m 99) (m 100) (m 98) (m 101) (m 102) (m 103) (m 107) (m 108) (m 109) (m 111) (m 112) (m 113) (m 114) (m 94 55) (m 94 46) (m 94 11) (m 94 12) (m 94 62) (m 94 17) (m 94 9) (xLi aa ob ix oo) from by first | (rw [Th_n r_TH (by omega)]; exact r_RB; done) | (rw [← r_L2e, Li_h r_RB r_REl (by omega) (by omega)]; exact r_RB; done) | (rw [← r_L2e, Li_i r_RB r_REl (by omega) (by omega) (by omega) (by assumption) (fun z => by first | exact absurd (Int32.lt_iff_toInt_lt.mp z.1) (by omega) | exact absurd z.2 (by assumption))]; exact r_RB; done) | (exfalso; omega; done) | (exfalso; contradiction; done)) (show qI (xLi aa ob ix oo) from by first | (rw [Th_n r_TH (by omega)]; exact r_QI; done) | (rw [← r_L2e, Li_h r_RB r_REl (by omega) (by omega)]; exact r_QI; done) | (rw [← r_L2e, Li_i r_RB r_REl (by omega) (by omega) (by omega) (by assumption) (fun z => by first | exact absurd (Int32.lt_iff_toInt_lt.mp z.1) (by omega) | exact absurd z.2 (by assumption))]; exact r_QI; done) | (exfalso; omega; done) | (exfalso; contradiction; done)) (show qMG (m 94 58) (m 106) (m 115) (m 94 57) (m 94 56) (m 99) (m 100) (xLi aa ob ix oo) from by first | (rw [Th_n r_TH (by omega)]; exact r_MG; done) | (rw [← r_L2e, Li_h r_RB r_REl (by omega) (by omega)]; exact r_MG; done) | (rw [← r_L2e, Li_i r_RB r_REl (by omega) (by omega) (by omega) (by assumption) (fun z => by first | exact absurd (Int32.lt_iff_toInt_lt.mp z.1) (by omega) | exact absurd z.2 (by assumption))]; exact r_MG; done) | (exfalso; omega; done) | (exfalso; contradiction; done)) (show (xLi aa ob ix oo) 87 8 = (m 94 58) from by first | (rw [Th_n r_TH (by omega)]; exact r_MK; done) | (rw [← r_L2e, Li_h r_RB r_REl (by omega) (by omega)]; exact r_MK; done) | (rw [← r_L2e, Li_i r_RB r_REl (by omega) (by omega) (by omega) (by assumption) (fun z => by first | exact absurd (Int32.lt_iff_toInt_lt.mp z.1) (by omega) | exact absurd z.2 (by assumption))]; exact r_MK; done) | (exfalso; omega; done) | (exfalso; contradiction; done)) r_WTS
    · skip
      have g9 := i_ne h6
      have b10 := i_bd l2
      refine zd (fun (h11 : l2 < (0 : Int32)) => ?_) (fun (h11 : ¬ l2 < (0 : Int32)) => ?_)
      · skip
        have g12 := i_lt h11
        try have w60 := (ra_102 hV (k := l4.toNatClampNeg) (by omega)).2
        have hV13 : zV (ma_u m 94 0 (3 : Int32)) := uf_94_0 hV
        exact K ((0 : Int32)) _ (zF_u hF rfl) hV13 r_W r_GW r_GU r_OW r_GG (show qRB (m 99) (m 100) (m 98) (m 101) (m 102) (m 103) (m 107) (m 108) (m 109) (m 111) (m 112) (m 113) (m 114) (m 94 55) (m 94 46) (m 94 11) (m 94 12) (m 94 62) (m 94 17) (m 94 9) (xLi aa ob ix oo) from by first | (rw [Th_n r_TH (by omega)]; exact r_RB; done) | (rw [← r_L2e, Li_h r_RB r_REl (by omega) (by omega)]; exact r_RB; done) | (rw [← r_L2e, Li_i r_RB r_REl (by omega) (by omega) (by omega) (by assumption) (fun z => by first | exact absurd (Int32.lt_iff_toInt_lt.mp z.1) (by omega) | exact absurd z.2 (by assumption))]; exact r_RB; done) | (exfalso; omega; done) | (exfalso; contradiction; done)) (show qI (xLi aa ob ix oo) from by first | (rw [Th_n r_TH (by omega)]; exact r_QI; done) | (rw [← r_L2e, Li_h r_RB r_REl (by omega) (by omega)]; exact r_QI; done) | (rw [← r_L2e, Li_i r_RB r_REl (by omega) (by omega) (by omega) (by assumption) (fun z => by first | exact absurd (Int32.lt_iff_toInt_lt.mp z.1) (by omega) | exact absurd z.2 (by assumption))]; exact r_QI; done) | (exfalso; omega; done) | (exfalso; contradiction; done)) (show qMG (m 94 58) (m 106) (m 115) (m 94 57) (m 94 56) (m 99) (m 100) (xLi aa ob ix oo) from by first | (rw [Th_n r_TH (by omega)]; exact r_MG; done) | (rw [← r_L2e, Li_h r_RB r_REl (by omega) (by omega)]; exact r_MG; done) | (rw [← r_L2e, Li_i r_RB r_REl (by omega) (by omega) (by omega) (by assumption) (fun z => by first | exact absurd (Int32.lt_iff_toInt_lt.mp z.1) (by omega) | exact absurd z.2 (by assumption))]; exact r_MG; done) | (exfalso; omega; done) | (exfalso; contradiction; done)) (show (xLi aa ob ix oo) 87 8 = (m 94 58) from by first | (rw [Th_n r_TH (by omega)]; exact r_MK; done) | (rw [← r_L2e, Li_h r_RB r_REl (by omega) (by omega)]; exact r_MK; done) | (rw [← r_L2e, Li_i r_RB r_REl (by omega) (by omega) (by omega) (by assumption) (fun z => by first | exact absurd (Int32.lt_iff_toInt_lt.mp z.1) (by omega) | exact absurd z.2 (by assumption))]; exact r_MK; done) | (exfalso; omega; done) | (exfalso; contradiction; done)) r_WTS
      · skip
        have g14 := i_nlt h11
        have b15 := i_bd l4
        have hg16 : (0 ≤ l4 ∧ l4.toNatClampNeg < 3100) := i_ix (by omega) (by omega)
        refine ⟨hg16, ?_⟩
        first | have f17 : 0 ≤ (m 102 l4.toNatClampNeg).toInt ∧ (m 102 l4.toNatClampNeg).toInt ≤ 60 := ra_102 (m := m) hV (k := l4.toNatClampNeg) (i_ix (n := 3100) (by omega) (by omega)).2 | have b18 := i_bd (m 102 l4.toNatClampNeg)
        refine zd (fun (h19 : l2 < (m 102 l4.toNatClampNeg)) => ?_) (fun (h19 : ¬ l2 < (m 102 l4.toNatClampNeg)) => ?_)
        · skip
          have g20 := i_lt h19
          have hg21 : (0 ≤ l4 ∧ l4.toNatClampNeg < 3100) := i_ix (by omega) (by omega)
          refine ⟨hg21, ?_⟩
          first | have f22 : 0 ≤ (m 101 l4.toNatClampNeg).toInt ∧ (m 101 l4.toNatClampNeg).toInt ≤ 17 := ra_101 (m := m) hV (k := l4.toNatClampNeg) (i_ix (n := 3100) (by omega) (by omega)).2 | have b23 := i_bd (m 101 l4.toNatClampNeg)
          have li24 : (16 : Int32).toInt = 16 := rfl
          refine zd (fun (h25 : (m 101 l4.toNatClampNeg) = (16 : Int32)) => ?_) (fun (h25 : ¬ (m 101 l4.toNatClampNeg) = (16 : Int32)) => ?_)
          · skip
            have g26 := i_eq h25
            try have w60 := (ra_102 hV (k := l4.toNatClampNeg) (by omega)).2
            have hV27 : zV (ma_u m 94 0 (0 : Int32)) := uf_94_0 hV
            have b28 := i_bd l3
            exact lp_247r0_105 (ob := ob) (ix := ix) (oo := oo) h0 K _ _ (l2) (l3) (l4) rfl (zF_u hF rfl) hV27 (by omega) (by omega) (by omega) (show l2.toInt < (m 102 l4.toNatClampNeg).toInt from by omega) (show (m 101) l4.toNatClampNeg = 16 ∨ ((m 101) l4.toNatClampNeg < 16 ∧ (((m 98) ((m 101) l4.toNatClampNeg).toNatClampNeg >>> (l2 &&& 31)) &&& 1) = 1) from by first | (exact Or.inl (by assumption)) | (exact Or.inr ⟨Int32.not_le.mp (by assumption), by assumption⟩) | (exfalso; omega; done) | (exfalso; contradiction; done)) (by omega) r_W r_GW r_GU r_OW r_GG (show (m 94 10).toInt = 0 ∧ (m 94 58).toInt = 0 from by omega) (show (m 94 8).toInt = 1 from by omega) r_RB r_QI r_MG r_MK r_WTS r_L2e r_L3e r_REl (show oo = -1 ∨ zRq aa oo from by first | (exact Th_y r_TH (by omega)) | (exfalso; omega; done) | (exfalso; contradiction; done))
          · skip
            have g29 := i_ne h25
            have hg30 : (0 ≤ l4 ∧ l4.toNatClampNeg < 3100) := i_ix (by omega) (by omega)
            refine ⟨hg30, ?_⟩
            refine zd (fun (h31 : (16 : Int32) ≤ (m 101 l4.toNatClampNeg)) => ?_) (fun (h31 : ¬ (16 : Int32) ≤ (m 101 l4.toNatClampNeg)) => ?_)
            · skip
              have g32 := i_le h31
              try have w60 := (ra_102 hV (k := l4.toNatClampNeg) (by omega)).2
              have hV33 : zV (ma_u m 94 0 (4 : Int32)) := uf_94_0 hV
              exact K ((0 : Int32)) _ (zF_u hF rfl) hV33 r_W r_GW r_GU r_OW r_GG (show qRB (m 99) (m 100) (m 98) (m 101) (m 102) (m 103) (m 107) (m 108) (m 109) (m 111) (m 112) (m 113) (m 114) (m 94 55) (m 94 46) (m 94 11) (m 94 12) (m 94 62) (m 94 17) (m 94 9) (xLi aa ob ix oo) from by first | (rw [Th_n r_TH (by omega)]; exact r_RB; done) | (rw [← r_L2e, Li_h r_RB r_REl (by omega) (by omega)]; exact r_RB; done) | (rw [← r_L2e, Li_i r_RB r_REl (by omega) (by omega) (by omega) (by assumption) (fun z => by first | exact absurd (Int32.lt_iff_toInt_lt.mp z.1) (by omega) | exact absurd z.2 (by assumption))]; exact r_RB; done) | (exfalso; omega; done) | (exfalso; contradiction; done)) (show qI (xLi aa ob ix oo) from by first | (rw [Th_n r_TH (by omega)]; exact r_QI; done) | (rw [← r_L2e, Li_h r_RB r_REl (by omega) (by omega)]; exact r_QI; done) | (rw [← r_L2e, Li_i r_RB r_REl (by omega) (by omega) (by omega) (by assumption) (fun z => by first | exact absurd (Int32.lt_iff_toInt_lt.mp z.1) (by omega) | exact absurd z.2 (by assumption))]; exact r_QI; done) | (exfalso; omega; done) | (exfalso; contradiction; done)) (show qMG (m 94 58) (m 106) (m 115) (m 94 57) (m 94 56) (m 99) (m 100) (xLi aa ob ix oo) from by first | (rw [Th_n r_TH (by omega)]; exact r_MG; done) | (rw [← r_L2e, Li_h r_RB r_REl (by omega) (by omega)]; exact r_MG; done) | (rw [← r_L2e, Li_i r_RB r_REl (by omega) (by omega) (by omega) (by assumption) (fun z => by first | exact absurd (Int32.lt_iff_toInt_lt.mp z.1) (by omega) | exact absurd z.2 (by assumption))]; exact r_MG; done) | (exfalso; omega; done) | (exfalso; contradiction; done)) (show (xLi aa ob ix oo) 87 8 = (m 94 58) from by first | (rw [Th_n r_TH (by omega)]; exact r_MK; done) | (rw [← r_L2e, Li_h r_RB r_REl (by omega) (by omega)]; exact r_MK; done) | (rw [← r_L2e, Li_i r_RB r_REl (by omega) (by omega) (by omega) (by assumption) (fun z => by first | exact absurd (Int32.lt_iff_toInt_lt.mp z.1) (by omega) | exact absurd z.2 (by assumption))]; exact r_MK; done) | (exfalso; omega; done) | (exfalso; contradiction; done)) r_WTS
            · skip
              have g34 := i_nle h31
              have hg35 : (0 ≤ l4 ∧ l4.toNatClampNeg < 3100) := i_ix (by omega) (by omega)
              refine ⟨hg35, ?_⟩
              have hg36 : (0 ≤ (m 101 l4.toNatClampNeg) ∧ (m 101 l4.toNatClampNeg).toNatClampNeg < 16) := i_ix (by omega) (by omega)
              refine ⟨hg36, ?_⟩
              have b37 := i_bd (((m 98 (m 101 l4.toNatClampNeg).toNatClampNeg) >>> (l2 &&& 31)) &&& (1 : Int32))
              have li38 : (1 : Int32).toInt = 1 := rfl
              refine zd (fun (h39 : (((m 98 (m 101 l4.toNatClampNeg).toNatClampNeg) >>> (l2 &&& 31)) &&& (1 : Int32)) = (1 : Int32)) => ?_) (fun (h39 : ¬ (((m 98 (m 101 l4.toNatClampNeg).toNatClampNeg) >>> (l2 &&& 31)) &&& (1 : Int32)) = (1 : Int32)) => ?_)
              · skip
                have g40 := i_eq h39
                try have w60 := (ra_102 hV (k := l4.toNatClampNeg) (by omega)).2
                have hV41 : zV (ma_u m 94 0 (0 : Int32)) := uf_94_0 hV
                have b42 := i_bd l3
                exact lp_247r0_105 (ob := ob) (ix := ix) (oo := oo) h0 K _ _ (l2) (l3) (l4) rfl (zF_u hF rfl) hV41 (by omega) (by omega) (by omega) (show l2.toInt < (m 102 l4.toNatClampNeg).toInt from by omega) (show (m 101) l4.toNatClampNeg = 16 ∨ ((m 101) l4.toNatClampNeg < 16 ∧ (((m 98) ((m 101) l4.toNatClampNeg).toNatClampNeg >>> (l2 &&& 31)) &&& 1) = 1) from by first | (exact Or.inl (by assumption)) | (exact Or.inr ⟨Int32.not_le.mp (by assumption), by assumption⟩) | (exfalso; omega; done) | (exfalso; contradiction; done)) (by omega) r_W r_GW r_GU r_OW r_GG (show (m 94 10).toInt = 0 ∧ (m 94 58).toInt = 0 from by omega) (show (m 94 8).toInt = 1 from by omega) r_RB r_QI r_MG r_MK r_WTS r_L2e r_L3e r_REl (show oo = -1 ∨ zRq aa oo from by first | (exact Th_y r_TH (by omega)) | (exfalso; omega; done) | (exfalso; contradiction; done))
              · skip
                have g43 := i_ne h39
                try have w60 := (ra_102 hV (k := l4.toNatClampNeg) (by omega)).2
                have hV44 : zV (ma_u m 94 0 (4 : Int32)) := uf_94_0 hV
                exact K ((0 : Int32)) _ (zF_u hF rfl) hV44 r_W r_GW r_GU r_OW r_GG (show qRB (m 99) (m 100) (m 98) (m 101) (m 102) (m 103) (m 107) (m 108) (m 109) (m 111) (m 112) (m 113) (m 114) (m 94 55) (m 94 46) (m 94 11) (m 94 12) (m 94 62) (m 94 17) (m 94 9) (xLi aa ob ix oo) from by first | (rw [Th_n r_TH (by omega)]; exact r_RB; done) | (rw [← r_L2e, Li_h r_RB r_REl (by omega) (by omega)]; exact r_RB; done) | (rw [← r_L2e, Li_i r_RB r_REl (by omega) (by omega) (by omega) (by assumption) (fun z => by first | exact absurd (Int32.lt_iff_toInt_lt.mp z.1) (by omega) | exact absurd z.2 (by assumption))]; exact r_RB; done) | (exfalso; omega; done) | (exfalso; contradiction; done)) (show qI (xLi aa ob ix oo) from by first | (rw [Th_n r_TH (by omega)]; exact r_QI; done) | (rw [← r_L2e, Li_h r_RB r_REl (by omega) (by omega)]; exact r_QI; done) | (rw [← r_L2e, Li_i r_RB r_REl (by omega) (by omega) (by omega) (by assumption) (fun z => by first | exact absurd (Int32.lt_iff_toInt_lt.mp z.1) (by omega) | exact absurd z.2 (by assumption))]; exact r_QI; done) | (exfalso; omega; done) | (exfalso; contradiction; done)) (show qMG (m 94 58) (m 106) (m 115) (m 94 57) (m 94 56) (m 99) (m 100) (xLi aa ob ix oo) from by first | (rw [Th_n r_TH (by omega)]; exact r_MG; done) | (rw [← r_L2e, Li_h r_RB r_REl (by omega) (by omega)]; exact r_MG; done) | (rw [← r_L2e, Li_i r_RB r_REl (by omega) (by omega) (by omega) (by assumption) (fun z => by first | exact absurd (Int32.lt_iff_toInt_lt.mp z.1) (by omega) | exact absurd z.2 (by assumption))]; exact r_MG; done) | (exfalso; omega; done) | (exfalso; contradiction; done)) (show (xLi aa ob ix oo) 87 8 = (m 94 58) from by first | (rw [Th_n r_TH (by omega)]; exact r_MK; done) | (rw [← r_L2e, Li_h r_RB r_REl (by omega) (by omega)]; exact r_MK; done) | (rw [← r_L2e, Li_i r_RB r_REl (by omega) (by omega) (by omega) (by assumption) (fun z => by first | exact absurd (Int32.lt_iff_toInt_lt.mp z.1) (by omega) | exact absurd z.2 (by assumption))]; exact r_MK; done) | (exfalso; omega; done) | (exfalso; contradiction; done)) r_WTS
        · skip
          have g45 := i_nlt h19
          try have w60 := (ra_102 hV (k := l4.toNatClampNeg) (by omega)).2
          have hV46 : zV (ma_u m 94 0 (3 : Int32)) := uf_94_0 hV
          exact K ((0 : Int32)) _ (zF_u hF rfl) hV46 r_W r_GW r_GU r_OW r_GG (show qRB (m 99) (m 100) (m 98) (m 101) (m 102) (m 103) (m 107) (m 108) (m 109) (m 111) (m 112) (m 113) (m 114) (m 94 55) (m 94 46) (m 94 11) (m 94 12) (m 94 62) (m 94 17) (m 94 9) (xLi aa ob ix oo) from by first | (rw [Th_n r_TH (by omega)]; exact r_RB; done) | (rw [← r_L2e, Li_h r_RB r_REl (by omega) (by omega)]; exact r_RB; done) | (rw [← r_L2e, Li_i r_RB r_REl (by omega) (by omega) (by omega) (by assumption) (fun z => by first | exact absurd (Int32.lt_iff_toInt_lt.mp z.1) (by omega) | exact absurd z.2 (by assumption))]; exact r_RB; done) | (exfalso; omega; done) | (exfalso; contradiction; done)) (show qI (xLi aa ob ix oo) from by first | (rw [Th_n r_TH (by omega)]; exact r_QI; done) | (rw [← r_L2e, Li_h r_RB r_REl (by omega) (by omega)]; exact r_QI; done) | (rw [← r_L2e, Li_i r_RB r_REl (by omega) (by omega) (by omega) (by assumption) (fun z => by first | exact absurd (Int32.lt_iff_toInt_lt.mp z.1) (by omega) | exact absurd z.2 (by assumption))]; exact r_QI; done) | (exfalso; omega; done) | (exfalso; contradiction; done)) (show qMG (m 94 58) (m 106) (m 115) (m 94 57) (m 94 56) (m 99) (m 100) (xLi aa ob ix oo) from by first | (rw [Th_n r_TH (by omega)]; exact r_MG; done) | (rw [← r_L2e, Li_h r_RB r_REl (by omega) (by omega)]; exact r_MG; done) | (rw [← r_L2e, Li_i r_RB r_REl (by omega) (by omega) (by omega) (by assumption) (fun z => by first | exact absurd (Int32.lt_iff_toInt_lt.mp z.1) (by omega) | exact absurd z.2 (by assumption))]; exact r_MG; done) | (exfalso; omega; done) | (exfalso; contradiction; done)) (show (xLi aa ob ix oo) 87 8 = (m 94 58) from by first | (rw [Th_n r_TH (by omega)]; exact r_MK; done) | (rw [← r_L2e, Li_h r_RB r_REl (by omega) (by omega)]; exact r_MK; done) | (rw [← r_L2e, Li_i r_RB r_REl (by omega) (by omega) (by omega) (by assumption) (fun z => by first | exact absurd (Int32.lt_iff_toInt_lt.mp z.1) (by omega) | exact absurd z.2 (by assumption))]; exact r_MK; done) | (exfalso; omega; done) | (exfalso; contradiction; done)) r_WTS
set_option maxHeartbeats 8000000 in
theorem sp_247r0 {X : Nat × (Nat → Int32)} {P : Option ma_V → (Nat → Nat → Int32) → Prop} {T : Nat} {aa : Nat→Nat→Int32} {m : Nat → Nat → Int32} (ob : Int32) (ix : Int32) (oo : Int32) (hV : zV m) (hpre0 : T ≤ 512) (r_W : zW (m 94 7) (m 98) (m 101) (m 102) (m 108)) (r_GW : zGW T (m 94 55) (m 109)) (r_GU : zGU T (m 94 46) (m 99)) (r_OW : zOw (m 99) (m 103) (m 111)) (r_GG : zGG (m 94 58) (m 94 56) (m 94 57) (m 106)) (hpre6 : (m 94 10).toInt = 0 ∧ (m 94 58).toInt = 0) (hpre7 : (m 94 8).toInt = 1) (r_RB : qRB (m 99) (m 100) (m 98) (m 101) (m 102) (m 103) (m 107) (m 108) (m 109) (m 111) (m 112) (m 113) (m 114) (m 94 55) (m 94 46) (m 94 11) (m 94 12) (m 94 62) (m 94 17) (m 94 9) aa) (r_QI : qI aa) (r_MG : qMG (m 94 58) (m 106) (m 115) (m 94 57) (m 94 56) (m 99) (m 100) aa) (r_MK : aa 87 8 = (m 94 58)) (r_WTS : (m 94 45).toInt = sm (zbU (m 99)) (m 102) 3100) (KZ : ∀ v m₉, zV (zov wr_247 m m₉) → (zW (m 94 7) (m 98) (m 101) (m 102) (m₉ 108)) → (zGW T (m₉ 94 55) (m₉ 109)) → (zGU T (m 94 46) (m₉ 99)) → (zOw (m₉ 99) (m 103) (m₉ 111)) → (zGG (m 94 58) (m₉ 94 56) (m 94 57) (m₉ 106)) → (qRB (m₉ 99) (m 100) (m 98) (m 101) (m 102) (m 103) (m 107) (m₉ 108) (m₉ 109) (m₉ 111) (m 112) (m₉ 113) (m₉ 114) (m₉ 94 55) (m 94 46) (m 94 11) (m 94 12) (m 94 62) (m 94 17) (m 94 9) (xLi aa ob ix oo)) → (qI (xLi aa ob ix oo)) → (qMG (m 94 58) (m₉ 106) (m₉ 115) (m 94 57) (m₉ 94 56) (m₉ 99) (m 100) (xLi aa ob ix oo)) → ((xLi aa ob ix oo) 87 8 = (m 94 58)) → ((m₉ 94 45).toInt = sm (zbU (m₉ 99)) (m 102) 3100) → P (some (.inl v)) (zov wr_247 m m₉)) : zm X 5 109 247 0 [(0, .inr (.inr (some 94))), (1, .inl ob), (2, .inl ix), (3, .inl oo)] m P := by
  have K : ∀ v m₉, zF wr_247 m m₉ → zV m₉ → (zW (m₉ 94 7) (m₉ 98) (m₉ 101) (m₉ 102) (m₉ 108)) → (zGW T (m₉ 94 55) (m₉ 109)) → (zGU T (m₉ 94 46) (m₉ 99)) → (zOw (m₉ 99) (m₉ 103) (m₉ 111)) → (zGG (m₉ 94 58) (m₉ 94 56) (m₉ 94 57) (m₉ 106)) → (qRB (m₉ 99) (m₉ 100) (m₉ 98) (m₉ 101) (m₉ 102) (m₉ 103) (m₉ 107) (m₉ 108) (m₉ 109) (m₉ 111) (m₉ 112) (m₉ 113) (m₉ 114) (m₉ 94 55) (m₉ 94 46) (m₉ 94 11) (m₉ 94 12) (m₉ 94 62) (m₉ 94 17) (m₉ 94 9) (xLi aa ob ix oo)) → (qI (xLi aa ob ix oo)) → (qMG (m₉ 94 58) (m₉ 106) (m₉ 115) (m₉ 94 57) (m₉ 94 56) (m₉ 99) (m₉ 100) (xLi aa ob ix oo)) → ((xLi aa ob ix oo) 87 8 = (m₉ 94 58)) → ((m₉ 94 45).toInt = sm (zbU (m₉ 99)) (m₉ 102) 3100) → P (some (.inl v)) m₉ := by
    intro v m₉ hf z q0 q1 q2 q3 q4 q5 q6 q7 q8 q9
    have e := zov_eq hf
    rw [e] at z ⊢
    try rw [e] at q0
    try rw [e] at q1
    try rw [e] at q2
    try rw [e] at q3
    try rw [e] at q4
    try rw [e] at q5
    try rw [e] at q6
    try rw [e] at q7
    try rw [e] at q8
    try rw [e] at q9
    exact KZ v m₉ z q0 q1 q2 q3 q4 q5 q6 q7 q8 q9
  refine g_247_0 ob ix oo ?_
  have f1 : 0 ≤ (m 94 10).toInt ∧ (m 94 10).toInt ≤ 6 := rs_94_10 (m := m) hV
  have f2 : 0 ≤ (m 94 58).toInt ∧ (m 94 58).toInt ≤ 1 := rs_94_58 (m := m) hV
  have f3 : 0 ≤ (m 94 8).toInt ∧ (m 94 8).toInt ≤ 1 := rs_94_8 (m := m) hV
  have li4 : (0 : Int32).toInt = 0 := rfl
  refine zd (fun (h5 : (m 94 8) = (0 : Int32)) => ?_) (fun (h5 : ¬ (m 94 8) = (0 : Int32)) => ?_)
  · skip
    have g6 := i_eq h5
    exfalso; omega
  · skip
    have g7 := i_ne h5
    have b8 := i_bd ob
    have hV9 : zV (ma_u m 94 0 (0 : Int32)) := uf_94_0 hV
    refine sp_245r (aa := aa) (ob) hV9 r_W r_RB r_QI (fun v2 m1 hV_m1 p0_m1 p1_m1 p2_m1 => zmi_n ?_)
    have p0_m1 : -1 ≤ v2.toInt ∧ v2.toInt ≤ 3099 := p0_m1
    have p1_m1 : v2.toInt < 0 ∨ (m 99) v2.toNatClampNeg ≠ 0 := p1_m1
    have p2_m1 : qRe (m 99) (m 100) aa ob v2 := p2_m1
    have b10 := i_bd v2
    refine zd (fun (h11 : v2 < (0 : Int32)) => ?_) (fun (h11 : ¬ v2 < (0 : Int32)) => ?_)
    · skip
      have g12 := i_lt h11
      try have w60 := (ra_102 hV (k := l4.toNatClampNeg) (by omega)).2
      have b13 := i_bd ix
      have b14 := i_bd oo
      exact lp_247r0_53 (ob := ob) (ix := ix) (oo := oo) hV K _ _ (ix) (oo) (v2) ((0 : Int32)) rfl (zF_zov (zF_u zF_rfl rfl) ws_245_247) hV_m1 (by omega) (by omega) (by omega) (by omega) (by omega) (by omega) r_W r_GW r_GU r_OW r_GG (show (m 94 10).toInt = 0 ∧ (m 94 58).toInt = 0 from by omega) (show (m 94 8).toInt = 1 from by omega) r_RB r_QI r_MG r_MK r_WTS (show ix = ix from by first | (exact rfl) | (exfalso; omega; done) | (exfalso; contradiction; done)) (show oo = oo from by first | (exact rfl) | (exfalso; omega; done) | (exfalso; contradiction; done)) (show qRe (m 99) (m 100) aa ob v2 from by first | (exact p2_m1) | (exfalso; omega; done) | (exfalso; contradiction; done)) (show qTh aa ob oo (0 : Int32) from by first | (exact Or.inr ⟨by decide, fun w => Re_n p2_m1 (by omega) w.1⟩) | (exact Or.inl ⟨by decide, (Re_y p2_m1 (by omega)).2.2.2, Or.inl (by assumption)⟩) | (exfalso; omega; done) | (exfalso; contradiction; done))
    · skip
      have g15 := i_nlt h11
      have b16 := i_bd oo
      have li17 : (-1 : Int32).toInt = -1 := rfl
      refine zd (fun (h18 : oo = (-1 : Int32)) => ?_) (fun (h18 : ¬ oo = (-1 : Int32)) => ?_)
      · skip
        have g19 := i_eq h18
        try have w60 := (ra_102 hV (k := l4.toNatClampNeg) (by omega)).2
        have b20 := i_bd ix
        have li21 : (1 : Int32).toInt = 1 := rfl
        exact lp_247r0_53 (ob := ob) (ix := ix) (oo := oo) hV K _ _ (ix) (oo) (v2) ((1 : Int32)) rfl (zF_zov (zF_u zF_rfl rfl) ws_245_247) hV_m1 (by omega) (by omega) (by omega) (by omega) (by omega) (by omega) r_W r_GW r_GU r_OW r_GG (show (m 94 10).toInt = 0 ∧ (m 94 58).toInt = 0 from by omega) (show (m 94 8).toInt = 1 from by omega) r_RB r_QI r_MG r_MK r_WTS (show ix = ix from by first | (exact rfl) | (exfalso; omega; done) | (exfalso; contradiction; done)) (show oo = oo from by first | (exact rfl) | (exfalso; omega; done) | (exfalso; contradiction; done)) (show qRe (m 99) (m 100) aa ob v2 from by first | (exact p2_m1) | (exfalso; omega; done) | (exfalso; contradiction; done)) (show qTh aa ob oo (1 : Int32) from by first | (exact Or.inr ⟨by decide, fun w => Re_n p2_m1 (by omega) w.1⟩) | (exact Or.inl ⟨by decide, (Re_y p2_m1 (by omega)).2.2.2, Or.inl (by assumption)⟩) | (exfalso; omega; done) | (exfalso; contradiction; done))
      · skip
        have g22 := i_ne h18
        refine sp_245r (aa := aa) (oo) hV_m1 r_W r_RB r_QI (fun v4 m3 hV_m3 p0_m3 p1_m3 p2_m3 => zmi_n ?_)
        have p0_m3 : -1 ≤ v4.toInt ∧ v4.toInt ≤ 3099 := p0_m3
        have p1_m3 : v4.toInt < 0 ∨ (m 99) v4.toNatClampNeg ≠ 0 := p1_m3
        have p2_m3 : qRe (m 99) (m 100) aa oo v4 := p2_m3
        have b23 := i_bd v4
        refine zd (fun (h24 : v4 < (0 : Int32)) => ?_) (fun (h24 : ¬ v4 < (0 : Int32)) => ?_)
        · skip
          have g25 := i_lt h24
          try have w60 := (ra_102 hV (k := l4.toNatClampNeg) (by omega)).2
          have b26 := i_bd ix
          exact lp_247r0_53 (ob := ob) (ix := ix) (oo := oo) hV K _ _ (ix) (oo) (v2) ((0 : Int32)) rfl (zF_zov (zF_zov (zF_u zF_rfl rfl) ws_245_247) ws_245_247) hV_m3 (by omega) (by omega) (by omega) (by omega) (by omega) (by omega) r_W r_GW r_GU r_OW r_GG (show (m 94 10).toInt = 0 ∧ (m 94 58).toInt = 0 from by omega) (show (m 94 8).toInt = 1 from by omega) r_RB r_QI r_MG r_MK r_WTS (show ix = ix from by first | (exact rfl) | (exfalso; omega; done) | (exfalso; contradiction; done)) (show oo = oo from by first | (exact rfl) | (exfalso; omega; done) | (exfalso; contradiction; done)) (show qRe (m 99) (m 100) aa ob v2 from by first | (exact p2_m1) | (exfalso; omega; done) | (exfalso; contradiction; done)) (show qTh aa ob oo (0 : Int32) from by first | (exact Or.inl ⟨by decide, (Re_y p2_m1 (by omega)).2.2.2, Or.inr (Re_y p2_m3 (by omega)).2.2.2⟩) | (exact Or.inr ⟨by decide, fun w => w.2.elim (fun z => absurd (congrArg Int32.toInt z) (by omega)) (Re_n p2_m3 (by omega))⟩) | (exfalso; omega; done) | (exfalso; contradiction; done))
        · skip
          have g27 := i_nlt h24
          try have w60 := (ra_102 hV (k := l4.toNatClampNeg) (by omega)).2
          have b28 := i_bd ix
          have li29 : (1 : Int32).toInt = 1 := rfl
          exact lp_247r0_53 (ob := ob) (ix := ix) (oo := oo) hV K _ _ (ix) (oo) (v2) ((1 : Int32)) rfl (zF_zov (zF_zov (zF_u zF_rfl rfl) ws_245_247) ws_245_247) hV_m3 (by omega) (by omega) (by omega) (by omega) (by omega) (by omega) r_W r_GW r_GU r_OW r_GG (show (m 94 10).toInt = 0 ∧ (m 94 58).toInt = 0 from by omega) (show (m 94 8).toInt = 1 from by omega) r_RB r_QI r_MG r_MK r_WTS (show ix = ix from by first | (exact rfl) | (exfalso; omega; done) | (exfalso; contradiction; done)) (show oo = oo from by first | (exact rfl) | (exfalso; omega; done) | (exfalso; contradiction; done)) (show qRe (m 99) (m 100) aa ob v2 from by first | (exact p2_m1) | (exfalso; omega; done) | (exfalso; contradiction; done)) (show qTh aa ob oo (1 : Int32) from by first | (exact Or.inl ⟨by decide, (Re_y p2_m1 (by omega)).2.2.2, Or.inr (Re_y p2_m3 (by omega)).2.2.2⟩) | (exact Or.inr ⟨by decide, fun w => w.2.elim (fun z => absurd (congrArg Int32.toInt z) (by omega)) (Re_n p2_m3 (by omega))⟩) | (exfalso; omega; done) | (exfalso; contradiction; done))

/-! from 95.l11 -/
/-! the reference where it sweeps (written by wip/tools/gen20r.py) -/
set_option maxHeartbeats 8000000 in
theorem sp_237r0 {X : Nat × (Nat → Int32)} {P : Option ma_V → (Nat → Nat → Int32) → Prop} {T : Nat} {aa : Nat→Nat→Int32} {m : Nat → Nat → Int32} (nz : Int32) (hV : zV m) (hpre0 : T ≤ 512) (r_W : zW (m 94 7) (m 98) (m 101) (m 102) (m 108)) (r_GW : zGW T (m 94 55) (m 109)) (r_GU : zGU T (m 94 46) (m 99)) (r_OW : zOw (m 99) (m 103) (m 111)) (r_GG : zGG (m 94 58) (m 94 56) (m 94 57) (m 106)) (hpre6 : (m 94 10).toInt = 0 ∧ (m 94 58).toInt = 0) (r_RB : qRB (m 99) (m 100) (m 98) (m 101) (m 102) (m 103) (m 107) (m 108) (m 109) (m 111) (m 112) (m 113) (m 114) (m 94 55) (m 94 46) (m 94 11) (m 94 12) (m 94 62) (m 94 17) (m 94 9) aa) (r_QI : qI aa) (r_MG : qMG (m 94 58) (m 106) (m 115) (m 94 57) (m 94 56) (m 99) (m 100) aa) (r_MK : aa 87 8 = (m 94 58)) (r_WTS : (m 94 45).toInt = sm (zbU (m 99)) (m 102) 3100) (KZ : ∀ v m₉, zV (zov wr_237 m m₉) → (zGW T (m₉ 94 55) (m₉ 109)) → (zGU T (m 94 46) (m₉ 99)) → (zOw (m₉ 99) (m 103) (m₉ 111)) → (zGG (m 94 58) (m 94 56) (m 94 57) (m 106)) → (-1 ≤ v.toInt ∧ v.toInt ≤ 1500) → (qRB (m₉ 99) (m 100) (m 98) (m 101) (m 102) (m 103) (m 107) (m 108) (m₉ 109) (m₉ 111) (m 112) (m₉ 113) (m₉ 114) (m₉ 94 55) (m 94 46) (m 94 11) (m 94 12) (m 94 62) (m 94 17) (m 94 9) (zRs aa nz.toInt)) → (qI (zRs aa nz.toInt)) → (qMG (m 94 58) (m 106) (m 115) (m 94 57) (m 94 56) (m₉ 99) (m 100) (zRs aa nz.toInt)) → ((zRs aa nz.toInt) 87 8 = (m 94 58)) → ((m₉ 94 45).toInt = sm (zbU (m₉ 99)) (m 102) 3100) → (qEq v.toInt (zRp aa nz.toInt)) → P (some (.inl v)) (zov wr_237 m m₉)) : zm X 5 108 237 0 [(0, .inr (.inr (some 94))), (1, .inl nz)] m P := by
  have K : ∀ v m₉, zF wr_237 m m₉ → zV m₉ → (zGW T (m₉ 94 55) (m₉ 109)) → (zGU T (m₉ 94 46) (m₉ 99)) → (zOw (m₉ 99) (m₉ 103) (m₉ 111)) → (zGG (m₉ 94 58) (m₉ 94 56) (m₉ 94 57) (m₉ 106)) → (-1 ≤ v.toInt ∧ v.toInt ≤ 1500) → (qRB (m₉ 99) (m₉ 100) (m₉ 98) (m₉ 101) (m₉ 102) (m₉ 103) (m₉ 107) (m₉ 108) (m₉ 109) (m₉ 111) (m₉ 112) (m₉ 113) (m₉ 114) (m₉ 94 55) (m₉ 94 46) (m₉ 94 11) (m₉ 94 12) (m₉ 94 62) (m₉ 94 17) (m₉ 94 9) (zRs aa nz.toInt)) → (qI (zRs aa nz.toInt)) → (qMG (m₉ 94 58) (m₉ 106) (m₉ 115) (m₉ 94 57) (m₉ 94 56) (m₉ 99) (m₉ 100) (zRs aa nz.toInt)) → ((zRs aa nz.toInt) 87 8 = (m₉ 94 58)) → ((m₉ 94 45).toInt = sm (zbU (m₉ 99)) (m₉ 102) 3100) → (qEq v.toInt (zRp aa nz.toInt)) → P (some (.inl v)) m₉ := by
    intro v m₉ hf z q0 q1 q2 q3 q4 q5 q6 q7 q8 q9 q10
    have e := zov_eq hf
    rw [e] at z ⊢
    try rw [e] at q0
    try rw [e] at q1
    try rw [e] at q2
    try rw [e] at q3
    try rw [e] at q4
    try rw [e] at q5
    try rw [e] at q6
    try rw [e] at q7
    try rw [e] at q8
    try rw [e] at q9
    try rw [e] at q10
    exact KZ v m₉ z q0 q1 q2 q3 q4 q5 q6 q7 q8 q9 q10
  refine g_237_0 nz ?_
  have f1 : 0 ≤ (m 94 10).toInt ∧ (m 94 10).toInt ≤ 6 := rs_94_10 (m := m) hV
  have f2 : 0 ≤ (m 94 58).toInt ∧ (m 94 58).toInt ≤ 1 := rs_94_58 (m := m) hV
  have b3 := i_bd nz
  refine sp_224r (aa := aa) (nz) hV r_RB r_QI r_OW (fun v2 m1 hV_m1 p0_m1 p1_m1 => zmi_n ?_)
  have p0_m1 : -1 ≤ v2.toInt ∧ v2.toInt ≤ 1500 := p0_m1
  have p1_m1 : qEq v2.toInt (aFt aa nz.toInt) := p1_m1
  have b4 := i_bd v2
  have li5 : (0 : Int32).toInt = 0 := rfl
  refine zd (fun (h6 : v2 < (0 : Int32)) => ?_) (fun (h6 : ¬ v2 < (0 : Int32)) => ?_)
  · skip
    have g7 := i_lt h6
    refine sp_187rn (aa := aa)  hV_m1 (by omega) r_W r_GW r_GU r_OW (show (m 94 10).toInt ≠ 4 from by omega) r_RB r_QI r_WTS (fun v4 m3 hV_m3 p0_m3 p1_m3 p2_m3 p3_m3 p4_m3 p5_m3 => zmi_n ?_)
    have p0_m3 : zGW T (m3 94 55) (m3 109) := p0_m3
    have p1_m3 : zGU T (m 94 46) (m3 99) := p1_m3
    have p2_m3 : zOw (m3 99) (m 103) (m3 111) := p2_m3
    have p3_m3 : qRB (m3 99) (m 100) (m 98) (m 101) (m 102) (m 103) (m 107) (m 108) (m3 109) (m3 111) (m 112) (m3 113) (m3 114) (m3 94 55) (m 94 46) (m 94 11) (m 94 12) (m 94 62) (m 94 17) (m 94 9) (aSw aa) := p3_m3
    have p4_m3 : qI (aSw aa) := p4_m3
    have p5_m3 : (m3 94 45).toInt = sm (zbU (m3 99)) (m 102) 3100 := p5_m3
    refine sp_224r (aa := (aSw aa)) (nz) hV_m3 p3_m3 p4_m3 p2_m3 (fun v6 m5 hV_m5 p0_m5 p1_m5 => zmi_n ?_)
    have p0_m5 : -1 ≤ v6.toInt ∧ v6.toInt ≤ 1500 := p0_m5
    have p1_m5 : qEq v6.toInt (aFt (aSw aa) nz.toInt) := p1_m5
    have b8 := i_bd v6
    exact K (v6) _ (zF_zov (zF_zov (zF_zov zF_rfl ws_224_237) ws_187_237) ws_224_237) hV_m5 p0_m3 p1_m3 p2_m3 r_GG (show -1 ≤ v6.toInt ∧ v6.toInt ≤ 1500 from by omega) (show qRB (m3 99) (m 100) (m 98) (m 101) (m 102) (m 103) (m 107) (m 108) (m3 109) (m3 111) (m 112) (m3 113) (m3 114) (m3 94 55) (m 94 46) (m 94 11) (m 94 12) (m 94 62) (m 94 17) (m 94 9) (zRs aa nz.toInt) from by first | (rw [(zRs_2 (show aFt aa nz.toInt = -1 from by rw [← qE p1_m1]; omega))]; exact p3_m3; done) | (exfalso; omega; done) | (exfalso; contradiction; done)) (show qI (zRs aa nz.toInt) from by first | (rw [(zRs_2 (show aFt aa nz.toInt = -1 from by rw [← qE p1_m1]; omega))]; exact p4_m3; done) | (exfalso; omega; done) | (exfalso; contradiction; done)) (show qMG (m 94 58) (m 106) (m 115) (m 94 57) (m 94 56) (m3 99) (m 100) (zRs aa nz.toInt) from by first | (exact fun z => absurd (by omega) z) | (exfalso; omega; done) | (exfalso; contradiction; done)) (show (zRs aa nz.toInt) 87 8 = (m 94 58) from by first | (rw [zRs_87]; exact r_MK; done) | (exfalso; omega; done) | (exfalso; contradiction; done)) p5_m3 (show qEq v6.toInt (zRp aa nz.toInt) from by first | (rw [zRp, (zRs_2 (show aFt aa nz.toInt = -1 from by rw [← qE p1_m1]; omega))]; exact p1_m5; done) | (exfalso; omega; done) | (exfalso; contradiction; done))
  · skip
    have g9 := i_nlt h6
    exact K (v2) _ (zF_zov zF_rfl ws_224_237) hV_m1 r_GW r_GU r_OW r_GG (show -1 ≤ v2.toInt ∧ v2.toInt ≤ 1500 from by omega) (show qRB (m 99) (m 100) (m 98) (m 101) (m 102) (m 103) (m 107) (m 108) (m 109) (m 111) (m 112) (m 113) (m 114) (m 94 55) (m 94 46) (m 94 11) (m 94 12) (m 94 62) (m 94 17) (m 94 9) (zRs aa nz.toInt) from by first | (rw [(zRs_1 (show aFt aa nz.toInt ≠ -1 from by rw [← qE p1_m1]; omega))]; exact r_RB; done) | (exfalso; omega; done) | (exfalso; contradiction; done)) (show qI (zRs aa nz.toInt) from by first | (rw [(zRs_1 (show aFt aa nz.toInt ≠ -1 from by rw [← qE p1_m1]; omega))]; exact r_QI; done) | (exfalso; omega; done) | (exfalso; contradiction; done)) (show qMG (m 94 58) (m 106) (m 115) (m 94 57) (m 94 56) (m 99) (m 100) (zRs aa nz.toInt) from by first | (rw [(zRs_1 (show aFt aa nz.toInt ≠ -1 from by rw [← qE p1_m1]; omega))]; exact r_MG; done) | (exfalso; omega; done) | (exfalso; contradiction; done)) (show (zRs aa nz.toInt) 87 8 = (m 94 58) from by first | (rw [zRs_87]; exact r_MK; done) | (exfalso; omega; done) | (exfalso; contradiction; done)) r_WTS (show qEq v2.toInt (zRp aa nz.toInt) from by first | (rw [zRp, (zRs_1 (show aFt aa nz.toInt ≠ -1 from by rw [← qE p1_m1]; omega))]; exact p1_m1; done) | (exfalso; omega; done) | (exfalso; contradiction; done))
set_option maxHeartbeats 8000000 in
theorem sp_184r0 {X : Nat × (Nat → Int32)} {P : Option ma_V → (Nat → Nat → Int32) → Prop} {T : Nat} {aa : Nat→Nat→Int32} {m : Nat → Nat → Int32} (nz : Int32) (hV : zV m) (hpre0 : T ≤ 512) (r_W : zW (m 94 7) (m 98) (m 101) (m 102) (m 108)) (r_GW : zGW T (m 94 55) (m 109)) (r_GU : zGU T (m 94 46) (m 99)) (r_OW : zOw (m 99) (m 103) (m 111)) (r_GG : zGG (m 94 58) (m 94 56) (m 94 57) (m 106)) (hpre6 : (m 94 10).toInt = 0 ∧ (m 94 58).toInt = 0) (r_RB : qRB (m 99) (m 100) (m 98) (m 101) (m 102) (m 103) (m 107) (m 108) (m 109) (m 111) (m 112) (m 113) (m 114) (m 94 55) (m 94 46) (m 94 11) (m 94 12) (m 94 62) (m 94 17) (m 94 9) aa) (r_QI : qI aa) (r_MG : qMG (m 94 58) (m 106) (m 115) (m 94 57) (m 94 56) (m 99) (m 100) aa) (r_MK : aa 87 8 = (m 94 58)) (r_WTS : (m 94 45).toInt = sm (zbU (m 99)) (m 102) 3100) (KZ : ∀ v m₉, zV (zov wr_184 m m₉) → (zGW T (m₉ 94 55) (m₉ 109)) → (zGU T (m 94 46) (m₉ 99)) → (zOw (m₉ 99) (m₉ 103) (m₉ 111)) → (zGG (m₉ 94 58) (m₉ 94 56) (m₉ 94 57) (m₉ 106)) → (-1 ≤ v.toInt ∧ v.toInt ≤ 1500) → (qRB (m₉ 99) (m 100) (m 98) (m 101) (m 102) (m₉ 103) (m 107) (m 108) (m₉ 109) (m₉ 111) (m 112) (m₉ 113) (m₉ 114) (m₉ 94 55) (m 94 46) (m 94 11) (m 94 12) (m 94 62) (m 94 17) (m 94 9) (zRs aa nz.toInt)) → (qI (zRs aa nz.toInt)) → (qMG (m₉ 94 58) (m₉ 106) (m₉ 115) (m₉ 94 57) (m₉ 94 56) (m₉ 99) (m 100) (zRs aa nz.toInt)) → ((zRs aa nz.toInt) 87 8 = (m₉ 94 58)) → ((m₉ 94 45).toInt = sm (zbU (m₉ 99)) (m 102) 3100) → (qEq v.toInt (zRp aa nz.toInt)) → ((m₉ 94 58).toInt = 0) → P (some (.inl v)) (zov wr_184 m m₉)) : zm X 8 175 184 0 [(0, .inr (.inr (some 94))), (1, .inl nz)] m P := by
  have K : ∀ v m₉, zF wr_184 m m₉ → zV m₉ → (zGW T (m₉ 94 55) (m₉ 109)) → (zGU T (m₉ 94 46) (m₉ 99)) → (zOw (m₉ 99) (m₉ 103) (m₉ 111)) → (zGG (m₉ 94 58) (m₉ 94 56) (m₉ 94 57) (m₉ 106)) → (-1 ≤ v.toInt ∧ v.toInt ≤ 1500) → (qRB (m₉ 99) (m₉ 100) (m₉ 98) (m₉ 101) (m₉ 102) (m₉ 103) (m₉ 107) (m₉ 108) (m₉ 109) (m₉ 111) (m₉ 112) (m₉ 113) (m₉ 114) (m₉ 94 55) (m₉ 94 46) (m₉ 94 11) (m₉ 94 12) (m₉ 94 62) (m₉ 94 17) (m₉ 94 9) (zRs aa nz.toInt)) → (qI (zRs aa nz.toInt)) → (qMG (m₉ 94 58) (m₉ 106) (m₉ 115) (m₉ 94 57) (m₉ 94 56) (m₉ 99) (m₉ 100) (zRs aa nz.toInt)) → ((zRs aa nz.toInt) 87 8 = (m₉ 94 58)) → ((m₉ 94 45).toInt = sm (zbU (m₉ 99)) (m₉ 102) 3100) → (qEq v.toInt (zRp aa nz.toInt)) → ((m₉ 94 58).toInt = 0) → P (some (.inl v)) m₉ := by
    intro v m₉ hf z q0 q1 q2 q3 q4 q5 q6 q7 q8 q9 q10 q11
    have e := zov_eq hf
    rw [e] at z ⊢
    try rw [e] at q0
    try rw [e] at q1
    try rw [e] at q2
    try rw [e] at q3
    try rw [e] at q4
    try rw [e] at q5
    try rw [e] at q6
    try rw [e] at q7
    try rw [e] at q8
    try rw [e] at q9
    try rw [e] at q10
    try rw [e] at q11
    exact KZ v m₉ z q0 q1 q2 q3 q4 q5 q6 q7 q8 q9 q10 q11
  refine g_184_0 nz ?_
  have f1 : 0 ≤ (m 94 10).toInt ∧ (m 94 10).toInt ≤ 6 := rs_94_10 (m := m) hV
  have f2 : 0 ≤ (m 94 58).toInt ∧ (m 94 58).toInt ≤ 1 := rs_94_58 (m := m) hV
  have li3 : (1 : Int32).toInt = 1 := rfl
  refine zd (fun (h4 : (m 94 10) = (1 : Int32)) => ?_) (fun (h4 : ¬ (m 94 10) = (1 : Int32)) => ?_)
  · skip
    have g5 := i_eq h4
    exfalso; omega
  · skip
    have g6 := i_ne h4
    have li7 : (2 : Int32).toInt = 2 := rfl
    refine zd (fun (h8 : (m 94 10) = (2 : Int32)) => ?_) (fun (h8 : ¬ (m 94 10) = (2 : Int32)) => ?_)
    · skip
      have g9 := i_eq h8
      exfalso; omega
    · skip
      have g10 := i_ne h8
      have li11 : (3 : Int32).toInt = 3 := rfl
      refine zd (fun (h12 : (m 94 10) = (3 : Int32)) => ?_) (fun (h12 : ¬ (m 94 10) = (3 : Int32)) => ?_)
      · skip
        have g13 := i_eq h12
        exfalso; omega
      · skip
        have g14 := i_ne h12
        have li15 : (4 : Int32).toInt = 4 := rfl
        refine zd (fun (h16 : (m 94 10) = (4 : Int32)) => ?_) (fun (h16 : ¬ (m 94 10) = (4 : Int32)) => ?_)
        · skip
          have g17 := i_eq h16
          exfalso; omega
        · skip
          have g18 := i_ne h16
          have li19 : (5 : Int32).toInt = 5 := rfl
          refine zd (fun (h20 : (m 94 10) = (5 : Int32)) => ?_) (fun (h20 : ¬ (m 94 10) = (5 : Int32)) => ?_)
          · skip
            have g21 := i_eq h20
            exfalso; omega
          · skip
            have g22 := i_ne h20
            have li23 : (6 : Int32).toInt = 6 := rfl
            refine zd (fun (h24 : (m 94 10) = (6 : Int32)) => ?_) (fun (h24 : ¬ (m 94 10) = (6 : Int32)) => ?_)
            · skip
              have g25 := i_eq h24
              exfalso; omega
            · skip
              have g26 := i_ne h24
              have b27 := i_bd nz
              refine sp_237r0 (aa := aa) (nz) hV (by omega) r_W r_GW r_GU r_OW r_GG (show (m 94 10).toInt = 0 ∧ (m 94 58).toInt = 0 from by omega) r_RB r_QI r_MG r_MK r_WTS (fun v18 m17 hV_m17 p0_m17 p1_m17 p2_m17 p3_m17 p4_m17 p5_m17 p6_m17 p7_m17 p8_m17 p9_m17 p10_m17 => zmi_n ?_)
              have p0_m17 : zGW T (m17 94 55) (m17 109) := p0_m17
              have p1_m17 : zGU T (m 94 46) (m17 99) := p1_m17
              have p2_m17 : zOw (m17 99) (m 103) (m17 111) := p2_m17
              have p3_m17 : zGG (m 94 58) (m 94 56) (m 94 57) (m 106) := p3_m17
              have p4_m17 : -1 ≤ v18.toInt ∧ v18.toInt ≤ 1500 := p4_m17
              have p5_m17 : qRB (m17 99) (m 100) (m 98) (m 101) (m 102) (m 103) (m 107) (m 108) (m17 109) (m17 111) (m 112) (m17 113) (m17 114) (m17 94 55) (m 94 46) (m 94 11) (m 94 12) (m 94 62) (m 94 17) (m 94 9) (zRs aa nz.toInt) := p5_m17
              have p6_m17 : qI (zRs aa nz.toInt) := p6_m17
              have p7_m17 : qMG (m 94 58) (m 106) (m 115) (m 94 57) (m 94 56) (m17 99) (m 100) (zRs aa nz.toInt) := p7_m17
              have p8_m17 : (zRs aa nz.toInt) 87 8 = (m 94 58) := p8_m17
              have p9_m17 : (m17 94 45).toInt = sm (zbU (m17 99)) (m 102) 3100 := p9_m17
              have p10_m17 : qEq v18.toInt (zRp aa nz.toInt) := p10_m17
              have b28 := i_bd v18
              exact K (v18) _ (zF_zov zF_rfl ws_237_184) hV_m17 p0_m17 p1_m17 p2_m17 p3_m17 (show -1 ≤ v18.toInt ∧ v18.toInt ≤ 1500 from by omega) p5_m17 p6_m17 p7_m17 p8_m17 p9_m17 p10_m17 (show (m 94 58).toInt = 0 from by omega)
set_option maxHeartbeats 8000000 in
theorem sp_256r0 {X : Nat × (Nat → Int32)} {P : Option ma_V → (Nat → Nat → Int32) → Prop} {T : Nat} {aa : Nat→Nat→Int32} {m : Nat → Nat → Int32}  (hV : zV m) (hpre0 : T ≤ 512) (r_W : zW (m 94 7) (m 98) (m 101) (m 102) (m 108)) (r_GW : zGW T (m 94 55) (m 109)) (r_GU : zGU T (m 94 46) (m 99)) (r_OW : zOw (m 99) (m 103) (m 111)) (r_GG : zGG (m 94 58) (m 94 56) (m 94 57) (m 106)) (hpre6 : (m 94 10).toInt = 0 ∧ (m 94 58).toInt = 0) (hpre7 : (m 94 8).toInt = 1) (r_RB : qRB (m 99) (m 100) (m 98) (m 101) (m 102) (m 103) (m 107) (m 108) (m 109) (m 111) (m 112) (m 113) (m 114) (m 94 55) (m 94 46) (m 94 11) (m 94 12) (m 94 62) (m 94 17) (m 94 9) aa) (r_QI : qI aa) (r_MG : qMG (m 94 58) (m 106) (m 115) (m 94 57) (m 94 56) (m 99) (m 100) aa) (r_MK : aa 87 8 = (m 94 58)) (r_WTS : (m 94 45).toInt = sm (zbU (m 99)) (m 102) 3100) (KZ : ∀ v m₉, zV (zov wr_256 m m₉) → (zW (m 94 7) (m 98) (m 101) (m 102) (m 108)) → (zGW T (m₉ 94 55) (m₉ 109)) → (zGU T (m 94 46) (m₉ 99)) → (zOw (m₉ 99) (m₉ 103) (m₉ 111)) → (zGG (m₉ 94 58) (m₉ 94 56) (m₉ 94 57) (m₉ 106)) → (qRB (m₉ 99) (m 100) (m 98) (m 101) (m 102) (m₉ 103) (m 107) (m 108) (m₉ 109) (m₉ 111) (m 112) (m₉ 113) (m₉ 114) (m₉ 94 55) (m 94 46) (m 94 11) (m 94 12) (m 94 62) (m 94 17) (m 94 9) (aSw aa)) → (qI (aSw aa)) → (qMG (m₉ 94 58) (m₉ 106) (m₉ 115) (m₉ 94 57) (m₉ 94 56) (m₉ 99) (m 100) (aSw aa)) → ((aSw aa) 87 8 = (m₉ 94 58)) → ((m₉ 94 45).toInt = sm (zbU (m₉ 99)) (m 102) 3100) → ((m₉ 94 58).toInt = 0) → P (some (.inl v)) (zov wr_256 m m₉)) : zm X 7 152 256 0 [(0, .inr (.inr (some 94)))] m P := by
  have K : ∀ v m₉, zF wr_256 m m₉ → zV m₉ → (zW (m₉ 94 7) (m₉ 98) (m₉ 101) (m₉ 102) (m₉ 108)) → (zGW T (m₉ 94 55) (m₉ 109)) → (zGU T (m₉ 94 46) (m₉ 99)) → (zOw (m₉ 99) (m₉ 103) (m₉ 111)) → (zGG (m₉ 94 58) (m₉ 94 56) (m₉ 94 57) (m₉ 106)) → (qRB (m₉ 99) (m₉ 100) (m₉ 98) (m₉ 101) (m₉ 102) (m₉ 103) (m₉ 107) (m₉ 108) (m₉ 109) (m₉ 111) (m₉ 112) (m₉ 113) (m₉ 114) (m₉ 94 55) (m₉ 94 46) (m₉ 94 11) (m₉ 94 12) (m₉ 94 62) (m₉ 94 17) (m₉ 94 9) (aSw aa)) → (qI (aSw aa)) → (qMG (m₉ 94 58) (m₉ 106) (m₉ 115) (m₉ 94 57) (m₉ 94 56) (m₉ 99) (m₉ 100) (aSw aa)) → ((aSw aa) 87 8 = (m₉ 94 58)) → ((m₉ 94 45).toInt = sm (zbU (m₉ 99)) (m₉ 102) 3100) → ((m₉ 94 58).toInt = 0) → P (some (.inl v)) m₉ := by
    intro v m₉ hf z q0 q1 q2 q3 q4 q5 q6 q7 q8 q9 q10
    have e := zov_eq hf
    rw [e] at z ⊢
    try rw [e] at q0
    try rw [e] at q1
    try rw [e] at q2
    try rw [e] at q3
    try rw [e] at q4
    try rw [e] at q5
    try rw [e] at q6
    try rw [e] at q7
    try rw [e] at q8
    try rw [e] at q9
    try rw [e] at q10
    exact KZ v m₉ z q0 q1 q2 q3 q4 q5 q6 q7 q8 q9 q10
  refine g_256_0  ?_
  have f1 : 0 ≤ (m 94 10).toInt ∧ (m 94 10).toInt ≤ 6 := rs_94_10 (m := m) hV
  have f2 : 0 ≤ (m 94 58).toInt ∧ (m 94 58).toInt ≤ 1 := rs_94_58 (m := m) hV
  have f3 : 0 ≤ (m 94 8).toInt ∧ (m 94 8).toInt ≤ 1 := rs_94_8 (m := m) hV
  have li4 : (0 : Int32).toInt = 0 := rfl
  refine zd (fun (h5 : (m 94 8) = (0 : Int32)) => ?_) (fun (h5 : ¬ (m 94 8) = (0 : Int32)) => ?_)
  · skip
    have g6 := i_eq h5
    exfalso; omega
  · skip
    have g7 := i_ne h5
    have li8 : (1 : Int32).toInt = 1 := rfl
    refine zd (fun (h9 : (m 94 10) = (1 : Int32)) => ?_) (fun (h9 : ¬ (m 94 10) = (1 : Int32)) => ?_)
    · skip
      have g10 := i_eq h9
      exfalso; omega
    · skip
      have g11 := i_ne h9
      have li12 : (2 : Int32).toInt = 2 := rfl
      refine zd (fun (h13 : (m 94 10) = (2 : Int32)) => ?_) (fun (h13 : ¬ (m 94 10) = (2 : Int32)) => ?_)
      · skip
        have g14 := i_eq h13
        exfalso; omega
      · skip
        have g15 := i_ne h13
        have li16 : (3 : Int32).toInt = 3 := rfl
        refine zd (fun (h17 : (m 94 10) = (3 : Int32)) => ?_) (fun (h17 : ¬ (m 94 10) = (3 : Int32)) => ?_)
        · skip
          have g18 := i_eq h17
          exfalso; omega
        · skip
          have g19 := i_ne h17
          have li20 : (4 : Int32).toInt = 4 := rfl
          refine zd (fun (h21 : (m 94 10) = (4 : Int32)) => ?_) (fun (h21 : ¬ (m 94 10) = (4 : Int32)) => ?_)
          · skip
            have g22 := i_eq h21
            exfalso; omega
          · skip
            have g23 := i_ne h21
            have li24 : (5 : Int32).toInt = 5 := rfl
            refine zd (fun (h25 : (m 94 10) = (5 : Int32)) => ?_) (fun (h25 : ¬ (m 94 10) = (5 : Int32)) => ?_)
            · skip
              have g26 := i_eq h25
              exfalso; omega
            · skip
              have g27 := i_ne h25
              have li28 : (6 : Int32).toInt = 6 := rfl
              refine zd (fun (h29 : (m 94 10) = (6 : Int32)) => ?_) (fun (h29 : ¬ (m 94 10) = (6 : Int32)) => ?_)
              · skip
                have g30 := i_eq h29
                exfalso; omega
              · skip
                have g31 := i_ne h29
                have hV32 : zV (ma_u m 94 0 (0 : Int32)) := uf_94_0 hV
                refine sp_187rn (aa := aa)  hV32 (by omega) r_W r_GW r_GU r_OW (show (m 94 10).toInt ≠ 4 from by omega) r_RB r_QI r_WTS (fun v20 m19 hV_m19 p0_m19 p1_m19 p2_m19 p3_m19 p4_m19 p5_m19 => zmi_n ?_)
                have p0_m19 : zGW T (m19 94 55) (m19 109) := p0_m19
                have p1_m19 : zGU T (m 94 46) (m19 99) := p1_m19
                have p2_m19 : zOw (m19 99) (m 103) (m19 111) := p2_m19
                have p3_m19 : qRB (m19 99) (m 100) (m 98) (m 101) (m 102) (m 103) (m 107) (m 108) (m19 109) (m19 111) (m 112) (m19 113) (m19 114) (m19 94 55) (m 94 46) (m 94 11) (m 94 12) (m 94 62) (m 94 17) (m 94 9) (aSw aa) := p3_m19
                have p4_m19 : qI (aSw aa) := p4_m19
                have p5_m19 : (m19 94 45).toInt = sm (zbU (m19 99)) (m 102) 3100 := p5_m19
                have b33 := i_bd v20
                exact K (v20) _ (zF_zov (zF_u zF_rfl rfl) ws_187_256) hV_m19 r_W p0_m19 p1_m19 p2_m19 r_GG p3_m19 p4_m19 (show qMG (m 94 58) (m 106) (m 115) (m 94 57) (m 94 56) (m19 99) (m 100) (aSw aa) from by first | (exact fun z => absurd (by omega) z) | (exfalso; omega; done) | (exfalso; contradiction; done)) (show (aSw aa) 87 8 = (m 94 58) from by first | (rw [sw_87]; exact r_MK; done) | (exfalso; omega; done) | (exfalso; contradiction; done)) p5_m19 (show (m 94 58).toInt = 0 from by omega)

