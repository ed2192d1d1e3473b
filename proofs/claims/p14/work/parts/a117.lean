/-! from 95.h25 -/
/-! the reference by numbers (written by wip/tools/gen18r.py) -/
section QX
variable {aa a b : Nat → Nat → Int32} {us nr kr kd ws at₉ ho wd wi ow rt wk wl kp co gr : Nat → Int32} {wm nu ro fo le ra pi y x z i j ga gm r s v mk o t : Int32} {n k u : Nat} {m m2 : Nat → Nat → Int32}
/-- what is reached is among those to come -/
theorem MS_y (hG : qMG mk co gr ga gm us nr a) (hI : qI a) (h : zRq a x) (e : y = x) : qMS mk a y := fun z h7 => Or.inr (by
  rw [e]
  have q := (hG z).2.2 h7
  exact zM_rch q.1 q.2 ((Rq_ch hI).mp h).2.2.2)
theorem MS_n (e : y = -1) : qMS mk a y := fun _ _ => Or.inl (by rw [e]; decide)
/-- the slot that was asked for, or none -/
def qAs (us nr : Nat → Int32) (a : Nat → Nat → Int32) (o s : Int32) : Prop := (o = -1 ∧ s = -1) ∨ (0 ≤ s.toInt ∧ s.toInt ≤ 3099 ∧ us s.toNatClampNeg ≠ 0 ∧ nr s.toNatClampNeg = o ∧ zRq a o)
theorem As_n (h : o = -1) : qAs us nr a o (-1) := Or.inl ⟨h, rfl⟩
theorem As_y (h : qRe us nr a o s) (h0 : 0 ≤ s.toInt) : qAs us nr a o s := by
  have q := Re_y h h0
  exact Or.inr ⟨h0, q.1, q.2.1, q.2.2.1, q.2.2.2⟩
theorem As_c (h : qAs us nr a o s) : o = -1 ∨ zRq a o := h.imp (fun w => w.1) (fun w => w.2.2.2.2)
theorem As_u (h : qAs us nr a o s) : qU us s := h.elim (fun w => Or.inl (by rw [w.2]; decide)) (fun w => Or.inr ⟨by omega, w.2.2.1⟩)
theorem As_o (h : qAs us nr a o s) : qNo nr s = o := h.elim (fun w => by rw [w.2, w.1]; exact No_n (by decide)) (fun w => by rw [No_y w.1]; exact w.2.2.2.1)
theorem As_s (h : qAs us nr a o s) (hG : qMG mk co gr ga gm us nr a) (hI : qI a) : qMS mk a (qNo nr s) := by
  rw [As_o h]
  rcases h with w | w
  · exact MS_n w.1
  · exact MS_y hG hI w.2.2.2.2 rfl
theorem As_m (h1 : qR1 us nr ws at₉ ho a) (h : qAs us nr a o s) : aNm a o = qNo nr s := by
  rw [← As_o h]
  exact Nm_no h1 (As_u h)
theorem Ro_y (hi : 0 ≤ i.toInt) (h2 : i.toInt ≤ 15) (h : qAs us nr a o s) : xRo a i o = aRt a i (qNo nr s) := by
  rw [As_o h]
  exact qIf_y ⟨⟨hi, h2⟩, As_c h⟩
theorem We_y (h1 : qR1 us nr ws at₉ ho a) (hi : 0 ≤ i.toInt) (h2 : i.toInt ≤ 15) (h : qAs us nr a o s) : xWe a i o = ma_u a 73 i.toNatClampNeg (qNo nr s) := by
  rw [← As_m h1 h]
  exact qIf_y ⟨⟨hi, h2⟩, As_c h⟩
theorem Sl_n {P : Prop} (h : i.toInt < 0 ∨ 16 ≤ i.toInt) : ¬ (zSl i ∧ P) := fun w => by
  have w1 := w.1.1
  have w2 := w.1.2
  omega
theorem Sl_r (h : ¬ o = -1) (hn : ¬ zRq a o) : ¬ (zSl i ∧ (o = -1 ∨ zRq a o)) := fun w => w.2.elim h hn
/-- a hold -/
theorem MI_ho (h : qMI a) (hm : a 87 7 ≠ 1 → zMk a n) : qMI (ma_u a 133 n x) := by
  refine MI_cg h (un (by decide)) (Ed_u (by decide)) (un (by decide)) (by rw [un (by decide)]) (fun h7 u hu => ?_)
  by_cases z : u = n
  · rw [z]
    exact Or.inr (hm h7)
  · refine Or.inl ?_
    unfold zRt zRl zWl zHl xAl at hu ⊢
    rw [un (n := 126) (by decide), un (n := 72) (by decide), un (n := 74) (by decide), un (n := 69) (by decide), xu_o (fun w => z w.2)] at hu
    exact hu
theorem MI_u (h : qMI a) (hn : n = 73 ∨ n = 134) : qMI (ma_u a n k x) := by
  refine MI_cg h (un (by omega)) (Ed_u (by omega)) (un (by omega)) (by rw [un (by omega)]) (fun h7 u hu => Or.inl ?_)
  unfold zRt zRl zWl zHl xAl at hu ⊢
  rw [un (n := 126) (by omega), un (n := 72) (by omega), un (n := 74) (by omega), un (n := 69) (by omega), un (n := 133) (by omega)] at hu
  exact hu
theorem MG_u (h : qMG mk co gr ga gm us nr a) (hn : n = 73 ∨ n = 134) : qMG mk co gr ga gm us nr (ma_u a n k x) := fun z => ⟨MQ_u (h z).1 (by omega), MI_u (h z).2 hn⟩
theorem MG_ho (h : qMG mk co gr ga gm us nr a) (hI : qI a) (hq : zRq a o) : qMG mk co gr ga gm us nr (ma_u a 133 o.toNatClampNeg x) := fun z => ⟨MQ_u (h z).1 (by decide), MI_ho (h z).2 (fun h7 => by
  have q := (h z).2.2 h7
  exact zM_rch q.1 q.2 ((Rq_ch hI).mp hq).2.2.2)⟩
theorem Ho_y (hR : qRB us nr kr kd ws at₉ ho wd wi ow rt wk wl wm nu ro fo le ra pi a) (h : qRe us nr a o v) (hv : 0 ≤ v.toInt) (hb : ¬ y = 0 ∨ ¬ ho v.toNatClampNeg = 0) (e : x = ho v.toNatClampNeg + (if y = 0 then -1 else 1)) : xHo a o y = ma_u a 133 (nr v.toNatClampNeg).toNatClampNeg x := by
  have q := Re_y h hv
  have t := (hR.1.1 _ (tn_lt hv (by omega)) q.2.1).2.2.2.2.1
  rw [q.2.2.1] at t
  rw [q.2.2.1, e, ← t]
  rw [← t] at hb
  exact qIf_y ⟨q.2.2.2, hb⟩
theorem Wi_y (h : qRe us nr a o v) (hv : 0 ≤ v.toInt) : xWi a o = ma_u a 134 (nr v.toNatClampNeg).toNatClampNeg 1 := by
  have q := Re_y h hv
  rw [q.2.2.1]
  exact qIf_y q.2.2.2
theorem Ho_x (hR : qRB us nr kr kd ws at₉ ho wd wi ow rt wk wl wm nu ro fo le ra pi a) (h : qRe us nr a o v) (hv : 0 ≤ v.toInt) (h0 : y = 0) (h1 : ho v.toNatClampNeg = 0) : xHo a o y = a := by
  have q := Re_y h hv
  have t := (hR.1.1 _ (tn_lt hv (by omega)) q.2.1).2.2.2.2.1
  rw [q.2.2.1] at t
  exact qIf_n (fun w => w.2.elim (fun w2 => w2 h0) (fun w2 => w2 (by rw [t]; exact h1)))
/-- link -/
theorem Li_y (hR : qRB us nr kr kd ws at₉ ho wd wi ow rt wk wl wm nu ro fo le ra pi a) (h : qRe us nr a o v) (hv : 0 ≤ v.toInt) (h0 : 0 ≤ i.toInt) (h1 : i.toInt < (ws v.toNatClampNeg).toInt) (hk : kd v.toNatClampNeg = 16 ∨ (kd v.toNatClampNeg < 16 ∧ ((kr (kd v.toNatClampNeg).toNatClampNeg >>> (i &&& 31)) &&& 1) = 1)) (ht : qAs us nr a t s) : xLi a o i t = aNc (aCi a o.toNatClampNeg i (qNo nr s)) (aRef a o.toNatClampNeg i) (qNo nr s) := by
  have q := Re_y h hv
  unfold xLi
  rw [qIf_y ⟨q.2.2.2, As_c ht, (Hw_y hR h hv).mpr ⟨h0, h1⟩, (Ir_y hR h hv h0 h1).mpr hk⟩]
  unfold aLn
  rw [As_m hR.1 ht, As_o ht]
end QX
theorem sp_250r {X : Nat × (Nat → Int32)} {P : Option ma_V → (Nat → Nat → Int32) → Prop} {T : Nat} {aa : Nat→Nat→Int32} {m : Nat → Nat → Int32} (ix : Int32) (ob : Int32) (hV : zV m) (hpre0 : T ≤ 512) (r_W : zW (m 94 7) (m 98) (m 101) (m 102) (m 108)) (r_GW : zGW T (m 94 55) (m 109)) (r_GU : zGU T (m 94 46) (m 99)) (r_OW : zOw (m 99) (m 103) (m 111)) (r_GG : zGG (m 94 58) (m 94 56) (m 94 57) (m 106)) (hpre6 : (m 94 10).toInt = 5) (hpre7 : (m 94 8).toInt = 1) (r_RB : qRB (m 99) (m 100) (m 98) (m 101) (m 102) (m 103) (m 107) (m 108) (m 109) (m 111) (m 112) (m 113) (m 114) (m 94 55) (m 94 46) (m 94 11) (m 94 12) (m 94 62) (m 94 17) (m 94 9) aa) (r_QI : qI aa) (r_MG : qMG (m 94 58) (m 106) (m 115) (m 94 57) (m 94 56) (m 99) (m 100) aa) (r_MK : aa 87 8 = (m 94 58)) (r_WTS : (m 94 45).toInt = sm (zbU (m 99)) (m 102) 3100) (KZ : ∀ v m₉, zV (zov wr_250 m m₉) → (zW (m 94 7) (m 98) (m 101) (m 102) (m 108)) → (zGW T (m₉ 94 55) (m₉ 109)) → (zGU T (m 94 46) (m₉ 99)) → (zOw (m₉ 99) (m 103) (m₉ 111)) → (zGG (m 94 58) (m₉ 94 56) (m 94 57) (m₉ 106)) → (qRB (m₉ 99) (m 100) (m 98) (m 101) (m 102) (m 103) (m 107) (m 108) (m₉ 109) (m₉ 111) (m₉ 112) (m₉ 113) (m₉ 114) (m₉ 94 55) (m 94 46) (m 94 11) (m 94 12) (m 94 62) (m 94 17) (m 94 9) (xRo aa ix ob)) → (qI (xRo aa ix ob)) → (qMG (m 94 58) (m₉ 106) (m₉ 115) (m 94 57) (m₉ 94 56) (m₉ 99) (m 100) (xRo aa ix ob)) → ((xRo aa ix ob) 87 8 = (m 94 58)) → ((m₉ 94 45).toInt = sm (zbU (m₉ 99)) (m 102) 3100) → P (some (.inl v)) (zov wr_250 m m₉)) : zm X 5 111 250 0 [(0, .inr (.inr (some 94))), (1, .inl ix), (2, .inl ob)] m P := by
  have K : ∀ v m₉, zF wr_250 m m₉ → zV m₉ → (zW (m₉ 94 7) (m₉ 98) (m₉ 101) (m₉ 102) (m₉ 108)) → (zGW T (m₉ 94 55) (m₉ 109)) → (zGU T (m₉ 94 46) (m₉ 99)) → (zOw (m₉ 99) (m₉ 103) (m₉ 111)) → (zGG (m₉ 94 58) (m₉ 94 56) (m₉ 94 57) (m₉ 106)) → (qRB (m₉ 99) (m₉ 100) (m₉ 98) (m₉ 101) (m₉ 102) (m₉ 103) (m₉ 107) (m₉ 108) (m₉ 109) (m₉ 111) (m₉ 112) (m₉ 113) (m₉ 114) (m₉ 94 55) (m₉ 94 46) (m₉ 94 11) (m₉ 94 12) (m₉ 94 62) (m₉ 94 17) (m₉ 94 9) (xRo aa ix ob)) → (qI (xRo aa ix ob)) → (qMG (m₉ 94 58) (m₉ 106) (m₉ 115) (m₉ 94 57) (m₉ 94 56) (m₉ 99) (m₉ 100) (xRo aa ix ob)) → ((xRo aa ix ob) 87 8 = (m₉ 94 58)) → ((m₉ 94 45).toInt = sm (zbU (m₉ 99)) (m₉ 102) 3100) → P (some (.inl v)) m₉ := by
    intro v m₉ hf z q0 q1 q2 q3 q4 q5 q6 q7 q8 q9
    have e := zov_eq hf
    rw [e] at z ⊢
    try rw [e] at q0
    try rw [e] at q1
    try rw [e] at q2
    try rw [e] at q3
    try rw [e] at q4
    try rw [e] at q5
    try rw [e] at q6
    try rw [e] at q7
    try rw [e] at q8
    try rw [e] at q9
    exact KZ v m₉ z q0 q1 q2 q3 q4 q5 q6 q7 q8 q9
  refine g_250_0 ix ob ?_
  have f1 : 0 ≤ (m 94 10).toInt ∧ (m 94 10).toInt ≤ 6 := rs_94_10 (m := m) hV
  have f2 : 0 ≤ (m 94 8).toInt ∧ (m 94 8).toInt ≤ 1 := rs_94_8 (m := m) hV
  have b3 := i_bd ix
  have li4 : (0 : Int32).toInt = 0 := rfl
  refine zd (fun (h5 : ix < (0 : Int32)) => ?_) (fun (h5 : ¬ ix < (0 : Int32)) => ?_)
  · skip
    have g6 := i_lt h5
    have hV7 : zV (ma_u m 94 0 (1 : Int32)) := uf_94_0 hV
    exact K ((0 : Int32)) _ (zF_u zF_rfl rfl) hV7 r_W r_GW r_GU r_OW r_GG (show qRB (m 99) (m 100) (m 98) (m 101) (m 102) (m 103) (m 107) (m 108) (m 109) (m 111) (m 112) (m 113) (m 114) (m 94 55) (m 94 46) (m 94 11) (m 94 12) (m 94 62) (m 94 17) (m 94 9) (xRo aa ix ob) from by first | (unfold xRo; rw [qIf_n (Sl_n (Or.inl (by omega)))]; exact r_RB; done) | (unfold xRo; rw [qIf_n (Sl_n (Or.inr (by omega)))]; exact r_RB; done) | (exfalso; omega; done) | (exfalso; contradiction; done)) (show qI (xRo aa ix ob) from by first | (unfold xRo; rw [qIf_n (Sl_n (Or.inl (by omega)))]; exact r_QI; done) | (unfold xRo; rw [qIf_n (Sl_n (Or.inr (by omega)))]; exact r_QI; done) | (exfalso; omega; done) | (exfalso; contradiction; done)) (show qMG (m 94 58) (m 106) (m 115) (m 94 57) (m 94 56) (m 99) (m 100) (xRo aa ix ob) from by first | (unfold xRo; rw [qIf_n (Sl_n (Or.inl (by omega)))]; exact r_MG; done) | (unfold xRo; rw [qIf_n (Sl_n (Or.inr (by omega)))]; exact r_MG; done) | (exfalso; omega; done) | (exfalso; contradiction; done)) (show (xRo aa ix ob) 87 8 = (m 94 58) from by first | (unfold xRo; rw [qIf_n (Sl_n (Or.inl (by omega)))]; exact r_MK; done) | (unfold xRo; rw [qIf_n (Sl_n (Or.inr (by omega)))]; exact r_MK; done) | (exfalso; omega; done) | (exfalso; contradiction; done)) r_WTS
  · skip
    have g8 := i_nlt h5
    have li9 : (16 : Int32).toInt = 16 := rfl
    refine zd (fun (h10 : (16 : Int32) ≤ ix) => ?_) (fun (h10 : ¬ (16 : Int32) ≤ ix) => ?_)
    · skip
      have g11 := i_le h10
      have hV12 : zV (ma_u m 94 0 (1 : Int32)) := uf_94_0 hV
      exact K ((0 : Int32)) _ (zF_u zF_rfl rfl) hV12 r_W r_GW r_GU r_OW r_GG (show qRB (m 99) (m 100) (m 98) (m 101) (m 102) (m 103) (m 107) (m 108) (m 109) (m 111) (m 112) (m 113) (m 114) (m 94 55) (m 94 46) (m 94 11) (m 94 12) (m 94 62) (m 94 17) (m 94 9) (xRo aa ix ob) from by first | (unfold xRo; rw [qIf_n (Sl_n (Or.inl (by omega)))]; exact r_RB; done) | (unfold xRo; rw [qIf_n (Sl_n (Or.inr (by omega)))]; exact r_RB; done) | (exfalso; omega; done) | (exfalso; contradiction; done)) (show qI (xRo aa ix ob) from by first | (unfold xRo; rw [qIf_n (Sl_n (Or.inl (by omega)))]; exact r_QI; done) | (unfold xRo; rw [qIf_n (Sl_n (Or.inr (by omega)))]; exact r_QI; done) | (exfalso; omega; done) | (exfalso; contradiction; done)) (show qMG (m 94 58) (m 106) (m 115) (m 94 57) (m 94 56) (m 99) (m 100) (xRo aa ix ob) from by first | (unfold xRo; rw [qIf_n (Sl_n (Or.inl (by omega)))]; exact r_MG; done) | (unfold xRo; rw [qIf_n (Sl_n (Or.inr (by omega)))]; exact r_MG; done) | (exfalso; omega; done) | (exfalso; contradiction; done)) (show (xRo aa ix ob) 87 8 = (m 94 58) from by first | (unfold xRo; rw [qIf_n (Sl_n (Or.inl (by omega)))]; exact r_MK; done) | (unfold xRo; rw [qIf_n (Sl_n (Or.inr (by omega)))]; exact r_MK; done) | (exfalso; omega; done) | (exfalso; contradiction; done)) r_WTS
    · skip
      have g13 := i_nle h10
      refine zd (fun (h14 : (m 94 8) = (0 : Int32)) => ?_) (fun (h14 : ¬ (m 94 8) = (0 : Int32)) => ?_)
      · skip
        have g15 := i_eq h14
        exfalso; omega
      · skip
        have g16 := i_ne h14
        have b17 := i_bd ob
        have li18 : (-1 : Int32).toInt = -1 := rfl
        refine zd (fun (h19 : ob = (-1 : Int32)) => ?_) (fun (h19 : ¬ ob = (-1 : Int32)) => ?_)
        · skip
          have g20 := i_eq h19
          refine zd (fun (h21 : ob = (-1 : Int32)) => ?_) (fun (h21 : ¬ ob = (-1 : Int32)) => ?_)
          · skip
            have g22 := i_eq h21
            have hg23 : (0 ≤ ix ∧ ix.toNatClampNeg < 16) := i_ix (by omega) (by omega)
            refine ⟨hg23, ?_⟩
            first | have f24 : -1 ≤ (m 112 ix.toNatClampNeg).toInt ∧ (m 112 ix.toNatClampNeg).toInt ≤ 3099 := ra_112 (m := m) hV (k := ix.toNatClampNeg) (i_ix (n := 16) (by omega) (by omega)).2 | have b25 := i_bd (m 112 ix.toNatClampNeg)
            refine zd (fun (h26 : (0 : Int32) ≤ (m 112 ix.toNatClampNeg)) => ?_) (fun (h26 : ¬ (0 : Int32) ≤ (m 112 ix.toNatClampNeg)) => ?_)
            · skip
              have g27 := i_le h26
              have hg28 : (0 ≤ (m 112 ix.toNatClampNeg) ∧ (m 112 ix.toNatClampNeg).toNatClampNeg < 3100) := i_ix (by omega) (by omega)
              refine ⟨hg28, ?_⟩
              have hV29 : zV (ma_u m 94 0 (0 : Int32)) := uf_94_0 hV
              have hV30 : zV (ma_u (ma_u m 94 0 (0 : Int32)) 94 0 (0 : Int32)) := uf_94_0 hV29
              refine sp_238r (aa := aa) (ix) ((-1 : Int32)) hV30 (by omega) (by omega) (by omega) (by omega) (show (m 94 10).toInt = 5 from by omega) r_W r_GW r_GU r_OW r_GG r_RB r_QI r_MG r_MK r_WTS (show qU (m 99) (-1 : Int32) from by first | (exact As_u (As_n (us := (m 99)) (nr := (m 100)) (a := aa) (o := ob) (by assumption))) | (assumption; done) | (exact ow5.1) | (exact ow3.1) | (exfalso; omega; done) | (exfalso; contradiction; done)) (show qMS (m 94 58) aa (qNo (m 100) (-1 : Int32)) from by first | (exact As_s (As_n (us := (m 99)) (nr := (m 100)) (a := aa) (o := ob) (by assumption)) r_MG r_QI) | (exfalso; omega; done) | (exfalso; contradiction; done)) (fun m11 hV_m11 p0_m11 p1_m11 p2_m11 p3_m11 p4_m11 p5_m11 p6_m11 p7_m11 p8_m11 => zmv_n ?_)
              have p0_m11 : zGW T (m11 94 55) (m11 109) := p0_m11
              have p1_m11 : zGU T (m 94 46) (m11 99) := p1_m11
              have p2_m11 : zOw (m11 99) (m 103) (m11 111) := p2_m11
              have p3_m11 : zGG (m 94 58) (m11 94 56) (m 94 57) (m11 106) := p3_m11
              have p4_m11 : qRB (m11 99) (m 100) (m 98) (m 101) (m 102) (m 103) (m 107) (m 108) (m11 109) (m11 111) (m11 112) (m11 113) (m11 114) (m11 94 55) (m 94 46) (m 94 11) (m 94 12) (m 94 62) (m 94 17) (m 94 9) (aRt aa ix (qNo (m 100) (-1 : Int32))) := p4_m11
              have p5_m11 : qI (aRt aa ix (qNo (m 100) (-1 : Int32))) := p5_m11
              have p6_m11 : qMG (m 94 58) (m11 106) (m11 115) (m 94 57) (m11 94 56) (m11 99) (m 100) (aRt aa ix (qNo (m 100) (-1 : Int32))) := p6_m11
              have p7_m11 : (aRt aa ix (qNo (m 100) (-1 : Int32))) 87 8 = (m 94 58) := p7_m11
              have p8_m11 : (m11 94 45).toInt = sm (zbU (m11 99)) (m 102) 3100 := p8_m11
              first | have f31 : 0 ≤ (m 100 (m 112 ix.toNatClampNeg).toNatClampNeg).toInt ∧ (m 100 (m 112 ix.toNatClampNeg).toNatClampNeg).toInt ≤ 100000 := ra_100 (m := m) hV (k := (m 112 ix.toNatClampNeg).toNatClampNeg) (i_ix (n := 3100) (by omega) (by omega)).2 | have b32 := i_bd (m 100 (m 112 ix.toNatClampNeg).toNatClampNeg)
              exact K ((m 100 (m 112 ix.toNatClampNeg).toNatClampNeg)) _ (zF_zov (zF_u (zF_u zF_rfl rfl) rfl) ws_238_250) hV_m11 r_W p0_m11 p1_m11 p2_m11 p3_m11 (show qRB (m11 99) (m 100) (m 98) (m 101) (m 102) (m 103) (m 107) (m 108) (m11 109) (m11 111) (m11 112) (m11 113) (m11 114) (m11 94 55) (m 94 46) (m 94 11) (m 94 12) (m 94 62) (m 94 17) (m 94 9) (xRo aa ix ob) from by first | (rw [Ro_y (by omega) (by omega) (As_n (us := (m 99)) (nr := (m 100)) (a := aa) (o := ob) (by assumption))]; exact p4_m11; done) | (exfalso; omega; done) | (exfalso; contradiction; done)) (show qI (xRo aa ix ob) from by first | (rw [Ro_y (by omega) (by omega) (As_n (us := (m 99)) (nr := (m 100)) (a := aa) (o := ob) (by assumption))]; exact p5_m11; done) | (exfalso; omega; done) | (exfalso; contradiction; done)) (show qMG (m 94 58) (m11 106) (m11 115) (m 94 57) (m11 94 56) (m11 99) (m 100) (xRo aa ix ob) from by first | (rw [Ro_y (by omega) (by omega) (As_n (us := (m 99)) (nr := (m 100)) (a := aa) (o := ob) (by assumption))]; exact p6_m11; done) | (exfalso; omega; done) | (exfalso; contradiction; done)) (show (xRo aa ix ob) 87 8 = (m 94 58) from by first | (rw [Ro_y (by omega) (by omega) (As_n (us := (m 99)) (nr := (m 100)) (a := aa) (o := ob) (by assumption))]; exact p7_m11; done) | (exfalso; omega; done) | (exfalso; contradiction; done)) p8_m11
            · skip
              have g33 := i_nle h26
              have hV34 : zV (ma_u m 94 0 (0 : Int32)) := uf_94_0 hV
              have hV35 : zV (ma_u (ma_u m 94 0 (0 : Int32)) 94 0 (0 : Int32)) := uf_94_0 hV34
              refine sp_238r (aa := aa) (ix) ((-1 : Int32)) hV35 (by omega) (by omega) (by omega) (by omega) (show (m 94 10).toInt = 5 from by omega) r_W r_GW r_GU r_OW r_GG r_RB r_QI r_MG r_MK r_WTS (show qU (m 99) (-1 : Int32) from by first | (exact As_u (As_n (us := (m 99)) (nr := (m 100)) (a := aa) (o := ob) (by assumption))) | (assumption; done) | (exact ow5.1) | (exact ow3.1) | (exfalso; omega; done) | (exfalso; contradiction; done)) (show qMS (m 94 58) aa (qNo (m 100) (-1 : Int32)) from by first | (exact As_s (As_n (us := (m 99)) (nr := (m 100)) (a := aa) (o := ob) (by assumption)) r_MG r_QI) | (exfalso; omega; done) | (exfalso; contradiction; done)) (fun m13 hV_m13 p0_m13 p1_m13 p2_m13 p3_m13 p4_m13 p5_m13 p6_m13 p7_m13 p8_m13 => zmv_n ?_)
              have p0_m13 : zGW T (m13 94 55) (m13 109) := p0_m13
              have p1_m13 : zGU T (m 94 46) (m13 99) := p1_m13
              have p2_m13 : zOw (m13 99) (m 103) (m13 111) := p2_m13
              have p3_m13 : zGG (m 94 58) (m13 94 56) (m 94 57) (m13 106) := p3_m13
              have p4_m13 : qRB (m13 99) (m 100) (m 98) (m 101) (m 102) (m 103) (m 107) (m 108) (m13 109) (m13 111) (m13 112) (m13 113) (m13 114) (m13 94 55) (m 94 46) (m 94 11) (m 94 12) (m 94 62) (m 94 17) (m 94 9) (aRt aa ix (qNo (m 100) (-1 : Int32))) := p4_m13
              have p5_m13 : qI (aRt aa ix (qNo (m 100) (-1 : Int32))) := p5_m13
              have p6_m13 : qMG (m 94 58) (m13 106) (m13 115) (m 94 57) (m13 94 56) (m13 99) (m 100) (aRt aa ix (qNo (m 100) (-1 : Int32))) := p6_m13
              have p7_m13 : (aRt aa ix (qNo (m 100) (-1 : Int32))) 87 8 = (m 94 58) := p7_m13
              have p8_m13 : (m13 94 45).toInt = sm (zbU (m13 99)) (m 102) 3100 := p8_m13
              exact K ((-1 : Int32)) _ (zF_zov (zF_u (zF_u zF_rfl rfl) rfl) ws_238_250) hV_m13 r_W p0_m13 p1_m13 p2_m13 p3_m13 (show qRB (m13 99) (m 100) (m 98) (m 101) (m 102) (m 103) (m 107) (m 108) (m13 109) (m13 111) (m13 112) (m13 113) (m13 114) (m13 94 55) (m 94 46) (m 94 11) (m 94 12) (m 94 62) (m 94 17) (m 94 9) (xRo aa ix ob) from by first | (rw [Ro_y (by omega) (by omega) (As_n (us := (m 99)) (nr := (m 100)) (a := aa) (o := ob) (by assumption))]; exact p4_m13; done) | (exfalso; omega; done) | (exfalso; contradiction; done)) (show qI (xRo aa ix ob) from by first | (rw [Ro_y (by omega) (by omega) (As_n (us := (m 99)) (nr := (m 100)) (a := aa) (o := ob) (by assumption))]; exact p5_m13; done) | (exfalso; omega; done) | (exfalso; contradiction; done)) (show qMG (m 94 58) (m13 106) (m13 115) (m 94 57) (m13 94 56) (m13 99) (m 100) (xRo aa ix ob) from by first | (rw [Ro_y (by omega) (by omega) (As_n (us := (m 99)) (nr := (m 100)) (a := aa) (o := ob) (by assumption))]; exact p6_m13; done) | (exfalso; omega; done) | (exfalso; contradiction; done)) (show (xRo aa ix ob) 87 8 = (m 94 58) from by first | (rw [Ro_y (by omega) (by omega) (As_n (us := (m 99)) (nr := (m 100)) (a := aa) (o := ob) (by assumption))]; exact p7_m13; done) | (exfalso; omega; done) | (exfalso; contradiction; done)) p8_m13
          · skip
            have g36 := i_ne h21
            have hV37 : zV (ma_u m 94 0 (0 : Int32)) := uf_94_0 hV
            have hV38 : zV (ma_u (ma_u m 94 0 (0 : Int32)) 94 0 (3 : Int32)) := uf_94_0 hV37
            exact K ((0 : Int32)) _ (zF_u (zF_u zF_rfl rfl) rfl) hV38 r_W r_GW r_GU r_OW r_GG (show qRB (m 99) (m 100) (m 98) (m 101) (m 102) (m 103) (m 107) (m 108) (m 109) (m 111) (m 112) (m 113) (m 114) (m 94 55) (m 94 46) (m 94 11) (m 94 12) (m 94 62) (m 94 17) (m 94 9) (xRo aa ix ob) from by first | (unfold xRo; rw [qIf_n (Sl_n (Or.inl (by omega)))]; exact r_RB; done) | (unfold xRo; rw [qIf_n (Sl_n (Or.inr (by omega)))]; exact r_RB; done) | (exfalso; omega; done) | (exfalso; contradiction; done)) (show qI (xRo aa ix ob) from by first | (unfold xRo; rw [qIf_n (Sl_n (Or.inl (by omega)))]; exact r_QI; done) | (unfold xRo; rw [qIf_n (Sl_n (Or.inr (by omega)))]; exact r_QI; done) | (exfalso; omega; done) | (exfalso; contradiction; done)) (show qMG (m 94 58) (m 106) (m 115) (m 94 57) (m 94 56) (m 99) (m 100) (xRo aa ix ob) from by first | (unfold xRo; rw [qIf_n (Sl_n (Or.inl (by omega)))]; exact r_MG; done) | (unfold xRo; rw [qIf_n (Sl_n (Or.inr (by omega)))]; exact r_MG; done) | (exfalso; omega; done) | (exfalso; contradiction; done)) (show (xRo aa ix ob) 87 8 = (m 94 58) from by first | (unfold xRo; rw [qIf_n (Sl_n (Or.inl (by omega)))]; exact r_MK; done) | (unfold xRo; rw [qIf_n (Sl_n (Or.inr (by omega)))]; exact r_MK; done) | (exfalso; omega; done) | (exfalso; contradiction; done)) r_WTS
        · skip
          have g39 := i_ne h19
          have hV40 : zV (ma_u m 94 0 (0 : Int32)) := uf_94_0 hV
          refine sp_245r (aa := aa) (ob) hV40 r_W r_RB r_QI (fun v2 m1 hV_m1 p0_m1 p1_m1 p2_m1 => zmi_n ?_)
          have p0_m1 : -1 ≤ v2.toInt ∧ v2.toInt ≤ 3099 := p0_m1
          have p1_m1 : v2.toInt < 0 ∨ (m 99) v2.toNatClampNeg ≠ 0 := p1_m1
          have p2_m1 : qRe (m 99) (m 100) aa ob v2 := p2_m1
          refine zd (fun (h41 : ob = (-1 : Int32)) => ?_) (fun (h41 : ¬ ob = (-1 : Int32)) => ?_)
          · skip
            have g42 := i_eq h41
            have hg43 : (0 ≤ ix ∧ ix.toNatClampNeg < 16) := i_ix (by omega) (by omega)
            refine ⟨hg43, ?_⟩
            first | have f44 : -1 ≤ (m 112 ix.toNatClampNeg).toInt ∧ (m 112 ix.toNatClampNeg).toInt ≤ 3099 := ra_112 (m := m) hV (k := ix.toNatClampNeg) (i_ix (n := 16) (by omega) (by omega)).2 | have b45 := i_bd (m 112 ix.toNatClampNeg)
            refine zd (fun (h46 : (0 : Int32) ≤ (m 112 ix.toNatClampNeg)) => ?_) (fun (h46 : ¬ (0 : Int32) ≤ (m 112 ix.toNatClampNeg)) => ?_)
            · skip
              have g47 := i_le h46
              have hg48 : (0 ≤ (m 112 ix.toNatClampNeg) ∧ (m 112 ix.toNatClampNeg).toNatClampNeg < 3100) := i_ix (by omega) (by omega)
              refine ⟨hg48, ?_⟩
              have b49 := i_bd v2
              have hV50 : zV (ma_u (zov wr_245 (ma_u m 94 0 (0 : Int32)) m1) 94 0 (0 : Int32)) := uf_94_0 hV_m1
              refine sp_238r (aa := aa) (ix) (v2) hV50 (by omega) (by omega) (by omega) (by omega) (show (m 94 10).toInt = 5 from by omega) r_W r_GW r_GU r_OW r_GG r_RB r_QI r_MG r_MK r_WTS (show qU (m 99) v2 from by first | (exact As_u (As_y p2_m1 (by omega))) | (assumption; done) | (exact ow5.1) | (exact ow3.1) | (exfalso; omega; done) | (exfalso; contradiction; done)) (show qMS (m 94 58) aa (qNo (m 100) v2) from by first | (exact As_s (As_y p2_m1 (by omega)) r_MG r_QI) | (exfalso; omega; done) | (exfalso; contradiction; done)) (fun m3 hV_m3 p0_m3 p1_m3 p2_m3 p3_m3 p4_m3 p5_m3 p6_m3 p7_m3 p8_m3 => zmv_n ?_)
              have p0_m3 : zGW T (m3 94 55) (m3 109) := p0_m3
              have p1_m3 : zGU T (m 94 46) (m3 99) := p1_m3
              have p2_m3 : zOw (m3 99) (m 103) (m3 111) := p2_m3
              have p3_m3 : zGG (m 94 58) (m3 94 56) (m 94 57) (m3 106) := p3_m3
              have p4_m3 : qRB (m3 99) (m 100) (m 98) (m 101) (m 102) (m 103) (m 107) (m 108) (m3 109) (m3 111) (m3 112) (m3 113) (m3 114) (m3 94 55) (m 94 46) (m 94 11) (m 94 12) (m 94 62) (m 94 17) (m 94 9) (aRt aa ix (qNo (m 100) v2)) := p4_m3
              have p5_m3 : qI (aRt aa ix (qNo (m 100) v2)) := p5_m3
              have p6_m3 : qMG (m 94 58) (m3 106) (m3 115) (m 94 57) (m3 94 56) (m3 99) (m 100) (aRt aa ix (qNo (m 100) v2)) := p6_m3
              have p7_m3 : (aRt aa ix (qNo (m 100) v2)) 87 8 = (m 94 58) := p7_m3
              have p8_m3 : (m3 94 45).toInt = sm (zbU (m3 99)) (m 102) 3100 := p8_m3
              first | have f51 : 0 ≤ (m 100 (m 112 ix.toNatClampNeg).toNatClampNeg).toInt ∧ (m 100 (m 112 ix.toNatClampNeg).toNatClampNeg).toInt ≤ 100000 := ra_100 (m := m) hV (k := (m 112 ix.toNatClampNeg).toNatClampNeg) (i_ix (n := 3100) (by omega) (by omega)).2 | have b52 := i_bd (m 100 (m 112 ix.toNatClampNeg).toNatClampNeg)
              exact K ((m 100 (m 112 ix.toNatClampNeg).toNatClampNeg)) _ (zF_zov (zF_u (zF_zov (zF_u zF_rfl rfl) ws_245_250) rfl) ws_238_250) hV_m3 r_W p0_m3 p1_m3 p2_m3 p3_m3 (show qRB (m3 99) (m 100) (m 98) (m 101) (m 102) (m 103) (m 107) (m 108) (m3 109) (m3 111) (m3 112) (m3 113) (m3 114) (m3 94 55) (m 94 46) (m 94 11) (m 94 12) (m 94 62) (m 94 17) (m 94 9) (xRo aa ix ob) from by first | (rw [Ro_y (by omega) (by omega) (As_y p2_m1 (by omega))]; exact p4_m3; done) | (exfalso; omega; done) | (exfalso; contradiction; done)) (show qI (xRo aa ix ob) from by first | (rw [Ro_y (by omega) (by omega) (As_y p2_m1 (by omega))]; exact p5_m3; done) | (exfalso; omega; done) | (exfalso; contradiction; done)) (show qMG (m 94 58) (m3 106) (m3 115) (m 94 57) (m3 94 56) (m3 99) (m 100) (xRo aa ix ob) from by first | (rw [Ro_y (by omega) (by omega) (As_y p2_m1 (by omega))]; exact p6_m3; done) | (exfalso; omega; done) | (exfalso; contradiction; done)) (show (xRo aa ix ob) 87 8 = (m 94 58) from by first | (rw [Ro_y (by omega) (by omega) (As_y p2_m1 (by omega))]; exact p7_m3; done) | (exfalso; omega; done) | (exfalso; contradiction; done)) p8_m3
            · skip
              have g53 := i_nle h46
              have b54 := i_bd v2
              have hV55 : zV (ma_u (zov wr_245 (ma_u m 94 0 (0 : Int32)) m1) 94 0 (0 : Int32)) := uf_94_0 hV_m1
              refine sp_238r (aa := aa) (ix) (v2) hV55 (by omega) (by omega) (by omega) (by omega) (show (m 94 10).toInt = 5 from by omega) r_W r_GW r_GU r_OW r_GG r_RB r_QI r_MG r_MK r_WTS (show qU (m 99) v2 from by first | (exact As_u (As_y p2_m1 (by omega))) | (assumption; done) | (exact ow5.1) | (exact ow3.1) | (exfalso; omega; done) | (exfalso; contradiction; done)) (show qMS (m 94 58) aa (qNo (m 100) v2) from by first | (exact As_s (As_y p2_m1 (by omega)) r_MG r_QI) | (exfalso; omega; done) | (exfalso; contradiction; done)) (fun m5 hV_m5 p0_m5 p1_m5 p2_m5 p3_m5 p4_m5 p5_m5 p6_m5 p7_m5 p8_m5 => zmv_n ?_)
              have p0_m5 : zGW T (m5 94 55) (m5 109) := p0_m5
              have p1_m5 : zGU T (m 94 46) (m5 99) := p1_m5
              have p2_m5 : zOw (m5 99) (m 103) (m5 111) := p2_m5
              have p3_m5 : zGG (m 94 58) (m5 94 56) (m 94 57) (m5 106) := p3_m5
              have p4_m5 : qRB (m5 99) (m 100) (m 98) (m 101) (m 102) (m 103) (m 107) (m 108) (m5 109) (m5 111) (m5 112) (m5 113) (m5 114) (m5 94 55) (m 94 46) (m 94 11) (m 94 12) (m 94 62) (m 94 17) (m 94 9) (aRt aa ix (qNo (m 100) v2)) := p4_m5
              have p5_m5 : qI (aRt aa ix (qNo (m 100) v2)) := p5_m5
              have p6_m5 : qMG (m 94 58) (m5 106) (m5 115) (m 94 57) (m5 94 56) (m5 99) (m 100) (aRt aa ix (qNo (m 100) v2)) := p6_m5
              have p7_m5 : (aRt aa ix (qNo (m 100) v2)) 87 8 = (m 94 58) := p7_m5
              have p8_m5 : (m5 94 45).toInt = sm (zbU (m5 99)) (m 102) 3100 := p8_m5
              exact K ((-1 : Int32)) _ (zF_zov (zF_u (zF_zov (zF_u zF_rfl rfl) ws_245_250) rfl) ws_238_250) hV_m5 r_W p0_m5 p1_m5 p2_m5 p3_m5 (show qRB (m5 99) (m 100) (m 98) (m 101) (m 102) (m 103) (m 107) (m 108) (m5 109) (m5 111) (m5 112) (m5 113) (m5 114) (m5 94 55) (m 94 46) (m 94 11) (m 94 12) (m 94 62) (m 94 17) (m 94 9) (xRo aa ix ob) from by first | (rw [Ro_y (by omega) (by omega) (As_y p2_m1 (by omega))]; exact p4_m5; done) | (exfalso; omega; done) | (exfalso; contradiction; done)) (show qI (xRo aa ix ob) from by first | (rw [Ro_y (by omega) (by omega) (As_y p2_m1 (by omega))]; exact p5_m5; done) | (exfalso; omega; done) | (exfalso; contradiction; done)) (show qMG (m 94 58) (m5 106) (m5 115) (m 94 57) (m5 94 56) (m5 99) (m 100) (xRo aa ix ob) from by first | (rw [Ro_y (by omega) (by omega) (As_y p2_m1 (by omega))]; exact p6_m5; done) | (exfalso; omega; done) | (exfalso; contradiction; done)) (show (xRo aa ix ob) 87 8 = (m 94 58) from by first | (rw [Ro_y (by omega) (by omega) (As_y p2_m1 (by omega))]; exact p7_m5; done) | (exfalso; omega; done) | (exfalso; contradiction; done)) p8_m5
          · skip
            have g56 := i_ne h41
            have b57 := i_bd v2
            refine zd (fun (h58 : (0 : Int32) ≤ v2) => ?_) (fun (h58 : ¬ (0 : Int32) ≤ v2) => ?_)
            · skip
              have g59 := i_le h58
              have hg60 : (0 ≤ ix ∧ ix.toNatClampNeg < 16) := i_ix (by omega) (by omega)
              refine ⟨hg60, ?_⟩
              first | have f61 : -1 ≤ (m 112 ix.toNatClampNeg).toInt ∧ (m 112 ix.toNatClampNeg).toInt ≤ 3099 := ra_112 (m := m) hV (k := ix.toNatClampNeg) (i_ix (n := 16) (by omega) (by omega)).2 | have b62 := i_bd (m 112 ix.toNatClampNeg)
              refine zd (fun (h63 : (0 : Int32) ≤ (m 112 ix.toNatClampNeg)) => ?_) (fun (h63 : ¬ (0 : Int32) ≤ (m 112 ix.toNatClampNeg)) => ?_)
              · skip
                have g64 := i_le h63
                have hg65 : (0 ≤ (m 112 ix.toNatClampNeg) ∧ (m 112 ix.toNatClampNeg).toNatClampNeg < 3100) := i_ix (by omega) (by omega)
                refine ⟨hg65, ?_⟩
                have hV66 : zV (ma_u (zov wr_245 (ma_u m 94 0 (0 : Int32)) m1) 94 0 (0 : Int32)) := uf_94_0 hV_m1
                refine sp_238r (aa := aa) (ix) (v2) hV66 (by omega) (by omega) (by omega) (by omega) (show (m 94 10).toInt = 5 from by omega) r_W r_GW r_GU r_OW r_GG r_RB r_QI r_MG r_MK r_WTS (show qU (m 99) v2 from by first | (exact As_u (As_y p2_m1 (by omega))) | (assumption; done) | (exact ow5.1) | (exact ow3.1) | (exfalso; omega; done) | (exfalso; contradiction; done)) (show qMS (m 94 58) aa (qNo (m 100) v2) from by first | (exact As_s (As_y p2_m1 (by omega)) r_MG r_QI) | (exfalso; omega; done) | (exfalso; contradiction; done)) (fun m7 hV_m7 p0_m7 p1_m7 p2_m7 p3_m7 p4_m7 p5_m7 p6_m7 p7_m7 p8_m7 => zmv_n ?_)
                have p0_m7 : zGW T (m7 94 55) (m7 109) := p0_m7
                have p1_m7 : zGU T (m 94 46) (m7 99) := p1_m7
                have p2_m7 : zOw (m7 99) (m 103) (m7 111) := p2_m7
                have p3_m7 : zGG (m 94 58) (m7 94 56) (m 94 57) (m7 106) := p3_m7
                have p4_m7 : qRB (m7 99) (m 100) (m 98) (m 101) (m 102) (m 103) (m 107) (m 108) (m7 109) (m7 111) (m7 112) (m7 113) (m7 114) (m7 94 55) (m 94 46) (m 94 11) (m 94 12) (m 94 62) (m 94 17) (m 94 9) (aRt aa ix (qNo (m 100) v2)) := p4_m7
                have p5_m7 : qI (aRt aa ix (qNo (m 100) v2)) := p5_m7
                have p6_m7 : qMG (m 94 58) (m7 106) (m7 115) (m 94 57) (m7 94 56) (m7 99) (m 100) (aRt aa ix (qNo (m 100) v2)) := p6_m7
                have p7_m7 : (aRt aa ix (qNo (m 100) v2)) 87 8 = (m 94 58) := p7_m7
                have p8_m7 : (m7 94 45).toInt = sm (zbU (m7 99)) (m 102) 3100 := p8_m7
                first | have f67 : 0 ≤ (m 100 (m 112 ix.toNatClampNeg).toNatClampNeg).toInt ∧ (m 100 (m 112 ix.toNatClampNeg).toNatClampNeg).toInt ≤ 100000 := ra_100 (m := m) hV (k := (m 112 ix.toNatClampNeg).toNatClampNeg) (i_ix (n := 3100) (by omega) (by omega)).2 | have b68 := i_bd (m 100 (m 112 ix.toNatClampNeg).toNatClampNeg)
                exact K ((m 100 (m 112 ix.toNatClampNeg).toNatClampNeg)) _ (zF_zov (zF_u (zF_zov (zF_u zF_rfl rfl) ws_245_250) rfl) ws_238_250) hV_m7 r_W p0_m7 p1_m7 p2_m7 p3_m7 (show qRB (m7 99) (m 100) (m 98) (m 101) (m 102) (m 103) (m 107) (m 108) (m7 109) (m7 111) (m7 112) (m7 113) (m7 114) (m7 94 55) (m 94 46) (m 94 11) (m 94 12) (m 94 62) (m 94 17) (m 94 9) (xRo aa ix ob) from by first | (rw [Ro_y (by omega) (by omega) (As_y p2_m1 (by omega))]; exact p4_m7; done) | (exfalso; omega; done) | (exfalso; contradiction; done)) (show qI (xRo aa ix ob) from by first | (rw [Ro_y (by omega) (by omega) (As_y p2_m1 (by omega))]; exact p5_m7; done) | (exfalso; omega; done) | (exfalso; contradiction; done)) (show qMG (m 94 58) (m7 106) (m7 115) (m 94 57) (m7 94 56) (m7 99) (m 100) (xRo aa ix ob) from by first | (rw [Ro_y (by omega) (by omega) (As_y p2_m1 (by omega))]; exact p6_m7; done) | (exfalso; omega; done) | (exfalso; contradiction; done)) (show (xRo aa ix ob) 87 8 = (m 94 58) from by first | (rw [Ro_y (by omega) (by omega) (As_y p2_m1 (by omega))]; exact p7_m7; done) | (exfalso; omega; done) | (exfalso; contradiction; done)) p8_m7
              · skip
                have g69 := i_nle h63
                have hV70 : zV (ma_u (zov wr_245 (ma_u m 94 0 (0 : Int32)) m1) 94 0 (0 : Int32)) := uf_94_0 hV_m1
                refine sp_238r (aa := aa) (ix) (v2) hV70 (by omega) (by omega) (by omega) (by omega) (show (m 94 10).toInt = 5 from by omega) r_W r_GW r_GU r_OW r_GG r_RB r_QI r_MG r_MK r_WTS (show qU (m 99) v2 from by first | (exact As_u (As_y p2_m1 (by omega))) | (assumption; done) | (exact ow5.1) | (exact ow3.1) | (exfalso; omega; done) | (exfalso; contradiction; done)) (show qMS (m 94 58) aa (qNo (m 100) v2) from by first | (exact As_s (As_y p2_m1 (by omega)) r_MG r_QI) | (exfalso; omega; done) | (exfalso; contradiction; done)) (fun m9 hV_m9 p0_m9 p1_m9 p2_m9 p3_m9 p4_m9 p5_m9 p6_m9 p7_m9 p8_m9 => zmv_n ?_)
                have p0_m9 : zGW T (m9 94 55) (m9 109) := p0_m9
                have p1_m9 : zGU T (m 94 46) (m9 99) := p1_m9
                have p2_m9 : zOw (m9 99) (m 103) (m9 111) := p2_m9
                have p3_m9 : zGG (m 94 58) (m9 94 56) (m 94 57) (m9 106) := p3_m9
                have p4_m9 : qRB (m9 99) (m 100) (m 98) (m 101) (m 102) (m 103) (m 107) (m 108) (m9 109) (m9 111) (m9 112) (m9 113) (m9 114) (m9 94 55) (m 94 46) (m 94 11) (m 94 12) (m 94 62) (m 94 17) (m 94 9) (aRt aa ix (qNo (m 100) v2)) := p4_m9
                have p5_m9 : qI (aRt aa ix (qNo (m 100) v2)) := p5_m9
                have p6_m9 : qMG (m 94 58) (m9 106) (m9 115) (m 94 57) (m9 94 56) (m9 99) (m 100) (aRt aa ix (qNo (m 100) v2)) := p6_m9
                have p7_m9 : (aRt aa ix (qNo (m 100) v2)) 87 8 = (m 94 58) := p7_m9
                have p8_m9 : (m9 94 45).toInt = sm (zbU (m9 99)) (m 102) 3100 := p8_m9
                exact K ((-1 : Int32)) _ (zF_zov (zF_u (zF_zov (zF_u zF_rfl rfl) ws_245_250) rfl) ws_238_250) hV_m9 r_W p0_m9 p1_m9 p2_m9 p3_m9 (show qRB (m9 99) (m 100) (m 98) (m 101) (m 102) (m 103) (m 107) (m 108) (m9 109) (m9 111) (m9 112) (m9 113) (m9 114) (m9 94 55) (m 94 46) (m 94 11) (m 94 12) (m 94 62) (m 94 17) (m 94 9) (xRo aa ix ob) from by first | (rw [Ro_y (by omega) (by omega) (As_y p2_m1 (by omega))]; exact p4_m9; done) | (exfalso; omega; done) | (exfalso; contradiction; done)) (show qI (xRo aa ix ob) from by first | (rw [Ro_y (by omega) (by omega) (As_y p2_m1 (by omega))]; exact p5_m9; done) | (exfalso; omega; done) | (exfalso; contradiction; done)) (show qMG (m 94 58) (m9 106) (m9 115) (m 94 57) (m9 94 56) (m9 99) (m 100) (xRo aa ix ob) from by first | (rw [Ro_y (by omega) (by omega) (As_y p2_m1 (by omega))]; exact p6_m9; done) | (exfalso; omega; done) | (exfalso; contradiction; done)) (show (xRo aa ix ob) 87 8 = (m 94 58) from by first | (rw [Ro_y (by omega) (by omega) (As_y p2_m1 (by omega))]; exact p7_m9; done) | (exfalso; omega; done) | (exfalso; contradiction; done)) p8_m9
            · skip
              have g71 := i_nle h58
              have hV72 : zV (ma_u (zov wr_245 (ma_u m 94 0 (0 : Int32)) m1) 94 0 (3 : Int32)) := uf_94_0 hV_m1
              exact K ((0 : Int32)) _ (zF_u (zF_zov (zF_u zF_rfl rfl) ws_245_250) rfl) hV72 r_W r_GW r_GU r_OW r_GG (show qRB (m 99) (m 100) (m 98) (m 101) (m 102) (m 103) (m 107) (m 108) (m 109) (m 111) (m 112) (m 113) (m 114) (m 94 55) (m 94 46) (m 94 11) (m 94 12) (m 94 62) (m 94 17) (m 94 9) (xRo aa ix ob) from by first | (unfold xRo; rw [qIf_n (Sl_n (Or.inl (by omega)))]; exact r_RB; done) | (unfold xRo; rw [qIf_n (Sl_n (Or.inr (by omega)))]; exact r_RB; done) | (unfold xRo; rw [qIf_n (Sl_r (by assumption) (Re_n p2_m1 (by omega)))]; exact r_RB; done) | (exfalso; omega; done) | (exfalso; contradiction; done)) (show qI (xRo aa ix ob) from by first | (unfold xRo; rw [qIf_n (Sl_n (Or.inl (by omega)))]; exact r_QI; done) | (unfold xRo; rw [qIf_n (Sl_n (Or.inr (by omega)))]; exact r_QI; done) | (unfold xRo; rw [qIf_n (Sl_r (by assumption) (Re_n p2_m1 (by omega)))]; exact r_QI; done) | (exfalso; omega; done) | (exfalso; contradiction; done)) (show qMG (m 94 58) (m 106) (m 115) (m 94 57) (m 94 56) (m 99) (m 100) (xRo aa ix ob) from by first | (unfold xRo; rw [qIf_n (Sl_n (Or.inl (by omega)))]; exact r_MG; done) | (unfold xRo; rw [qIf_n (Sl_n (Or.inr (by omega)))]; exact r_MG; done) | (unfold xRo; rw [qIf_n (Sl_r (by assumption) (Re_n p2_m1 (by omega)))]; exact r_MG; done) | (exfalso; omega; done) | (exfalso; contradiction; done)) (show (xRo aa ix ob) 87 8 = (m 94 58) from by first | (unfold xRo; rw [qIf_n (Sl_n (Or.inl (by omega)))]; exact r_MK; done) | (unfold xRo; rw [qIf_n (Sl_n (Or.inr (by omega)))]; exact r_MK; done) | (unfold xRo; rw [qIf_n (Sl_r (by assumption) (Re_n p2_m1 (by omega)))]; exact r_MK; done) | (exfalso; omega; done) | (exfalso; contradiction; done)) r_WTS

