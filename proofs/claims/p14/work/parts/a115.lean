/-! from 95.h20 -/
/-! the reference by numbers (written by wip/tools/gen18r.py) -/
set_option maxHeartbeats 8000000 in
theorem sp_184r {X : Nat × (Nat → Int32)} {P : Option ma_V → (Nat → Nat → Int32) → Prop} {T : Nat} {aa : Nat→Nat→Int32} {m : Nat → Nat → Int32} (nz : Int32) (hV : zV m) (hpre0 : T ≤ 512) (r_W : zW (m 94 7) (m 98) (m 101) (m 102) (m 108)) (r_GW : zGW T (m 94 55) (m 109)) (r_GU : zGU T (m 94 46) (m 99)) (r_OW : zOw (m 99) (m 103) (m 111)) (r_GG : zGG (m 94 58) (m 94 56) (m 94 57) (m 106)) (hpre6 : (m 94 10).toInt = 5) (r_RB : qRB (m 99) (m 100) (m 98) (m 101) (m 102) (m 103) (m 107) (m 108) (m 109) (m 111) (m 112) (m 113) (m 114) (m 94 55) (m 94 46) (m 94 11) (m 94 12) (m 94 62) (m 94 17) (m 94 9) aa) (r_QI : qI aa) (r_MG : qMG (m 94 58) (m 106) (m 115) (m 94 57) (m 94 56) (m 99) (m 100) aa) (r_MK : aa 87 8 = (m 94 58)) (r_WTS : (m 94 45).toInt = sm (zbU (m 99)) (m 102) 3100) (KZ : ∀ v m₉, zV (zov wr_184 m m₉) → (zGW T (m₉ 94 55) (m₉ 109)) → (zGU T (m 94 46) (m₉ 99)) → (zOw (m₉ 99) (m₉ 103) (m₉ 111)) → (zGG (m₉ 94 58) (m₉ 94 56) (m₉ 94 57) (m₉ 106)) → (-1 ≤ v.toInt ∧ v.toInt ≤ 1500) → (qRB (m₉ 99) (m 100) (m 98) (m 101) (m 102) (m₉ 103) (m 107) (m 108) (m₉ 109) (m₉ 111) (m 112) (m₉ 113) (m₉ 114) (m₉ 94 55) (m 94 46) (m 94 11) (m 94 12) (m 94 62) (m 94 17) (m 94 9) (aRs aa nz.toInt)) → (qI (aRs aa nz.toInt)) → (qMG (m₉ 94 58) (m₉ 106) (m₉ 115) (m₉ 94 57) (m₉ 94 56) (m₉ 99) (m 100) (aRs aa nz.toInt)) → ((aRs aa nz.toInt) 87 8 = (m₉ 94 58)) → ((m₉ 94 45).toInt = sm (zbU (m₉ 99)) (m 102) 3100) → (qEq v.toInt (aRp aa nz.toInt)) → P (some (.inl v)) (zov wr_184 m m₉)) : zm X 8 175 184 0 [(0, .inr (.inr (some 94))), (1, .inl nz)] m P := by
  have K : ∀ v m₉, zF wr_184 m m₉ → zV m₉ → (zGW T (m₉ 94 55) (m₉ 109)) → (zGU T (m₉ 94 46) (m₉ 99)) → (zOw (m₉ 99) (m₉ 103) (m₉ 111)) → (zGG (m₉ 94 58) (m₉ 94 56) (m₉ 94 57) (m₉ 106)) → (-1 ≤ v.toInt ∧ v.toInt ≤ 1500) → (qRB (m₉ 99) (m₉ 100) (m₉ 98) (m₉ 101) (m₉ 102) (m₉ 103) (m₉ 107) (m₉ 108) (m₉ 109) (m₉ 111) (m₉ 112) (m₉ 113) (m₉ 114) (m₉ 94 55) (m₉ 94 46) (m₉ 94 11) (m₉ 94 12) (m₉ 94 62) (m₉ 94 17) (m₉ 94 9) (aRs aa nz.toInt)) → (qI (aRs aa nz.toInt)) → (qMG (m₉ 94 58) (m₉ 106) (m₉ 115) (m₉ 94 57) (m₉ 94 56) (m₉ 99) (m₉ 100) (aRs aa nz.toInt)) → ((aRs aa nz.toInt) 87 8 = (m₉ 94 58)) → ((m₉ 94 45).toInt = sm (zbU (m₉ 99)) (m₉ 102) 3100) → (qEq v.toInt (aRp aa nz.toInt)) → P (some (.inl v)) m₉ := by
    intro v m₉ hf z q0 q1 q2 q3 q4 q5 q6 q7 q8 q9 q10
    have e := zov_eq hf
    rw [e] at z ⊢
    try rw [e] at q0
    try rw [e] at q1
    try rw [e] at q2
    try rw [e] at q3
    try rw [e] at q4
    try rw [e] at q5
    try rw [e] at q6
    try rw [e] at q7
    try rw [e] at q8
    try rw [e] at q9
    try rw [e] at q10
    exact KZ v m₉ z q0 q1 q2 q3 q4 q5 q6 q7 q8 q9 q10
  refine g_184_0 nz ?_
  have f1 : 0 ≤ (m 94 10).toInt ∧ (m 94 10).toInt ≤ 6 := rs_94_10 (m := m) hV
  have li2 : (1 : Int32).toInt = 1 := rfl
  refine zd (fun (h3 : (m 94 10) = (1 : Int32)) => ?_) (fun (h3 : ¬ (m 94 10) = (1 : Int32)) => ?_)
  · skip
    have g4 := i_eq h3
    exfalso; omega
  · skip
    have g5 := i_ne h3
    have li6 : (2 : Int32).toInt = 2 := rfl
    refine zd (fun (h7 : (m 94 10) = (2 : Int32)) => ?_) (fun (h7 : ¬ (m 94 10) = (2 : Int32)) => ?_)
    · skip
      have g8 := i_eq h7
      exfalso; omega
    · skip
      have g9 := i_ne h7
      have li10 : (3 : Int32).toInt = 3 := rfl
      refine zd (fun (h11 : (m 94 10) = (3 : Int32)) => ?_) (fun (h11 : ¬ (m 94 10) = (3 : Int32)) => ?_)
      · skip
        have g12 := i_eq h11
        exfalso; omega
      · skip
        have g13 := i_ne h11
        have li14 : (4 : Int32).toInt = 4 := rfl
        refine zd (fun (h15 : (m 94 10) = (4 : Int32)) => ?_) (fun (h15 : ¬ (m 94 10) = (4 : Int32)) => ?_)
        · skip
          have g16 := i_eq h15
          exfalso; omega
        · skip
          have g17 := i_ne h15
          have li18 : (5 : Int32).toInt = 5 := rfl
          refine zd (fun (h19 : (m 94 10) = (5 : Int32)) => ?_) (fun (h19 : ¬ (m 94 10) = (5 : Int32)) => ?_)
          · skip
            have g20 := i_eq h19
            have b21 := i_bd nz
            refine sp_217r (aa := aa) (nz) hV (by omega) r_W r_GW r_GU r_OW r_GG (show (m 94 10).toInt = 5 from by omega) r_RB r_QI r_MG r_MK r_WTS (fun v14 m13 hV_m13 p0_m13 p1_m13 p2_m13 p3_m13 p4_m13 p5_m13 p6_m13 p7_m13 p8_m13 p9_m13 p10_m13 => zmi_n ?_)
            have p0_m13 : zGW T (m13 94 55) (m13 109) := p0_m13
            have p1_m13 : zGU T (m 94 46) (m13 99) := p1_m13
            have p2_m13 : zOw (m13 99) (m 103) (m13 111) := p2_m13
            have p3_m13 : zGG (m13 94 58) (m13 94 56) (m13 94 57) (m13 106) := p3_m13
            have p4_m13 : -1 ≤ v14.toInt ∧ v14.toInt ≤ 1500 := p4_m13
            have p5_m13 : qRB (m13 99) (m 100) (m 98) (m 101) (m 102) (m 103) (m 107) (m 108) (m13 109) (m13 111) (m 112) (m13 113) (m13 114) (m13 94 55) (m 94 46) (m 94 11) (m 94 12) (m 94 62) (m 94 17) (m 94 9) (aRs aa nz.toInt) := p5_m13
            have p6_m13 : qI (aRs aa nz.toInt) := p6_m13
            have p7_m13 : qMG (m13 94 58) (m13 106) (m13 115) (m13 94 57) (m13 94 56) (m13 99) (m 100) (aRs aa nz.toInt) := p7_m13
            have p8_m13 : (aRs aa nz.toInt) 87 8 = (m13 94 58) := p8_m13
            have p9_m13 : (m13 94 45).toInt = sm (zbU (m13 99)) (m 102) 3100 := p9_m13
            have p10_m13 : qEq v14.toInt (aRp aa nz.toInt) := p10_m13
            have b22 := i_bd v14
            exact K (v14) _ (zF_zov zF_rfl ws_217_184) hV_m13 p0_m13 p1_m13 p2_m13 p3_m13 (show -1 ≤ v14.toInt ∧ v14.toInt ≤ 1500 from by omega) p5_m13 p6_m13 p7_m13 p8_m13 p9_m13 p10_m13
          · skip
            have g23 := i_ne h19
            exfalso; omega

/-! from 95.h21 -/
/-! the reference by numbers (written by wip/tools/gen18r.py) -/
/-! A ROOT OR A WORD CHANGES, the reference -/
section QC
variable {aa a b c : Nat → Nat → Int32} {us nr kr kd ws at₉ ho wd wi ow rt wk wl kp co gr : Nat → Int32} {wm nu ro fo le ra pi y x z i ga gm r s v : Int32} {n k u t : Nat} {m m2 : Nat → Nat → Int32}
theorem Nm_no (h : qR1 us nr ws at₉ ho a) (u : qU us x) : aNm a (qNo nr x) = qNo nr x := by
  by_cases z : x.toInt < 0
  · rw [No_n z]
    exact if_neg (fun w => absurd w.1 (by decide))
  · have w := U_y u (by omega)
    rw [No_y (by omega)]
    have t := h.1 _ (tn_lt (by omega) w.1) w.2
    exact if_pos ⟨t.1.1, t.1.2, t.2.1⟩
theorem No_ij (h : qR1 us nr ws at₉ ho a) (u : qU us x) (w : qU us y) (hx : -1 ≤ x.toInt) (hy : -1 ≤ y.toInt) (e : qNo nr x = qNo nr y) : x = y := by
  have neg : ∀ z : Int32, qU us z → 0 ≤ z.toInt → 0 ≤ (qNo nr z).toInt := fun z uz hz => by
    have q := U_y uz hz
    rw [No_y hz]
    exact (h.1 _ (tn_lt hz q.1) q.2).1.1
  have m1 : (-1 : Int32).toInt = -1 := rfl
  by_cases z : x.toInt < 0
  · by_cases z2 : y.toInt < 0
    · exact Int32.toInt_inj.mp (by omega)
    · have q := neg y w (by omega)
      rw [← e, No_n z] at q
      omega
  · by_cases z2 : y.toInt < 0
    · have q := neg x u (by omega)
      rw [e, No_n z2] at q
      omega
    · rw [No_y (by omega), No_y (by omega)] at e
      have u1 := U_y u (by omega)
      have w1 := U_y w (by omega)
      have q := h.2.1 _ _ (tn_lt (by omega) u1.1) (tn_lt (by omega) w1.1) u1.2 w1.2 e
      have c1 := tn_cast (x := x) (by omega)
      have c2 := tn_cast (x := y) (by omega)
      exact Int32.toInt_inj.mp (by omega)
theorem NC_0 (h : a 87 8 = 0) : aNc a y z = a := aNc_n (fun w => w.1 h)
theorem NC_s : aNc a y y = a := aNc_n (fun w => w.2 rfl)
theorem NC_of : zOf a (aNc a y z) := by
  unfold aNc
  split
  · exact cm_of
  · exact Of_rf
theorem NC_y (hR : qRB us nr kr kd ws at₉ ho wd wi ow rt wk wl wm nu ro fo le ra pi a) (hm : a 87 8 ≠ 0) (u : qU us x) (w : qU us y) (hx : -1 ≤ x.toInt) (hy : -1 ≤ y.toInt) (hne : ¬ x = y) : aNc a (qNo nr x) (qNo nr y) = aCm a (qNo nr (if pi = 0 then y else x)) := by
  have e7 : a 87 7 = (if pi = 0 then 1 else 0) := hR.2.2.2.2.2.2.2.2.2.2.2.2
  rw [aNc_y hm (by rw [Nm_no hR.1 u, Nm_no hR.1 w]; exact fun e => hne (No_ij hR.1 u w hx hy e)), e7]
  by_cases z : pi = 0
  · rw [if_pos z, if_pos z, if_neg (by decide)]
  · rw [if_neg z, if_neg z, if_pos rfl]
theorem NC_push (hR : qRB us nr kr kd ws at₉ ho wd wi ow rt wk wl wm nu ro fo le ra pi a) (hq : qMQ (m 106) (m2 115) ga gm us nr a) (hm : a 87 8 ≠ 0) (u : qU us x) (w : qU us y) (hx : -1 ≤ x.toInt) (hy : -1 ≤ y.toInt) (hne : ¬ x = y) (hv : v = if pi = 0 then y else x) (h0 : 0 ≤ v.toInt) (hw : m 106 v.toNatClampNeg = 0) : qMQ (ma_u m 106 v.toNatClampNeg 1 106) (ma_u m2 115 gm.toNatClampNeg v 115) ga (gm + 1) us nr (aNc a (qNo nr x) (qNo nr y)) := by
  rw [NC_y hR hm u w hx hy hne, ← hv]
  have uv : qU us v := by
    rw [hv]
    split
    · exact w
    · exact u
  have q := U_y uv h0
  exact MQ_push hq hR.1 h0 q.1 q.2 hw rfl
theorem NC_skip (hR : qRB us nr kr kd ws at₉ ho wd wi ow rt wk wl wm nu ro fo le ra pi a) (hq : qMQ co gr ga gm us nr a) (hm : a 87 8 ≠ 0) (u : qU us x) (w : qU us y) (hx : -1 ≤ x.toInt) (hy : -1 ≤ y.toInt) (hne : ¬ x = y) (hv : v = if pi = 0 then y else x) (h0 : v.toInt < 0 ∨ co v.toNatClampNeg ≠ 0) : qMQ co gr ga gm us nr (aNc a (qNo nr x) (qNo nr y)) := by
  rw [NC_y hR hm u w hx hy hne, ← hv]
  have uv : qU us v := by
    rw [hv]
    split
    · exact w
    · exact u
  rw [MQ_sk hq uv h0]
  exact hq
/-! rows of the heap that change, and what stays -/
theorem R1_cg (h : qR1 us nr ws at₉ ho a) (e1 : b 126 = a 126) (e2 : b 128 = a 128) (e3 : b 130 = a 130) (e4 : b 133 = a 133) : qR1 us nr ws at₉ ho b := by
  unfold qR1 at h ⊢
  rw [e1, e2, e3, e4]
  exact h
theorem rf_cg (e1 : b (1000 + n) = a (1000 + n)) (e2 : b 130 = a 130) (e3 : b 71 = a 71) : aRef b n i = aRef a n i := by
  unfold aRef
  rw [e1, e2, e3]
theorem R2_cg (h : qR2 us nr kr kd ws wd a) (e1 : ∀ n, b (1000 + n) = a (1000 + n)) (e2 : b 130 = a 130) (e3 : b 71 = a 71) : qR2 us nr kr kd ws wd b := by
  intro s hs hu i hi
  rw [rf_cg (e1 _) e2 e3, e1]
  exact h s hs hu i hi
theorem R3_cg (h : qR3 us nr rt a n) (e : b n = a n) : qR3 us nr rt b n := by
  unfold qR3 at h ⊢
  rw [e]
  exact h
theorem R5_cg (h : qR5 us nr wl wm a) (e1 : b 69 = a 69) (e2 : b 74 = a 74) : qR5 us nr wl wm b := by
  unfold qR5 at h ⊢
  rw [e1, e2]
  exact h
theorem R6_cg (h : qR6 us nr wi a) (e : b 134 = a 134) : qR6 us nr wi b := by
  unfold qR6 at h ⊢
  rw [e]
  exact h
theorem R8_cg (h : qR8 nu ro fo le ra pi a) (e1 : b 69 6 = a 69 6) (e2 : b 87 = a 87) : qR8 nu ro fo le ra pi b := by
  unfold qR8 at h ⊢
  rw [e1, e2]
  exact h
theorem I_cg (h : qI a) (e1 : b 126 = a 126) (e2 : b 128 = a 128) (e3 : b 130 = a 130) (e4 : b 71 = a 71) (e5 : b 69 = a 69) (e6 : b 87 = a 87) (e7 : ∀ n, b (1000 + n) = a (1000 + n)) : qI b := by
  have al : xAl b = xAl a := by
    funext n
    unfold xAl
    rw [e1]
  have su := Su_cg (a := b) (b := a) e1 e2 512
  have e8 : qI6 b := fun n hn k => by
    rw [e7]
    exact h.2.2.2.2.2 n (by rw [← al]; exact hn) k
  unfold qI qI1 qI2 qI3 qI4 qGd at h ⊢
  rw [al, su, e2, e3, e4, e5, e6]
  exact ⟨h.1, h.2.1, h.2.2.1, h.2.2.2.1, h.2.2.2.2.1, e8⟩
theorem un {c k : Nat} (h : n ≠ c) : ma_u a c k x n = a n := ma_u_ne _ _ _ h
theorem RB_rt (h : qRB us nr kr kd ws at₉ ho wd wi ow (m 112) wk wl wm nu ro fo le ra pi a) (u : qU us s) : qRB us nr kr kd ws at₉ ho wd wi ow (ma_u m 112 k s 112) wk wl wm nu ro fo le ra pi (ma_u a 72 k (qNo nr s)) := by
  refine ⟨R1_cg h.1 (un (by decide)) (un (by decide)) (un (by decide)) (un (by decide)), R2_cg h.2.1 (fun n => un (by omega)) (un (by decide)) (un (by decide)), fun j hj => ?_, R3_cg h.2.2.2.1 (un (by decide)), R5_cg h.2.2.2.2.1 (un (by decide)) (un (by decide)), R6_cg h.2.2.2.2.2.1 (un (by decide)), h.2.2.2.2.2.2.1, R8_cg h.2.2.2.2.2.2.2 (by rw [un (by decide)]) (un (by decide))⟩
  by_cases z : j = k
  · rw [z, mu_self, xu_s]
    exact ⟨u, rfl⟩
  · rw [mu_ne z, xu_o (fun w => z w.2)]
    exact h.2.2.1 j hj
theorem RB_wk (h : qRB us nr kr kd ws at₉ ho wd wi ow rt (m 113) wl wm nu ro fo le ra pi a) (u : qU us s) : qRB us nr kr kd ws at₉ ho wd wi ow rt (ma_u m 113 k s 113) wl wm nu ro fo le ra pi (ma_u a 73 k (qNo nr s)) := by
  refine ⟨R1_cg h.1 (un (by decide)) (un (by decide)) (un (by decide)) (un (by decide)), R2_cg h.2.1 (fun n => un (by omega)) (un (by decide)) (un (by decide)), R3_cg h.2.2.1 (un (by decide)), fun j hj => ?_, R5_cg h.2.2.2.2.1 (un (by decide)) (un (by decide)), R6_cg h.2.2.2.2.2.1 (un (by decide)), h.2.2.2.2.2.2.1, R8_cg h.2.2.2.2.2.2.2 (by rw [un (by decide)]) (un (by decide))⟩
  by_cases z : j = k
  · rw [z, mu_self, xu_s]
    exact ⟨u, rfl⟩
  · rw [mu_ne z, xu_o (fun w => z w.2)]
    exact h.2.2.2.1 j hj
theorem RB_wi (h : qRB us nr kr kd ws at₉ ho wd (m 109) ow rt wk wl wm nu ro fo le ra pi a) (hs : n < 3100) (hu : us n ≠ 0) : qRB us nr kr kd ws at₉ ho wd (ma_u m 109 n x 109) ow rt wk wl wm nu ro fo le ra pi (ma_u a 134 (nr n).toNatClampNeg x) := by
  refine ⟨R1_cg h.1 (un (by decide)) (un (by decide)) (un (by decide)) (un (by decide)), R2_cg h.2.1 (fun n => un (by omega)) (un (by decide)) (un (by decide)), R3_cg h.2.2.1 (un (by decide)), R3_cg h.2.2.2.1 (un (by decide)), R5_cg h.2.2.2.2.1 (un (by decide)) (un (by decide)), fun t ht hv => ?_, h.2.2.2.2.2.2.1, R8_cg h.2.2.2.2.2.2.2 (by rw [un (by decide)]) (un (by decide))⟩
  by_cases z : t = n
  · rw [z, mu_self, xu_s]
  · rw [mu_ne z, xu_o (fun w => z (R1_in h.1 ht hs hv hu w.2))]
    exact h.2.2.2.2.2.1 t ht hv
theorem RB_ho (h : qRB us nr kr kd ws at₉ (m 107) wd wi ow rt wk wl wm nu ro fo le ra pi a) (hs : n < 3100) (hu : us n ≠ 0) : qRB us nr kr kd ws at₉ (ma_u m 107 n x 107) wd wi ow rt wk wl wm nu ro fo le ra pi (ma_u a 133 (nr n).toNatClampNeg x) := by
  refine ⟨⟨fun t ht hv => ?_, h.1.2.1, fun j hj => ?_⟩, R2_cg h.2.1 (fun n => un (by omega)) (un (by decide)) (un (by decide)), R3_cg h.2.2.1 (un (by decide)), R3_cg h.2.2.2.1 (un (by decide)), R5_cg h.2.2.2.2.1 (un (by decide)) (un (by decide)), R6_cg h.2.2.2.2.2.1 (un (by decide)), h.2.2.2.2.2.2.1, R8_cg h.2.2.2.2.2.2.2 (by rw [un (by decide)]) (un (by decide))⟩
  · have q := h.1.1 t ht hv
    rw [un (n := 126) (by decide), un (n := 128) (by decide), un (n := 130) (by decide)]
    refine ⟨q.1, q.2.1, q.2.2.1, q.2.2.2.1, ?_, q.2.2.2.2.2⟩
    by_cases z : t = n
    · rw [z, mu_self, xu_s]
    · rw [mu_ne z, xu_o (fun w => z (R1_in h.1 ht hs hv hu w.2))]
      exact q.2.2.2.2.1
  · rw [un (n := 126) (by decide)]
    exact h.1.2.2 j hj
theorem I_u (h : qI a) (hn : n = 72 ∨ n = 73 ∨ n = 133 ∨ n = 134) : qI (ma_u a n k x) := I_cg h (un (by omega)) (un (by omega)) (un (by omega)) (un (by omega)) (un (by omega)) (un (by omega)) (fun j => un (by omega))
/-! what comes of a change -/
theorem Ed_cg (e1 : b 126 = a 126) (e2 : b 128 = a 128) (e3 : ∀ n i, aRef b n i = aRef a n i) : zEd b = zEd a := by
  funext u y
  unfold zEd xAl
  rw [e1, e2]
  simp only [e3]
theorem Mk_cg (e0 : b 77 = a 77) (e1 : zEd b = zEd a) : zMk b = zMk a ∧ zNn b = zNn a ∧ zDn b = zDn a := by
  have n : zNn b = zNn a := by
    funext u
    unfold zNn
    rw [e0]
  have d : zDn b = zDn a := by
    funext u
    unfold zDn
    rw [e0]
  refine ⟨?_, n, d⟩
  funext u
  unfold zMk
  rw [n, d, e1]
theorem MI_cg (h : qMI a) (e0 : b 77 = a 77) (e1 : zEd b = zEd a) (e2 : b 126 = a 126) (e7 : b 87 7 = a 87 7) (hr : a 87 7 ≠ 1 → ∀ u, zRt b u → zRt a u ∨ zMk a u) : qMI b := by
  have q := Mk_cg e0 e1
  have al : xAl b = xAl a := by
    funext n
    unfold xAl
    rw [e2]
  unfold qMI at h ⊢
  rw [q.1, q.2.1, q.2.2, e1, al, e7]
  exact ⟨h.1, fun w => ⟨fun u hu => (hr w u hu).elim ((h.2 w).1 u) id, (h.2 w).2⟩⟩
theorem WQ_u (h : zWQ a) (hn : n ≠ 75 ∧ n ≠ 76 ∧ n ≠ 77 ∧ n ≠ 126 ∧ n ≠ 130) : zWQ (ma_u a n k x) := WQ_cg h (un (by omega)).symm (un (by omega)).symm (un (by omega)).symm (un (by omega)).symm (un (by omega)).symm
theorem MQ_u (h : qMQ co gr ga gm us nr a) (hn : n ≠ 75 ∧ n ≠ 76 ∧ n ≠ 77 ∧ n ≠ 126 ∧ n ≠ 130) : qMQ co gr ga gm us nr (ma_u a n k x) := by
  obtain ⟨h1, h2, h3, h4, h5⟩ := h
  have w := WQ_u (k := k) (x := x) h5 hn
  unfold qMQ
  rw [un (n := 75) (by omega), un (n := 76) (by omega), un (n := 77) (by omega)]
  exact ⟨h1, h2, h3, h4, w⟩
theorem Ed_u (hn : n ≠ 126 ∧ n ≠ 128 ∧ n ≠ 130 ∧ n ≠ 71 ∧ n < 1000) : zEd (ma_u a n k x) = zEd a := Ed_cg (un (by omega)) (un (by omega)) (fun j i => rf_cg (un (by omega)) (un (by omega)) (un (by omega)))
theorem MI_nc (h : qMI a) (hw : zWQ a) : qMI (aNc a y z) := by
  unfold aNc
  split
  · exact MI_cm h hw
  · exact h
theorem Rt_72 (hu : zRt (ma_u a 72 k y) u) : zRt a u ∨ y = Int32.ofNat u := by
  obtain ⟨al, h⟩ := hu
  have al2 : xAl a u := by
    unfold xAl at al ⊢
    rw [un (by decide)] at al
    exact al
  unfold zRl zWl zHl at h
  rw [un (n := 74) (by decide), un (n := 69) (by decide), un (n := 133) (by decide)] at h
  rcases h with ⟨j, j1, j2⟩ | h
  · by_cases z : j = k
    · rw [z, xu_s] at j2
      exact Or.inr j2
    · rw [xu_o (fun w => z w.2)] at j2
      exact Or.inl ⟨al2, Or.inl ⟨j, j1, j2⟩⟩
  · exact Or.inl ⟨al2, Or.inr h⟩
theorem MI_rt (h : qMI a) (hw : zWQ a) (hm : a 87 7 ≠ 1 → y.toInt < 0 ∨ zMk a y.toNatClampNeg) {w z : Int32} : qMI (aNc (ma_u a 72 k y) w z) := by
  refine MI_nc (MI_cg h (un (by decide)) (Ed_u (by decide)) (un (by decide)) (by rw [un (by decide)]) (fun h7 u hu => ?_)) (WQ_u hw (by decide))
  rcases Rt_72 hu with q | q
  · exact Or.inl q
  · have al : u < 512 := hu.1.1
    have e := ofN_i al
    refine Or.inr ((hm h7).elim (fun w => ?_) (fun w => ?_))
    · rw [q] at w
      omega
    · rw [q, tn_of al] at w
      exact w
end QC
theorem sp_240r {X : Nat × (Nat → Int32)} {P : Option ma_V → (Nat → Nat → Int32) → Prop} {aa : Nat→Nat→Int32} {m : Nat → Nat → Int32} (wa : Int32) (is : Int32) (hV : zV m) (hpre0 : (m 94 10).toInt = 5) (hpre1 : -1 ≤ wa.toInt) (hpre2 : wa.toInt ≤ 3099) (hpre3 : -1 ≤ is.toInt) (hpre4 : is.toInt ≤ 3099) (r_GG : zGG (m 94 58) (m 94 56) (m 94 57) (m 106)) (r_RB : qRB (m 99) (m 100) (m 98) (m 101) (m 102) (m 103) (m 107) (m 108) (m 109) (m 111) (m 112) (m 113) (m 114) (m 94 55) (m 94 46) (m 94 11) (m 94 12) (m 94 62) (m 94 17) (m 94 9) aa) (r_QI : qI aa) (r_MK : aa 87 8 = (m 94 58)) (r_UA : qU (m 99) wa) (r_UB : qU (m 99) is) (r_MQG : qGQ (m 94 58) (m 106) (m 115) (m 94 57) (m 94 56) (m 99) (m 100) aa) (KZ : ∀ m₉, zV (zov wr_240 m m₉) → (zGG (m 94 58) (m₉ 94 56) (m 94 57) (m₉ 106)) → (qRB (m 99) (m 100) (m 98) (m 101) (m 102) (m 103) (m 107) (m 108) (m 109) (m 111) (m 112) (m 113) (m 114) (m 94 55) (m 94 46) (m 94 11) (m 94 12) (m 94 62) (m 94 17) (m 94 9) (aNc aa (qNo (m 100) wa) (qNo (m 100) is))) → (qI (aNc aa (qNo (m 100) wa) (qNo (m 100) is))) → ((aNc aa (qNo (m 100) wa) (qNo (m 100) is)) 87 8 = (m 94 58)) → (qGQ (m 94 58) (m₉ 106) (m₉ 115) (m 94 57) (m₉ 94 56) (m 99) (m 100) (aNc aa (qNo (m 100) wa) (qNo (m 100) is))) → P none (zov wr_240 m m₉)) : zm X 1 21 240 0 [(0, .inr (.inr (some 94))), (1, .inl wa), (2, .inl is)] m P := by
  have K : ∀ m₉, zF wr_240 m m₉ → zV m₉ → (zGG (m₉ 94 58) (m₉ 94 56) (m₉ 94 57) (m₉ 106)) → (qRB (m₉ 99) (m₉ 100) (m₉ 98) (m₉ 101) (m₉ 102) (m₉ 103) (m₉ 107) (m₉ 108) (m₉ 109) (m₉ 111) (m₉ 112) (m₉ 113) (m₉ 114) (m₉ 94 55) (m₉ 94 46) (m₉ 94 11) (m₉ 94 12) (m₉ 94 62) (m₉ 94 17) (m₉ 94 9) (aNc aa (qNo (m₉ 100) wa) (qNo (m₉ 100) is))) → (qI (aNc aa (qNo (m₉ 100) wa) (qNo (m₉ 100) is))) → ((aNc aa (qNo (m₉ 100) wa) (qNo (m₉ 100) is)) 87 8 = (m₉ 94 58)) → (qGQ (m₉ 94 58) (m₉ 106) (m₉ 115) (m₉ 94 57) (m₉ 94 56) (m₉ 99) (m₉ 100) (aNc aa (qNo (m₉ 100) wa) (qNo (m₉ 100) is))) → P none m₉ := by
    intro m₉ hf z q0 q1 q2 q3 q4
    have e := zov_eq hf
    rw [e] at z ⊢
    try rw [e] at q0
    try rw [e] at q1
    try rw [e] at q2
    try rw [e] at q3
    try rw [e] at q4
    exact KZ m₉ z q0 q1 q2 q3 q4
  refine g_240_0 wa is ?_
  have f1 : 0 ≤ (m 94 10).toInt ∧ (m 94 10).toInt ≤ 6 := rs_94_10 (m := m) hV
  have li2 : (5 : Int32).toInt = 5 := rfl
  refine zd (fun (h3 : (m 94 10) = (5 : Int32)) => ?_) (fun (h3 : ¬ (m 94 10) = (5 : Int32)) => ?_)
  · skip
    have g4 := i_eq h3
    have f5 : 0 ≤ (m 94 58).toInt ∧ (m 94 58).toInt ≤ 1 := rs_94_58 (m := m) hV
    have li6 : (0 : Int32).toInt = 0 := rfl
    refine zd (fun (h7 : (m 94 58) = (0 : Int32)) => ?_) (fun (h7 : ¬ (m 94 58) = (0 : Int32)) => ?_)
    · skip
      have g8 := i_eq h7
      exact K _ zF_rfl hV r_GG (show qRB (m 99) (m 100) (m 98) (m 101) (m 102) (m 103) (m 107) (m 108) (m 109) (m 111) (m 112) (m 113) (m 114) (m 94 55) (m 94 46) (m 94 11) (m 94 12) (m 94 62) (m 94 17) (m 94 9) (aNc aa (qNo (m 100) wa) (qNo (m 100) is)) from by first | (exact RB_of r_RB NC_of) | (exfalso; omega; done) | (exfalso; contradiction; done)) (show qI (aNc aa (qNo (m 100) wa) (qNo (m 100) is)) from by first | (exact qI_of r_QI NC_of) | (exfalso; omega; done) | (exfalso; contradiction; done)) (show (aNc aa (qNo (m 100) wa) (qNo (m 100) is)) 87 8 = (m 94 58) from by first | (exact (NC_of 87 8 (by decide) (by decide) (by decide)).symm.trans r_MK) | (exfalso; omega; done) | (exfalso; contradiction; done)) (show qGQ (m 94 58) (m 106) (m 115) (m 94 57) (m 94 56) (m 99) (m 100) (aNc aa (qNo (m 100) wa) (qNo (m 100) is)) from by first | (exact fun z => absurd (by omega) z) | (rw [show wa = is from by assumption, NC_s]; exact r_MQG; done) | (exact fun z => NC_skip r_RB (r_MQG z) (fun w => absurd (r_MK.symm.trans w) (by assumption)) r_UA r_UB (by omega) (by omega) (by assumption) (if_pos (by assumption)).symm (Or.inl (by omega))) | (exact fun z => NC_skip r_RB (r_MQG z) (fun w => absurd (r_MK.symm.trans w) (by assumption)) r_UA r_UB (by omega) (by omega) (by assumption) (if_pos (by assumption)).symm (Or.inr (by assumption))) | (exact fun z => NC_skip r_RB (r_MQG z) (fun w => absurd (r_MK.symm.trans w) (by assumption)) r_UA r_UB (by omega) (by omega) (by assumption) (if_neg (by assumption)).symm (Or.inl (by omega))) | (exact fun z => NC_skip r_RB (r_MQG z) (fun w => absurd (r_MK.symm.trans w) (by assumption)) r_UA r_UB (by omega) (by omega) (by assumption) (if_neg (by assumption)).symm (Or.inr (by assumption))) | (exfalso; omega; done) | (exfalso; contradiction; done))
    · skip
      have g9 := i_ne h7
      have b10 := i_bd wa
      have b11 := i_bd is
      refine zd (fun (h12 : wa = is) => ?_) (fun (h12 : ¬ wa = is) => ?_)
      · skip
        have g13 := i_eq h12
        exact K _ zF_rfl hV r_GG (show qRB (m 99) (m 100) (m 98) (m 101) (m 102) (m 103) (m 107) (m 108) (m 109) (m 111) (m 112) (m 113) (m 114) (m 94 55) (m 94 46) (m 94 11) (m 94 12) (m 94 62) (m 94 17) (m 94 9) (aNc aa (qNo (m 100) wa) (qNo (m 100) is)) from by first | (exact RB_of r_RB NC_of) | (exfalso; omega; done) | (exfalso; contradiction; done)) (show qI (aNc aa (qNo (m 100) wa) (qNo (m 100) is)) from by first | (exact qI_of r_QI NC_of) | (exfalso; omega; done) | (exfalso; contradiction; done)) (show (aNc aa (qNo (m 100) wa) (qNo (m 100) is)) 87 8 = (m 94 58) from by first | (exact (NC_of 87 8 (by decide) (by decide) (by decide)).symm.trans r_MK) | (exfalso; omega; done) | (exfalso; contradiction; done)) (show qGQ (m 94 58) (m 106) (m 115) (m 94 57) (m 94 56) (m 99) (m 100) (aNc aa (qNo (m 100) wa) (qNo (m 100) is)) from by first | (exact fun z => absurd (by omega) z) | (rw [show wa = is from by assumption, NC_s]; exact r_MQG; done) | (exact fun z => NC_skip r_RB (r_MQG z) (fun w => absurd (r_MK.symm.trans w) (by assumption)) r_UA r_UB (by omega) (by omega) (by assumption) (if_pos (by assumption)).symm (Or.inl (by omega))) | (exact fun z => NC_skip r_RB (r_MQG z) (fun w => absurd (r_MK.symm.trans w) (by assumption)) r_UA r_UB (by omega) (by omega) (by assumption) (if_pos (by assumption)).symm (Or.inr (by assumption))) | (exact fun z => NC_skip r_RB (r_MQG z) (fun w => absurd (r_MK.symm.trans w) (by assumption)) r_UA r_UB (by omega) (by omega) (by assumption) (if_neg (by assumption)).symm (Or.inl (by omega))) | (exact fun z => NC_skip r_RB (r_MQG z) (fun w => absurd (r_MK.symm.trans w) (by assumption)) r_UA r_UB (by omega) (by omega) (by assumption) (if_neg (by assumption)).symm (Or.inr (by assumption))) | (exfalso; omega; done) | (exfalso; contradiction; done))
      · skip
        have g14 := i_ne h12
        have f15 : 0 ≤ (m 94 9).toInt ∧ (m 94 9).toInt ≤ 1 := rs_94_9 (m := m) hV
        refine zd (fun (h16 : (m 94 9) = (0 : Int32)) => ?_) (fun (h16 : ¬ (m 94 9) = (0 : Int32)) => ?_)
        · skip
          have g17 := i_eq h16
          refine zd (fun (h18 : is < (0 : Int32)) => ?_) (fun (h18 : ¬ is < (0 : Int32)) => ?_)
          · skip
            have g19 := i_lt h18
            exact K _ zF_rfl hV r_GG (show qRB (m 99) (m 100) (m 98) (m 101) (m 102) (m 103) (m 107) (m 108) (m 109) (m 111) (m 112) (m 113) (m 114) (m 94 55) (m 94 46) (m 94 11) (m 94 12) (m 94 62) (m 94 17) (m 94 9) (aNc aa (qNo (m 100) wa) (qNo (m 100) is)) from by first | (exact RB_of r_RB NC_of) | (exfalso; omega; done) | (exfalso; contradiction; done)) (show qI (aNc aa (qNo (m 100) wa) (qNo (m 100) is)) from by first | (exact qI_of r_QI NC_of) | (exfalso; omega; done) | (exfalso; contradiction; done)) (show (aNc aa (qNo (m 100) wa) (qNo (m 100) is)) 87 8 = (m 94 58) from by first | (exact (NC_of 87 8 (by decide) (by decide) (by decide)).symm.trans r_MK) | (exfalso; omega; done) | (exfalso; contradiction; done)) (show qGQ (m 94 58) (m 106) (m 115) (m 94 57) (m 94 56) (m 99) (m 100) (aNc aa (qNo (m 100) wa) (qNo (m 100) is)) from by first | (exact fun z => absurd (by omega) z) | (rw [show wa = is from by assumption, NC_s]; exact r_MQG; done) | (exact fun z => NC_skip r_RB (r_MQG z) (fun w => absurd (r_MK.symm.trans w) (by assumption)) r_UA r_UB (by omega) (by omega) (by assumption) (if_pos (by assumption)).symm (Or.inl (by omega))) | (exact fun z => NC_skip r_RB (r_MQG z) (fun w => absurd (r_MK.symm.trans w) (by assumption)) r_UA r_UB (by omega) (by omega) (by assumption) (if_pos (by assumption)).symm (Or.inr (by assumption))) | (exact fun z => NC_skip r_RB (r_MQG z) (fun w => absurd (r_MK.symm.trans w) (by assumption)) r_UA r_UB (by omega) (by omega) (by assumption) (if_neg (by assumption)).symm (Or.inl (by omega))) | (exact fun z => NC_skip r_RB (r_MQG z) (fun w => absurd (r_MK.symm.trans w) (by assumption)) r_UA r_UB (by omega) (by omega) (by assumption) (if_neg (by assumption)).symm (Or.inr (by assumption))) | (exfalso; omega; done) | (exfalso; contradiction; done))
          · skip
            have g20 := i_nlt h18
            have hg21 : (0 ≤ is ∧ is.toNatClampNeg < 3100) := i_ix (by omega) (by omega)
            refine ⟨hg21, ?_⟩
            have b22 := i_bd (m 106 is.toNatClampNeg)
            refine zd (fun (h23 : (m 106 is.toNatClampNeg) = (0 : Int32)) => ?_) (fun (h23 : ¬ (m 106 is.toNatClampNeg) = (0 : Int32)) => ?_)
            · skip
              have g24 := i_eq h23
              have hg25 : (0 ≤ is ∧ is.toNatClampNeg < 3100) := i_ix (by omega) (by omega)
              refine ⟨hg25, ?_⟩
              have f26 : 0 ≤ (m 94 56).toInt ∧ (m 94 56).toInt ≤ 3100 := rs_94_56 (m := m) hV
              try have gk := G1_room (r_GG (by omega)) (by assumption) (by omega)
              have hg27 : (0 ≤ (m 94 56) ∧ (m 94 56).toNatClampNeg < 3100) := i_ix (by omega) (by omega)
              refine ⟨hg27, ?_⟩
              have hV28 : zV (ma_u m 106 is.toNatClampNeg (1 : Int32)) := ua_106 hV
              have hV29 : zV (ma_u (ma_u m 106 is.toNatClampNeg (1 : Int32)) 115 (m 94 56).toNatClampNeg is) := ua_115 hV28 (by omega) (by omega)
              first | have e31 : ((m 94 56) + (1 : Int32)).toInt = (m 94 56).toInt + (1) := i_addk rfl (by omega) (by omega) | have b32 := i_bd ((m 94 56) + (1 : Int32))
              have hV30 : zV (ma_u (ma_u (ma_u m 106 is.toNatClampNeg (1 : Int32)) 115 (m 94 56).toNatClampNeg is) 94 56 ((m 94 56) + (1 : Int32))) := us_94_56 hV29 (by omega) (by omega)
              exact K _ (zF_u (zF_u (zF_u zF_rfl rfl) rfl) rfl) hV30 (show zGG (m 94 58) ((m 94 56) + (1 : Int32)) (m 94 57) ((ma_u m 106 is.toNatClampNeg (1 : Int32)) 106) from by first | (exact fun z => G1_push (r_GG z) (by assumption) (by omega) (by decide) (by assumption)) | (exact fun z => absurd z (by decide)) | (exact fun z => absurd z (by omega)) | (exfalso; omega; done) | (exfalso; contradiction; done)) (show qRB (m 99) (m 100) (m 98) (m 101) (m 102) (m 103) (m 107) (m 108) (m 109) (m 111) (m 112) (m 113) (m 114) (m 94 55) (m 94 46) (m 94 11) (m 94 12) (m 94 62) (m 94 17) (m 94 9) (aNc aa (qNo (m 100) wa) (qNo (m 100) is)) from by first | (exact RB_of r_RB NC_of) | (exfalso; omega; done) | (exfalso; contradiction; done)) (show qI (aNc aa (qNo (m 100) wa) (qNo (m 100) is)) from by first | (exact qI_of r_QI NC_of) | (exfalso; omega; done) | (exfalso; contradiction; done)) (show (aNc aa (qNo (m 100) wa) (qNo (m 100) is)) 87 8 = (m 94 58) from by first | (exact (NC_of 87 8 (by decide) (by decide) (by decide)).symm.trans r_MK) | (exfalso; omega; done) | (exfalso; contradiction; done)) (show qGQ (m 94 58) ((ma_u m 106 is.toNatClampNeg (1 : Int32)) 106) ((ma_u m 115 (m 94 56).toNatClampNeg is) 115) (m 94 57) ((m 94 56) + (1 : Int32)) (m 99) (m 100) (aNc aa (qNo (m 100) wa) (qNo (m 100) is)) from by first | (exact fun z => NC_push r_RB (r_MQG z) (fun w => absurd (r_MK.symm.trans w) (by assumption)) r_UA r_UB (by omega) (by omega) (by assumption) (if_pos (by assumption)).symm (by omega) (by assumption)) | (exact fun z => NC_push r_RB (r_MQG z) (fun w => absurd (r_MK.symm.trans w) (by assumption)) r_UA r_UB (by omega) (by omega) (by assumption) (if_neg (by assumption)).symm (by omega) (by assumption)) | (exfalso; omega; done) | (exfalso; contradiction; done))
            · skip
              have g33 := i_ne h23
              exact K _ zF_rfl hV r_GG (show qRB (m 99) (m 100) (m 98) (m 101) (m 102) (m 103) (m 107) (m 108) (m 109) (m 111) (m 112) (m 113) (m 114) (m 94 55) (m 94 46) (m 94 11) (m 94 12) (m 94 62) (m 94 17) (m 94 9) (aNc aa (qNo (m 100) wa) (qNo (m 100) is)) from by first | (exact RB_of r_RB NC_of) | (exfalso; omega; done) | (exfalso; contradiction; done)) (show qI (aNc aa (qNo (m 100) wa) (qNo (m 100) is)) from by first | (exact qI_of r_QI NC_of) | (exfalso; omega; done) | (exfalso; contradiction; done)) (show (aNc aa (qNo (m 100) wa) (qNo (m 100) is)) 87 8 = (m 94 58) from by first | (exact (NC_of 87 8 (by decide) (by decide) (by decide)).symm.trans r_MK) | (exfalso; omega; done) | (exfalso; contradiction; done)) (show qGQ (m 94 58) (m 106) (m 115) (m 94 57) (m 94 56) (m 99) (m 100) (aNc aa (qNo (m 100) wa) (qNo (m 100) is)) from by first | (exact fun z => absurd (by omega) z) | (rw [show wa = is from by assumption, NC_s]; exact r_MQG; done) | (exact fun z => NC_skip r_RB (r_MQG z) (fun w => absurd (r_MK.symm.trans w) (by assumption)) r_UA r_UB (by omega) (by omega) (by assumption) (if_pos (by assumption)).symm (Or.inl (by omega))) | (exact fun z => NC_skip r_RB (r_MQG z) (fun w => absurd (r_MK.symm.trans w) (by assumption)) r_UA r_UB (by omega) (by omega) (by assumption) (if_pos (by assumption)).symm (Or.inr (by assumption))) | (exact fun z => NC_skip r_RB (r_MQG z) (fun w => absurd (r_MK.symm.trans w) (by assumption)) r_UA r_UB (by omega) (by omega) (by assumption) (if_neg (by assumption)).symm (Or.inl (by omega))) | (exact fun z => NC_skip r_RB (r_MQG z) (fun w => absurd (r_MK.symm.trans w) (by assumption)) r_UA r_UB (by omega) (by omega) (by assumption) (if_neg (by assumption)).symm (Or.inr (by assumption))) | (exfalso; omega; done) | (exfalso; contradiction; done))
        · skip
          have g34 := i_ne h16
          refine zd (fun (h35 : wa < (0 : Int32)) => ?_) (fun (h35 : ¬ wa < (0 : Int32)) => ?_)
          · skip
            have g36 := i_lt h35
            exact K _ zF_rfl hV r_GG (show qRB (m 99) (m 100) (m 98) (m 101) (m 102) (m 103) (m 107) (m 108) (m 109) (m 111) (m 112) (m 113) (m 114) (m 94 55) (m 94 46) (m 94 11) (m 94 12) (m 94 62) (m 94 17) (m 94 9) (aNc aa (qNo (m 100) wa) (qNo (m 100) is)) from by first | (exact RB_of r_RB NC_of) | (exfalso; omega; done) | (exfalso; contradiction; done)) (show qI (aNc aa (qNo (m 100) wa) (qNo (m 100) is)) from by first | (exact qI_of r_QI NC_of) | (exfalso; omega; done) | (exfalso; contradiction; done)) (show (aNc aa (qNo (m 100) wa) (qNo (m 100) is)) 87 8 = (m 94 58) from by first | (exact (NC_of 87 8 (by decide) (by decide) (by decide)).symm.trans r_MK) | (exfalso; omega; done) | (exfalso; contradiction; done)) (show qGQ (m 94 58) (m 106) (m 115) (m 94 57) (m 94 56) (m 99) (m 100) (aNc aa (qNo (m 100) wa) (qNo (m 100) is)) from by first | (exact fun z => absurd (by omega) z) | (rw [show wa = is from by assumption, NC_s]; exact r_MQG; done) | (exact fun z => NC_skip r_RB (r_MQG z) (fun w => absurd (r_MK.symm.trans w) (by assumption)) r_UA r_UB (by omega) (by omega) (by assumption) (if_pos (by assumption)).symm (Or.inl (by omega))) | (exact fun z => NC_skip r_RB (r_MQG z) (fun w => absurd (r_MK.symm.trans w) (by assumption)) r_UA r_UB (by omega) (by omega) (by assumption) (if_pos (by assumption)).symm (Or.inr (by assumption))) | (exact fun z => NC_skip r_RB (r_MQG z) (fun w => absurd (r_MK.symm.trans w) (by assumption)) r_UA r_UB (by omega) (by omega) (by assumption) (if_neg (by assumption)).symm (Or.inl (by omega))) | (exact fun z => NC_skip r_RB (r_MQG z) (fun w => absurd (r_MK.symm.trans w) (by assumption)) r_UA r_UB (by omega) (by omega) (by assumption) (if_neg (by assumption)).symm (Or.inr (by assumption))) | (exfalso; omega; done) | (exfalso; contradiction; done))
          · skip
            have g37 := i_nlt h35
            have hg38 : (0 ≤ wa ∧ wa.toNatClampNeg < 3100) := i_ix (by omega) (by omega)
            refine ⟨hg38, ?_⟩
            have b39 := i_bd (m 106 wa.toNatClampNeg)
            refine zd (fun (h40 : (m 106 wa.toNatClampNeg) = (0 : Int32)) => ?_) (fun (h40 : ¬ (m 106 wa.toNatClampNeg) = (0 : Int32)) => ?_)
            · skip
              have g41 := i_eq h40
              have hg42 : (0 ≤ wa ∧ wa.toNatClampNeg < 3100) := i_ix (by omega) (by omega)
              refine ⟨hg42, ?_⟩
              have f43 : 0 ≤ (m 94 56).toInt ∧ (m 94 56).toInt ≤ 3100 := rs_94_56 (m := m) hV
              try have gk := G1_room (r_GG (by omega)) (by assumption) (by omega)
              have hg44 : (0 ≤ (m 94 56) ∧ (m 94 56).toNatClampNeg < 3100) := i_ix (by omega) (by omega)
              refine ⟨hg44, ?_⟩
              have hV45 : zV (ma_u m 106 wa.toNatClampNeg (1 : Int32)) := ua_106 hV
              have hV46 : zV (ma_u (ma_u m 106 wa.toNatClampNeg (1 : Int32)) 115 (m 94 56).toNatClampNeg wa) := ua_115 hV45 (by omega) (by omega)
              first | have e48 : ((m 94 56) + (1 : Int32)).toInt = (m 94 56).toInt + (1) := i_addk rfl (by omega) (by omega) | have b49 := i_bd ((m 94 56) + (1 : Int32))
              have hV47 : zV (ma_u (ma_u (ma_u m 106 wa.toNatClampNeg (1 : Int32)) 115 (m 94 56).toNatClampNeg wa) 94 56 ((m 94 56) + (1 : Int32))) := us_94_56 hV46 (by omega) (by omega)
              exact K _ (zF_u (zF_u (zF_u zF_rfl rfl) rfl) rfl) hV47 (show zGG (m 94 58) ((m 94 56) + (1 : Int32)) (m 94 57) ((ma_u m 106 wa.toNatClampNeg (1 : Int32)) 106) from by first | (exact fun z => G1_push (r_GG z) (by assumption) (by omega) (by decide) (by assumption)) | (exact fun z => absurd z (by decide)) | (exact fun z => absurd z (by omega)) | (exfalso; omega; done) | (exfalso; contradiction; done)) (show qRB (m 99) (m 100) (m 98) (m 101) (m 102) (m 103) (m 107) (m 108) (m 109) (m 111) (m 112) (m 113) (m 114) (m 94 55) (m 94 46) (m 94 11) (m 94 12) (m 94 62) (m 94 17) (m 94 9) (aNc aa (qNo (m 100) wa) (qNo (m 100) is)) from by first | (exact RB_of r_RB NC_of) | (exfalso; omega; done) | (exfalso; contradiction; done)) (show qI (aNc aa (qNo (m 100) wa) (qNo (m 100) is)) from by first | (exact qI_of r_QI NC_of) | (exfalso; omega; done) | (exfalso; contradiction; done)) (show (aNc aa (qNo (m 100) wa) (qNo (m 100) is)) 87 8 = (m 94 58) from by first | (exact (NC_of 87 8 (by decide) (by decide) (by decide)).symm.trans r_MK) | (exfalso; omega; done) | (exfalso; contradiction; done)) (show qGQ (m 94 58) ((ma_u m 106 wa.toNatClampNeg (1 : Int32)) 106) ((ma_u m 115 (m 94 56).toNatClampNeg wa) 115) (m 94 57) ((m 94 56) + (1 : Int32)) (m 99) (m 100) (aNc aa (qNo (m 100) wa) (qNo (m 100) is)) from by first | (exact fun z => NC_push r_RB (r_MQG z) (fun w => absurd (r_MK.symm.trans w) (by assumption)) r_UA r_UB (by omega) (by omega) (by assumption) (if_pos (by assumption)).symm (by omega) (by assumption)) | (exact fun z => NC_push r_RB (r_MQG z) (fun w => absurd (r_MK.symm.trans w) (by assumption)) r_UA r_UB (by omega) (by omega) (by assumption) (if_neg (by assumption)).symm (by omega) (by assumption)) | (exfalso; omega; done) | (exfalso; contradiction; done))
            · skip
              have g50 := i_ne h40
              exact K _ zF_rfl hV r_GG (show qRB (m 99) (m 100) (m 98) (m 101) (m 102) (m 103) (m 107) (m 108) (m 109) (m 111) (m 112) (m 113) (m 114) (m 94 55) (m 94 46) (m 94 11) (m 94 12) (m 94 62) (m 94 17) (m 94 9) (aNc aa (qNo (m 100) wa) (qNo (m 100) is)) from by first | (exact RB_of r_RB NC_of) | (exfalso; omega; done) | (exfalso; contradiction; done)) (show qI (aNc aa (qNo (m 100) wa) (qNo (m 100) is)) from by first | (exact qI_of r_QI NC_of) | (exfalso; omega; done) | (exfalso; contradiction; done)) (show (aNc aa (qNo (m 100) wa) (qNo (m 100) is)) 87 8 = (m 94 58) from by first | (exact (NC_of 87 8 (by decide) (by decide) (by decide)).symm.trans r_MK) | (exfalso; omega; done) | (exfalso; contradiction; done)) (show qGQ (m 94 58) (m 106) (m 115) (m 94 57) (m 94 56) (m 99) (m 100) (aNc aa (qNo (m 100) wa) (qNo (m 100) is)) from by first | (exact fun z => absurd (by omega) z) | (rw [show wa = is from by assumption, NC_s]; exact r_MQG; done) | (exact fun z => NC_skip r_RB (r_MQG z) (fun w => absurd (r_MK.symm.trans w) (by assumption)) r_UA r_UB (by omega) (by omega) (by assumption) (if_pos (by assumption)).symm (Or.inl (by omega))) | (exact fun z => NC_skip r_RB (r_MQG z) (fun w => absurd (r_MK.symm.trans w) (by assumption)) r_UA r_UB (by omega) (by omega) (by assumption) (if_pos (by assumption)).symm (Or.inr (by assumption))) | (exact fun z => NC_skip r_RB (r_MQG z) (fun w => absurd (r_MK.symm.trans w) (by assumption)) r_UA r_UB (by omega) (by omega) (by assumption) (if_neg (by assumption)).symm (Or.inl (by omega))) | (exact fun z => NC_skip r_RB (r_MQG z) (fun w => absurd (r_MK.symm.trans w) (by assumption)) r_UA r_UB (by omega) (by omega) (by assumption) (if_neg (by assumption)).symm (Or.inr (by assumption))) | (exfalso; omega; done) | (exfalso; contradiction; done))
  · skip
    have g51 := i_ne h3
    exfalso; omega
theorem sp_241r {X : Nat × (Nat → Int32)} {P : Option ma_V → (Nat → Nat → Int32) → Prop} {m : Nat → Nat → Int32} (s : Int32) (hV : zV m) (hpre0 : (m 94 10).toInt = 5) (KZ : ∀ m₉, zV (zov wr_241 m m₉) → ((m₉ 99) = (m 99) ∧ (m₉ 105) = (m 105) ∧ (m₉ 109) = (m 109) ∧ (m₉ 111) = (m 111) ∧ (m₉ 113) = (m 113) ∧ (m₉ 114) = (m 114) ∧ (m₉ 94 55) = (m 94 55) ∧ (m₉ 94 45) = (m 94 45)) → P none (zov wr_241 m m₉)) : zm X 3 64 241 0 [(0, .inr (.inr (some 94))), (1, .inl s)] m P := by
  have K : ∀ m₉, zF wr_241 m m₉ → zV m₉ → ((m₉ 99) = (m 99) ∧ (m₉ 105) = (m 105) ∧ (m₉ 109) = (m 109) ∧ (m₉ 111) = (m 111) ∧ (m₉ 113) = (m 113) ∧ (m₉ 114) = (m 114) ∧ (m₉ 94 55) = (m 94 55) ∧ (m₉ 94 45) = (m 94 45)) → P none m₉ := by
    intro m₉ hf z q0
    have e := zov_eq hf
    rw [e] at z ⊢
    try rw [e] at q0
    exact KZ m₉ z q0
  refine g_241_0 s ?_
  have f1 : 0 ≤ (m 94 10).toInt ∧ (m 94 10).toInt ≤ 6 := rs_94_10 (m := m) hV
  have b2 := i_bd s
  have li3 : (0 : Int32).toInt = 0 := rfl
  refine zd (fun (h4 : s < (0 : Int32)) => ?_) (fun (h4 : ¬ s < (0 : Int32)) => ?_)
  · skip
    have g5 := i_lt h4
    exact K _ zF_rfl hV (show (m 99) = (m 99) ∧ (m 105) = (m 105) ∧ (m 109) = (m 109) ∧ (m 111) = (m 111) ∧ (m 113) = (m 113) ∧ (m 114) = (m 114) ∧ (m 94 55) = (m 94 55) ∧ (m 94 45) = (m 94 45) from by first | (exact ⟨rfl, rfl, rfl, rfl, rfl, rfl, rfl, rfl⟩) | (exfalso; omega; done) | (exfalso; contradiction; done))
  · skip
    have g6 := i_nlt h4
    have li7 : (4 : Int32).toInt = 4 := rfl
    refine zd (fun (h8 : (m 94 10) = (4 : Int32)) => ?_) (fun (h8 : ¬ (m 94 10) = (4 : Int32)) => ?_)
    · skip
      have g9 := i_eq h8
      exfalso; omega
    · skip
      have g10 := i_ne h8
      exact K _ zF_rfl hV (show (m 99) = (m 99) ∧ (m 105) = (m 105) ∧ (m 109) = (m 109) ∧ (m 111) = (m 111) ∧ (m 113) = (m 113) ∧ (m 114) = (m 114) ∧ (m 94 55) = (m 94 55) ∧ (m 94 45) = (m 94 45) from by first | (exact ⟨rfl, rfl, rfl, rfl, rfl, rfl, rfl, rfl⟩) | (exfalso; omega; done) | (exfalso; contradiction; done))

/-! from 95.h22 -/
/-! the reference by numbers (written by wip/tools/gen18r.py) -/
theorem sp_238r {X : Nat × (Nat → Int32)} {P : Option ma_V → (Nat → Nat → Int32) → Prop} {T : Nat} {aa : Nat→Nat→Int32} {m : Nat → Nat → Int32} (r1 : Int32) (s : Int32) (hV : zV m) (hpre0 : 0 ≤ r1.toInt) (hpre1 : r1.toInt ≤ 15) (hpre2 : -1 ≤ s.toInt) (hpre3 : s.toInt ≤ 3099) (hpre4 : (m 94 10).toInt = 5) (r_W : zW (m 94 7) (m 98) (m 101) (m 102) (m 108)) (r_GW : zGW T (m 94 55) (m 109)) (r_GU : zGU T (m 94 46) (m 99)) (r_OW : zOw (m 99) (m 103) (m 111)) (r_GG : zGG (m 94 58) (m 94 56) (m 94 57) (m 106)) (r_RB : qRB (m 99) (m 100) (m 98) (m 101) (m 102) (m 103) (m 107) (m 108) (m 109) (m 111) (m 112) (m 113) (m 114) (m 94 55) (m 94 46) (m 94 11) (m 94 12) (m 94 62) (m 94 17) (m 94 9) aa) (r_QI : qI aa) (r_MG : qMG (m 94 58) (m 106) (m 115) (m 94 57) (m 94 56) (m 99) (m 100) aa) (r_MK : aa 87 8 = (m 94 58)) (r_WTS : (m 94 45).toInt = sm (zbU (m 99)) (m 102) 3100) (r_US : qU (m 99) s) (r_MS : qMS (m 94 58) aa (qNo (m 100) s)) (KZ : ∀ m₉, zV (zov wr_238 m m₉) → (zGW T (m₉ 94 55) (m₉ 109)) → (zGU T (m 94 46) (m₉ 99)) → (zOw (m₉ 99) (m 103) (m₉ 111)) → (zGG (m 94 58) (m₉ 94 56) (m 94 57) (m₉ 106)) → (qRB (m₉ 99) (m 100) (m 98) (m 101) (m 102) (m 103) (m 107) (m 108) (m₉ 109) (m₉ 111) (m₉ 112) (m₉ 113) (m₉ 114) (m₉ 94 55) (m 94 46) (m 94 11) (m 94 12) (m 94 62) (m 94 17) (m 94 9) (aRt aa r1 (qNo (m 100) s))) → (qI (aRt aa r1 (qNo (m 100) s))) → (qMG (m 94 58) (m₉ 106) (m₉ 115) (m 94 57) (m₉ 94 56) (m₉ 99) (m 100) (aRt aa r1 (qNo (m 100) s))) → ((aRt aa r1 (qNo (m 100) s)) 87 8 = (m 94 58)) → ((m₉ 94 45).toInt = sm (zbU (m₉ 99)) (m 102) 3100) → P none (zov wr_238 m m₉)) : zm X 4 88 238 0 [(0, .inr (.inr (some 94))), (1, .inl r1), (2, .inl s)] m P := by
  have K : ∀ m₉, zF wr_238 m m₉ → zV m₉ → (zGW T (m₉ 94 55) (m₉ 109)) → (zGU T (m₉ 94 46) (m₉ 99)) → (zOw (m₉ 99) (m₉ 103) (m₉ 111)) → (zGG (m₉ 94 58) (m₉ 94 56) (m₉ 94 57) (m₉ 106)) → (qRB (m₉ 99) (m₉ 100) (m₉ 98) (m₉ 101) (m₉ 102) (m₉ 103) (m₉ 107) (m₉ 108) (m₉ 109) (m₉ 111) (m₉ 112) (m₉ 113) (m₉ 114) (m₉ 94 55) (m₉ 94 46) (m₉ 94 11) (m₉ 94 12) (m₉ 94 62) (m₉ 94 17) (m₉ 94 9) (aRt aa r1 (qNo (m₉ 100) s))) → (qI (aRt aa r1 (qNo (m₉ 100) s))) → (qMG (m₉ 94 58) (m₉ 106) (m₉ 115) (m₉ 94 57) (m₉ 94 56) (m₉ 99) (m₉ 100) (aRt aa r1 (qNo (m₉ 100) s))) → ((aRt aa r1 (qNo (m₉ 100) s)) 87 8 = (m₉ 94 58)) → ((m₉ 94 45).toInt = sm (zbU (m₉ 99)) (m₉ 102) 3100) → P none m₉ := by
    intro m₉ hf z q0 q1 q2 q3 q4 q5 q6 q7 q8
    have e := zov_eq hf
    rw [e] at z ⊢
    try rw [e] at q0
    try rw [e] at q1
    try rw [e] at q2
    try rw [e] at q3
    try rw [e] at q4
    try rw [e] at q5
    try rw [e] at q6
    try rw [e] at q7
    try rw [e] at q8
    exact KZ m₉ z q0 q1 q2 q3 q4 q5 q6 q7 q8
  refine g_238_0 r1 s ?_
  have f1 : 0 ≤ (m 94 10).toInt ∧ (m 94 10).toInt ≤ 6 := rs_94_10 (m := m) hV
  have b2 := i_bd r1
  have hg3 : (0 ≤ r1 ∧ r1.toNatClampNeg < 16) := i_ix (by omega) (by omega)
  refine ⟨hg3, ?_⟩
  have b4 := i_bd s
  have li5 : (0 : Int32).toInt = 0 := rfl
  refine zd (fun (h6 : s < (0 : Int32)) => ?_) (fun (h6 : ¬ s < (0 : Int32)) => ?_)
  · skip
    have g7 := i_lt h6
    have hg8 : (0 ≤ r1 ∧ r1.toNatClampNeg < 16) := i_ix (by omega) (by omega)
    refine ⟨hg8, ?_⟩
    first | have f9 : -1 ≤ (m 112 r1.toNatClampNeg).toInt ∧ (m 112 r1.toNatClampNeg).toInt ≤ 3099 := ra_112 (m := m) hV (k := r1.toNatClampNeg) (i_ix (n := 16) (by omega) (by omega)).2 | have b10 := i_bd (m 112 r1.toNatClampNeg)
    have hV11 : zV (ma_u m 112 r1.toNatClampNeg s) := ua_112 hV (by omega) (by omega)
    refine sp_240r (aa := (ma_u aa 72 r1.toNatClampNeg (qNo (m 100) s))) ((m 112 r1.toNatClampNeg)) (s) hV11 (show (m 94 10).toInt = 5 from by omega) (by omega) (by omega) (by omega) (by omega) r_GG (show qRB (m 99) (m 100) (m 98) (m 101) (m 102) (m 103) (m 107) (m 108) (m 109) (m 111) ((ma_u m 112 r1.toNatClampNeg s) 112) (m 113) (m 114) (m 94 55) (m 94 46) (m 94 11) (m 94 12) (m 94 62) (m 94 17) (m 94 9) (ma_u aa 72 r1.toNatClampNeg (qNo (m 100) s)) from by first | (exact RB_rt r_RB r_US) | (exfalso; omega; done) | (exfalso; contradiction; done)) (show qI (ma_u aa 72 r1.toNatClampNeg (qNo (m 100) s)) from by first | (exact I_u r_QI (Or.inl rfl)) | (exfalso; omega; done) | (exfalso; contradiction; done)) (show (ma_u aa 72 r1.toNatClampNeg (qNo (m 100) s)) 87 8 = (m 94 58) from by first | (exact (xu_o (by decide)).trans r_MK) | (rw [un (by decide)]; exact r_MK; done) | (exfalso; omega; done) | (exfalso; contradiction; done)) (show qU (m 99) (m 112 r1.toNatClampNeg) from by first | (exact (r_RB.2.2.1 r1.toNatClampNeg (by omega)).1) | (exfalso; omega; done) | (exfalso; contradiction; done)) (show qU (m 99) s from by first | (exact r_US) | (exfalso; omega; done) | (exfalso; contradiction; done)) (show qGQ (m 94 58) (m 106) (m 115) (m 94 57) (m 94 56) (m 99) (m 100) (ma_u aa 72 r1.toNatClampNeg (qNo (m 100) s)) from by first | (exact fun z => MQ_u (r_MG z).1 (by decide)) | (exfalso; omega; done) | (exfalso; contradiction; done)) (fun m1 hV_m1 p0_m1 p1_m1 p2_m1 p3_m1 p4_m1 => zmv_n ?_)
    have p0_m1 : zGG (m 94 58) (m1 94 56) (m 94 57) (m1 106) := p0_m1
    have p1_m1 : qRB (m 99) (m 100) (m 98) (m 101) (m 102) (m 103) (m 107) (m 108) (m 109) (m 111) ((ma_u m 112 r1.toNatClampNeg s) 112) (m 113) (m 114) (m 94 55) (m 94 46) (m 94 11) (m 94 12) (m 94 62) (m 94 17) (m 94 9) (aNc (ma_u aa 72 r1.toNatClampNeg (qNo (m 100) s)) (qNo (m 100) (m 112 r1.toNatClampNeg)) (qNo (m 100) s)) := p1_m1
    have p2_m1 : qI (aNc (ma_u aa 72 r1.toNatClampNeg (qNo (m 100) s)) (qNo (m 100) (m 112 r1.toNatClampNeg)) (qNo (m 100) s)) := p2_m1
    have p3_m1 : (aNc (ma_u aa 72 r1.toNatClampNeg (qNo (m 100) s)) (qNo (m 100) (m 112 r1.toNatClampNeg)) (qNo (m 100) s)) 87 8 = (m 94 58) := p3_m1
    have p4_m1 : qGQ (m 94 58) (m1 106) (m1 115) (m 94 57) (m1 94 56) (m 99) (m 100) (aNc (ma_u aa 72 r1.toNatClampNeg (qNo (m 100) s)) (qNo (m 100) (m 112 r1.toNatClampNeg)) (qNo (m 100) s)) := p4_m1
    refine sp_241r ((m 112 r1.toNatClampNeg)) hV_m1 (show (m 94 10).toInt = 5 from by omega) (fun m3 hV_m3 p0_m3 => zmv_n ?_)
    have p0_m3 : (m3 99) = (m 99) ∧ (m3 105) = (m 105) ∧ (m3 109) = (m 109) ∧ (m3 111) = (m 111) ∧ (m3 113) = (m 113) ∧ (m3 114) = (m 114) ∧ (m3 94 55) = (m 94 55) ∧ (m3 94 45) = (m 94 45) := p0_m3
    try have rgb := rs_94_64 hV
    try have lel := LE_lo p0_m3
    try have lex3 := LE_ex p0_m3 (lexi (by omega))
    try have lexi := LE_some p0_m3
    exact K _ (zF_zov (zF_zov (zF_u zF_rfl rfl) ws_240_238) ws_241_238) hV_m3 (show zGW T (m3 94 55) (m3 109) from by first | (rw [p0_m3.2.2.1, p0_m3.2.2.2.2.2.2.1]; exact r_GW; done) | (exfalso; omega; done) | (exfalso; contradiction; done)) (show zGU T (m 94 46) (m3 99) from by first | (rw [p0_m3.1]; exact r_GU; done) | (exact GU_0 r_GU) | (exfalso; omega; done) | (exfalso; contradiction; done)) (show zOw (m3 99) (m 103) (m3 111) from by first | (rw [p0_m3.1, p0_m3.2.2.2.1]; exact r_OW; done) | (exact Ow_rm r_OW (by decide) (tn_cast (by omega)).symm) | (exfalso; omega; done) | (exfalso; contradiction; done)) p0_m1 (show qRB (m3 99) (m 100) (m 98) (m 101) (m 102) (m 103) (m 107) (m 108) (m3 109) (m3 111) ((ma_u m 112 r1.toNatClampNeg s) 112) (m3 113) (m3 114) (m3 94 55) (m 94 46) (m 94 11) (m 94 12) (m 94 62) (m 94 17) (m 94 9) (aRt aa r1 (qNo (m 100) s)) from by first | (rw [(show aRt aa r1 (qNo (m 100) s) = aNc (ma_u aa 72 r1.toNatClampNeg (qNo (m 100) s)) (qNo (m 100) (m 112 r1.toNatClampNeg)) (qNo (m 100) s) from by unfold aRt; rw [Nm_no r_RB.1 r_US, (r_RB.2.2.1 r1.toNatClampNeg (by omega)).2]), p0_m3.1, p0_m3.2.2.1, p0_m3.2.2.2.1, p0_m3.2.2.2.2.1, p0_m3.2.2.2.2.2.1, p0_m3.2.2.2.2.2.2.1]; exact p1_m1; done) | (exfalso; omega; done) | (exfalso; contradiction; done)) (show qI (aRt aa r1 (qNo (m 100) s)) from by first | (rw [(show aRt aa r1 (qNo (m 100) s) = aNc (ma_u aa 72 r1.toNatClampNeg (qNo (m 100) s)) (qNo (m 100) (m 112 r1.toNatClampNeg)) (qNo (m 100) s) from by unfold aRt; rw [Nm_no r_RB.1 r_US, (r_RB.2.2.1 r1.toNatClampNeg (by omega)).2])]; exact p2_m1; done) | (exfalso; omega; done) | (exfalso; contradiction; done)) (show qMG (m 94 58) (m1 106) (m1 115) (m 94 57) (m1 94 56) (m3 99) (m 100) (aRt aa r1 (qNo (m 100) s)) from by first | (rw [(show aRt aa r1 (qNo (m 100) s) = aNc (ma_u aa 72 r1.toNatClampNeg (qNo (m 100) s)) (qNo (m 100) (m 112 r1.toNatClampNeg)) (qNo (m 100) s) from by unfold aRt; rw [Nm_no r_RB.1 r_US, (r_RB.2.2.1 r1.toNatClampNeg (by omega)).2]), p0_m3.1]; exact fun z => ⟨p4_m1 z, MI_rt (r_MG z).2 (r_MG z).1.2.2.2.2 (r_MS z)⟩; done) | (exfalso; omega; done) | (exfalso; contradiction; done)) (show (aRt aa r1 (qNo (m 100) s)) 87 8 = (m 94 58) from by first | (rw [(show aRt aa r1 (qNo (m 100) s) = aNc (ma_u aa 72 r1.toNatClampNeg (qNo (m 100) s)) (qNo (m 100) (m 112 r1.toNatClampNeg)) (qNo (m 100) s) from by unfold aRt; rw [Nm_no r_RB.1 r_US, (r_RB.2.2.1 r1.toNatClampNeg (by omega)).2])]; exact p3_m1; done) | (exfalso; omega; done) | (exfalso; contradiction; done)) (show (m3 94 45).toInt = sm (zbU (m3 99)) (m 102) 3100 from by first | (rw [p0_m3.1, p0_m3.2.2.2.2.2.2.2]; exact r_WTS; done) | (exfalso; omega; done) | (exfalso; contradiction; done))
  · skip
    have g12 := i_nlt h6
    have li13 : (4 : Int32).toInt = 4 := rfl
    refine zd (fun (h14 : (m 94 10) = (4 : Int32)) => ?_) (fun (h14 : ¬ (m 94 10) = (4 : Int32)) => ?_)
    · skip
      have g15 := i_eq h14
      exfalso; omega
    · skip
      have g16 := i_ne h14
      have hg17 : (0 ≤ r1 ∧ r1.toNatClampNeg < 16) := i_ix (by omega) (by omega)
      refine ⟨hg17, ?_⟩
      first | have f18 : -1 ≤ (m 112 r1.toNatClampNeg).toInt ∧ (m 112 r1.toNatClampNeg).toInt ≤ 3099 := ra_112 (m := m) hV (k := r1.toNatClampNeg) (i_ix (n := 16) (by omega) (by omega)).2 | have b19 := i_bd (m 112 r1.toNatClampNeg)
      have hV20 : zV (ma_u m 112 r1.toNatClampNeg s) := ua_112 hV (by omega) (by omega)
      refine sp_240r (aa := (ma_u aa 72 r1.toNatClampNeg (qNo (m 100) s))) ((m 112 r1.toNatClampNeg)) (s) hV20 (show (m 94 10).toInt = 5 from by omega) (by omega) (by omega) (by omega) (by omega) r_GG (show qRB (m 99) (m 100) (m 98) (m 101) (m 102) (m 103) (m 107) (m 108) (m 109) (m 111) ((ma_u m 112 r1.toNatClampNeg s) 112) (m 113) (m 114) (m 94 55) (m 94 46) (m 94 11) (m 94 12) (m 94 62) (m 94 17) (m 94 9) (ma_u aa 72 r1.toNatClampNeg (qNo (m 100) s)) from by first | (exact RB_rt r_RB r_US) | (exfalso; omega; done) | (exfalso; contradiction; done)) (show qI (ma_u aa 72 r1.toNatClampNeg (qNo (m 100) s)) from by first | (exact I_u r_QI (Or.inl rfl)) | (exfalso; omega; done) | (exfalso; contradiction; done)) (show (ma_u aa 72 r1.toNatClampNeg (qNo (m 100) s)) 87 8 = (m 94 58) from by first | (exact (xu_o (by decide)).trans r_MK) | (rw [un (by decide)]; exact r_MK; done) | (exfalso; omega; done) | (exfalso; contradiction; done)) (show qU (m 99) (m 112 r1.toNatClampNeg) from by first | (exact (r_RB.2.2.1 r1.toNatClampNeg (by omega)).1) | (exfalso; omega; done) | (exfalso; contradiction; done)) (show qU (m 99) s from by first | (exact r_US) | (exfalso; omega; done) | (exfalso; contradiction; done)) (show qGQ (m 94 58) (m 106) (m 115) (m 94 57) (m 94 56) (m 99) (m 100) (ma_u aa 72 r1.toNatClampNeg (qNo (m 100) s)) from by first | (exact fun z => MQ_u (r_MG z).1 (by decide)) | (exfalso; omega; done) | (exfalso; contradiction; done)) (fun m5 hV_m5 p0_m5 p1_m5 p2_m5 p3_m5 p4_m5 => zmv_n ?_)
      have p0_m5 : zGG (m 94 58) (m5 94 56) (m 94 57) (m5 106) := p0_m5
      have p1_m5 : qRB (m 99) (m 100) (m 98) (m 101) (m 102) (m 103) (m 107) (m 108) (m 109) (m 111) ((ma_u m 112 r1.toNatClampNeg s) 112) (m 113) (m 114) (m 94 55) (m 94 46) (m 94 11) (m 94 12) (m 94 62) (m 94 17) (m 94 9) (aNc (ma_u aa 72 r1.toNatClampNeg (qNo (m 100) s)) (qNo (m 100) (m 112 r1.toNatClampNeg)) (qNo (m 100) s)) := p1_m5
      have p2_m5 : qI (aNc (ma_u aa 72 r1.toNatClampNeg (qNo (m 100) s)) (qNo (m 100) (m 112 r1.toNatClampNeg)) (qNo (m 100) s)) := p2_m5
      have p3_m5 : (aNc (ma_u aa 72 r1.toNatClampNeg (qNo (m 100) s)) (qNo (m 100) (m 112 r1.toNatClampNeg)) (qNo (m 100) s)) 87 8 = (m 94 58) := p3_m5
      have p4_m5 : qGQ (m 94 58) (m5 106) (m5 115) (m 94 57) (m5 94 56) (m 99) (m 100) (aNc (ma_u aa 72 r1.toNatClampNeg (qNo (m 100) s)) (qNo (m 100) (m 112 r1.toNatClampNeg)) (qNo (m 100) s)) := p4_m5
      refine sp_241r ((m 112 r1.toNatClampNeg)) hV_m5 (show (m 94 10).toInt = 5 from by omega) (fun m7 hV_m7 p0_m7 => zmv_n ?_)
      have p0_m7 : (m7 99) = (m 99) ∧ (m7 105) = (m 105) ∧ (m7 109) = (m 109) ∧ (m7 111) = (m 111) ∧ (m7 113) = (m 113) ∧ (m7 114) = (m 114) ∧ (m7 94 55) = (m 94 55) ∧ (m7 94 45) = (m 94 45) := p0_m7
      try have rgb := rs_94_64 hV
      try have lel := LE_lo p0_m7
      try have lex3 := LE_ex p0_m7 (lexi (by omega))
      try have lexi := LE_some p0_m7
      exact K _ (zF_zov (zF_zov (zF_u zF_rfl rfl) ws_240_238) ws_241_238) hV_m7 (show zGW T (m7 94 55) (m7 109) from by first | (rw [p0_m7.2.2.1, p0_m7.2.2.2.2.2.2.1]; exact r_GW; done) | (exfalso; omega; done) | (exfalso; contradiction; done)) (show zGU T (m 94 46) (m7 99) from by first | (rw [p0_m7.1]; exact r_GU; done) | (exact GU_0 r_GU) | (exfalso; omega; done) | (exfalso; contradiction; done)) (show zOw (m7 99) (m 103) (m7 111) from by first | (rw [p0_m7.1, p0_m7.2.2.2.1]; exact r_OW; done) | (exact Ow_rm r_OW (by decide) (tn_cast (by omega)).symm) | (exfalso; omega; done) | (exfalso; contradiction; done)) p0_m5 (show qRB (m7 99) (m 100) (m 98) (m 101) (m 102) (m 103) (m 107) (m 108) (m7 109) (m7 111) ((ma_u m 112 r1.toNatClampNeg s) 112) (m7 113) (m7 114) (m7 94 55) (m 94 46) (m 94 11) (m 94 12) (m 94 62) (m 94 17) (m 94 9) (aRt aa r1 (qNo (m 100) s)) from by first | (rw [(show aRt aa r1 (qNo (m 100) s) = aNc (ma_u aa 72 r1.toNatClampNeg (qNo (m 100) s)) (qNo (m 100) (m 112 r1.toNatClampNeg)) (qNo (m 100) s) from by unfold aRt; rw [Nm_no r_RB.1 r_US, (r_RB.2.2.1 r1.toNatClampNeg (by omega)).2]), p0_m7.1, p0_m7.2.2.1, p0_m7.2.2.2.1, p0_m7.2.2.2.2.1, p0_m7.2.2.2.2.2.1, p0_m7.2.2.2.2.2.2.1]; exact p1_m5; done) | (exfalso; omega; done) | (exfalso; contradiction; done)) (show qI (aRt aa r1 (qNo (m 100) s)) from by first | (rw [(show aRt aa r1 (qNo (m 100) s) = aNc (ma_u aa 72 r1.toNatClampNeg (qNo (m 100) s)) (qNo (m 100) (m 112 r1.toNatClampNeg)) (qNo (m 100) s) from by unfold aRt; rw [Nm_no r_RB.1 r_US, (r_RB.2.2.1 r1.toNatClampNeg (by omega)).2])]; exact p2_m5; done) | (exfalso; omega; done) | (exfalso; contradiction; done)) (show qMG (m 94 58) (m5 106) (m5 115) (m 94 57) (m5 94 56) (m7 99) (m 100) (aRt aa r1 (qNo (m 100) s)) from by first | (rw [(show aRt aa r1 (qNo (m 100) s) = aNc (ma_u aa 72 r1.toNatClampNeg (qNo (m 100) s)) (qNo (m 100) (m 112 r1.toNatClampNeg)) (qNo (m 100) s) from by unfold aRt; rw [Nm_no r_RB.1 r_US, (r_RB.2.2.1 r1.toNatClampNeg (by omega)).2]), p0_m7.1]; exact fun z => ⟨p4_m5 z, MI_rt (r_MG z).2 (r_MG z).1.2.2.2.2 (r_MS z)⟩; done) | (exfalso; omega; done) | (exfalso; contradiction; done)) (show (aRt aa r1 (qNo (m 100) s)) 87 8 = (m 94 58) from by first | (rw [(show aRt aa r1 (qNo (m 100) s) = aNc (ma_u aa 72 r1.toNatClampNeg (qNo (m 100) s)) (qNo (m 100) (m 112 r1.toNatClampNeg)) (qNo (m 100) s) from by unfold aRt; rw [Nm_no r_RB.1 r_US, (r_RB.2.2.1 r1.toNatClampNeg (by omega)).2])]; exact p3_m5; done) | (exfalso; omega; done) | (exfalso; contradiction; done)) (show (m7 94 45).toInt = sm (zbU (m7 99)) (m 102) 3100 from by first | (rw [p0_m7.1, p0_m7.2.2.2.2.2.2.2]; exact r_WTS; done) | (exfalso; omega; done) | (exfalso; contradiction; done))

