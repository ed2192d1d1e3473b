/-! the reference opens a heap (written by wip/tools/gen15w.py) -/
/-! what holds under the moving collectors stays, whatever a call makes of ROOTS, WEAK ones, WISHES, words and wishes -/
/-- a link under AGES: the card too -/
noncomputable def yLi (a : Nat → Nat → Int32) (o i t : Int32) : Nat → Nat → Int32 := fun c => if c = 83 then yNl a o i t 83 else oLi a o i t c
section F41
variable {a b d X Y : Nat → Nat → Int32} {us nr gs kr kd ws at' ho wd wi ow rt wk wl dt tp : Nat → Int32} {wm nu ro fo le ra pi x y z i o t rm hf tq si rg sh pr yo ol ag cd ot : Int32} {n k c : Nat} {S S' : ma_S}
theorem Of_rx (h : zOf X b) (w : c ≠ 75 ∧ c ≠ 76 ∧ c ≠ 77) : b c = X c := funext (fun k => (h c k w.1 w.2.1 w.2.2).symm)
theorem Rw_r (r : zRw X a) (h : c ≠ 69 ∧ c ≠ 71 ∧ c ≠ 72 ∧ c ≠ 73 ∧ c ≠ 74 ∧ c ≠ 134) : X c = a c := r c h.1 h.2.1 h.2.2.1 h.2.2.2.1 h.2.2.2.2.1 h.2.2.2.2.2
theorem Tp_rw (h : qTp a) (r : zRw X a) : qTp X := Tp_cg h (Rw_r r (by decide)) (Rw_r r (by decide)) (Rw_r r (by decide)) (congrFun (Rw_r (c := 87) r (by decide)) 2)
theorem Tp_of (h : qTp X) (r : zOf X b) : qTp b := Tp_cg h (Of_rx r (by decide)) (Of_rx r (by decide)) (Of_rx r (by decide)) (congrFun (Of_rx (c := 87) r (by decide)) 2)
theorem Hv_rw (h : qHv a) (r : zRw X a) (hI : qI X) : qHv X := Hv_cg h (Rw_r r (by decide)) (Rw_r r (by decide)) (Rw_r r (by decide)) (Rw_r r (by decide)) (Rw_r r (by decide)) hI
theorem Hv_of (h : qHv X) (r : zOf X b) : qHv b := Hv_cg h (Of_rx r (by decide)) (Of_rx r (by decide)) (Of_rx r (by decide)) (Of_rx r (by decide)) (Of_rx r (by decide)) (qI_of h.1 r)
theorem HL_rw (h : qHL a rm hf tq) (r : zRw X a) : qHL X rm hf tq := HL_cg h (congrFun (Rw_r (c := 87) r (by decide)) 3) (congrFun (Rw_r (c := 87) r (by decide)) 4) (congrFun (Rw_r (c := 87) r (by decide)) 5)
theorem HL_of (h : qHL X rm hf tq) (r : zOf X b) : qHL b rm hf tq := HL_cg h (congrFun (Of_rx (c := 87) r (by decide)) 3) (congrFun (Of_rx (c := 87) r (by decide)) 4) (congrFun (Of_rx (c := 87) r (by decide)) 5)
theorem Rv_rw (h : qRv a) (r : zRw X a) (hI : qI X) : qRv X := Rv_cg h (Rw_r r (by decide)) (Rw_r r (by decide)) (Rw_r r (by decide)) (Rw_r r (by decide)) (Rw_r r (by decide)) hI
theorem Rv_of (h : qRv X) (r : zOf X b) : qRv b := Rv_cg h (Of_rx r (by decide)) (Of_rx r (by decide)) (Of_rx r (by decide)) (Of_rx r (by decide)) (Of_rx r (by decide)) (qI_of h.1 r)
theorem RL_rw (h : qRL a si rg sh pr tp) (r : zRw X a) : qRL X si rg sh pr tp := RL_cg h (Rw_r r (by decide)) (Rw_r r (by decide))
theorem RL_of (h : qRL X si rg sh pr tp) (r : zOf X b) : qRL b si rg sh pr tp := RL_cg h (Of_rx r (by decide)) (Of_rx r (by decide))
theorem AL_rw (h : qAL a yo ol ag cd tq ot hf) (r : zRw X a) : qAL X yo ol ag cd tq ot hf := AL_cg h (Rw_r r (by decide))
theorem AL_of (h : qAL X yo ol ag cd tq ot hf) (r : zOf X b) : qAL b yo ol ag cd tq ot hf := AL_cg h (Of_rx r (by decide))
theorem Ag_rw (h : qAg us nr gs a) (r : zRw X a) : qAg us nr gs X := Ag_cg h (Rw_r r (by decide))
theorem Ag_of (h : qAg us nr gs X) (r : zOf X b) : qAg us nr gs b := Ag_cg h (Of_rx r (by decide))
theorem Dt_rw (h : qDt dt a) (r : zRw X a) : qDt dt X := Dt_cg h (Rw_r r (by decide))
theorem Dt_of (h : qDt dt X) (r : zOf X b) : qDt dt b := Dt_cg h (Of_rx r (by decide))
/-! AGES: the cards -/
theorem Av_di (h : qAv a) : qDi a := h.2.2.2.2.2.2.2
theorem Di_cg (h : qDi a) (e1 : X 126 = a 126) (e2 : X 128 = a 128) (e3 : X 130 = a 130) (e7 : X 87 = a 87) (e8 : ∀ k, a 83 k ≠ 0 → X 83 k ≠ 0) (hr : ∀ (n i : Nat), xAl a n → (a 130 n).toInt < (a 87 9).toInt → (i : Int) < (a 128 n).toInt - 1 → aRef X n (Int32.ofNat i) = aRef a n (Int32.ofNat i) ∨ (gRw X n (Int32.ofNat i) → X 83 (gCx a n (i : Int)).toNat ≠ 0)) : qDi X := by
  intro n hn h9 i hi hg
  have al : xAl a n := by
    unfold xAl at hn ⊢
    rw [e1] at hn
    exact hn
  rw [e3, e7] at h9
  rw [e2] at hi
  have ec : gCx X n (i : Int) = gCx a n (i : Int) := by
    unfold gCx
    rw [e3, e7]
  rw [ec]
  rcases hr n i al h9 hi with r | r
  · unfold gRw at hg
    rw [r, e1, e7, e3] at hg
    exact e8 _ (h n al h9 i hi hg)
  · exact r hg
theorem Av_rw (h : qAv a) (r : zRw X a) (hI : qI X) (h71 : X 71 = a 71) : qAv X :=
  Av_mk (A0_cg (Av_0 h) hI (Rw_r r (by decide)) (Rw_r r (by decide)) (Rw_r r (by decide)) (Rw_r r (by decide)) (Rw_r r (by decide)) (Rw_r r (by decide)))
    (Di_cg (Av_di h) (Rw_r r (by decide)) (Rw_r r (by decide)) (Rw_r r (by decide)) (Rw_r r (by decide)) (fun k w => by rw [Rw_r (c := 83) r (by decide)]; exact w) (fun n i _ _ _ => Or.inl (rf_cg (Rw_r r (by omega)) (Rw_r r (by decide)) h71)))
theorem Av_of (h : qAv X) (r : zOf X b) : qAv b :=
  Av_mk (A0_cg (Av_0 h) (qI_of h.1 r) (Of_rx r (by decide)) (Of_rx r (by decide)) (Of_rx r (by decide)) (Of_rx r (by decide)) (Of_rx r (by decide)) (Of_rx r (by decide)))
    (Di_cg (Av_di h) (Of_rx r (by decide)) (Of_rx r (by decide)) (Of_rx r (by decide)) (Of_rx r (by decide)) (fun k w => by rw [Of_rx (c := 83) r (by decide)]; exact w) (fun n i _ _ _ => Or.inl (rf_cg (Of_rx r (by omega)) (Of_rx r (by decide)) (Of_rx r (by decide)))))
theorem wp_n (hI : qI a) (hn : xAl a n) (hi : (k : Int) < (a 128 n).toInt - 1) : qWp a n (Int32.ofNat k) ∧ (Int32.ofNat k).toInt = (k : Int) := by
  have q := hI.1 n hn
  have e : (Int32.ofNat k).toInt = (k : Int) := ofN_s (by omega)
  exact ⟨⟨hn, by omega, by omega⟩, e⟩
theorem Av_pu (h : qAv a) (hI : qI (xPu a o i x)) : qAv (xPu a o i x) := by
  by_cases w : zRq a o ∧ zHw a o i ∧ ¬ zIr a o i
  · have wp := Rq_wp w.1 w.2.1
    have e : xPu a o i x = ma_u a 71 (a 130 o.toNatClampNeg + 1 + i).toNatClampNeg x := (qIf_y w).trans (Ci_eq h.1 wp)
    rw [e] at hI ⊢
    refine Av_mk (A0_cg (Av_0 h) hI (un (by decide)) (un (by decide)) (un (by decide)) (un (by decide)) (un (by decide)) (un (by decide))) (Di_cg (Av_di h) (un (by decide)) (un (by decide)) (un (by decide)) (un (by decide)) (fun k w => by rw [un (by decide)]; exact w) (fun n j hn h9 hj => Or.inl ?_))
    rw [rf_w h.1 wp (wp_n h.1 hn hj).1]
    split
    · rename_i z
      rw [if_neg (show ¬ a (1000 + o.toNatClampNeg) i.toNatClampNeg ≠ 0 from w.2.2), z.1, z.2]
      exact (aRef_no (fun q => w.2.2 q.1)).symm
    · rfl
  · have e : xPu a o i x = a := qIf_n w
    rw [e]
    exact h
theorem nr_83 {q : Int} (h : a 83 k ≠ 0) : gNr a n q y 83 k ≠ 0 := by
  unfold gNr
  split
  · by_cases w : k = (gCx a n q).toNat
    · rw [w, xu_s]
      decide
    · rw [xu_o (fun z => w z.2)]
      exact h
  · exact h
theorem Ll_o (h : c ≠ 83) : yLi a o i t c = oLi a o i t c := if_neg h
theorem Ll_83 : yLi a o i t 83 = yNl a o i t 83 := if_pos rfl
theorem RB_ll (h : qRB us nr kr kd ws at' ho wd wi ow rt wk wl wm nu ro fo le ra pi (oLi a o i t)) : qRB us nr kr kd ws at' ho wd wi ow rt wk wl wm nu ro fo le ra pi (yLi a o i t) := RB_83 h (fun c hc => Ll_o hc)
theorem I_ll (hI : qI (oLi a o i t)) : qI (yLi a o i t) := I_cg hI (Ll_o (by decide)) (Ll_o (by decide)) (Ll_o (by decide)) (Ll_o (by decide)) (Ll_o (by decide)) (Ll_o (by decide)) (fun n => Ll_o (by omega))
theorem Av_li (h : qAv a) (hI : qI (oLi a o i t)) : qAv (yLi a o i t) := by
  have hI2 := I_ll hI
  by_cases w : zRq a o ∧ (t = -1 ∨ zRq a t) ∧ zHw a o i ∧ zIr a o i
  · have wp := Rq_wp w.1 w.2.2.1
    have e : oLi a o i t = ma_u a 71 (a 130 o.toNatClampNeg + 1 + i).toNatClampNeg (aNm a t) := (qIf_y w).trans (Ci_eq h.1 wp)
    have e8 : yNl a o i t = gNr a o.toNatClampNeg i.toInt t := qIf_y w
    have r : ∀ c, c ≠ 83 → c ≠ 71 → yLi a o i t c = a c := fun c h1 h2 => (Ll_o h1).trans (by rw [e]; exact un h2)
    refine Av_mk (A0_cg (Av_0 h) hI2 (r 126 (by decide) (by decide)) (r 87 (by decide) (by decide)) (r 130 (by decide) (by decide)) (r 128 (by decide) (by decide)) (r 131 (by decide) (by decide)) (r 133 (by decide) (by decide))) (Di_cg (Av_di h) (r 126 (by decide) (by decide)) (r 128 (by decide) (by decide)) (r 130 (by decide) (by decide)) (r 87 (by decide) (by decide)) (fun k w => by rw [Ll_83, e8]; exact nr_83 w) (fun n j hn h9 hj => ?_))
    have wj := wp_n h.1 hn hj
    have rf : aRef (yLi a o i t) n (Int32.ofNat j) = aRef (ma_u a 71 (a 130 o.toNatClampNeg + 1 + i).toNatClampNeg (aNm a t)) n (Int32.ofNat j) := by
      rw [← e]
      exact rf_cg (Ll_o (by omega)) (Ll_o (by decide)) (Ll_o (by decide))
    rw [rf_w h.1 wp wj.1] at rf
    by_cases z : n = o.toNatClampNeg ∧ Int32.ofNat j = i
    · refine Or.inr (fun g => ?_)
      rw [if_pos z, if_pos (show a (1000 + o.toNatClampNeg) i.toNatClampNeg ≠ 0 from w.2.2.2)] at rf
      unfold gRw at g
      rw [rf, r 126 (by decide) (by decide), r 87 (by decide) (by decide), r 130 (by decide) (by decide)] at g
      have ht : aNm a t = t := by
        unfold aNm at g ⊢
        split
        · rfl
        · rename_i q
          rw [if_neg q] at g
          exact absurd g.1 (by decide)
      rw [ht] at g
      have ej : (j : Int) = i.toInt := by rw [← z.2]; exact wj.2.symm
      have cx := cx_lt (Av_0 h) hn h9 hj
      have c12 := (Av_0 h).2.2.1.2.2.2.2
      rw [Ll_83, e8]
      unfold gNr
      rw [← z.1, ← ej, if_pos ⟨⟨g.1, g.2.1, g.2.2.1, g.2.2.2⟩, h9, by omega, cx.2⟩, xu_s]
      decide
    · rw [if_neg z] at rf
      exact Or.inl rf
  · have e : oLi a o i t = a := qIf_n w
    have e8 : yNl a o i t = a := qIf_n w
    have ey : yLi a o i t = a := funext (fun c => by
      by_cases q : c = 83
      · rw [q, Ll_83, e8]
      · rw [Ll_o q, e])
    rw [ey]
    exact h
/-- a hold of an OLD one -/
theorem Av_133 (h : qAv a) (ho : (a 130 n).toInt < (a 87 9).toInt) : qAv (ma_u a 133 n x) := by
  have hI : qI (ma_u a 133 n x) := I_u h.1 (Or.inr (Or.inr (Or.inl rfl)))
  have h0 := Av_0 h
  refine Av_mk ?_ (Di_cg (Av_di h) (un (by decide)) (un (by decide)) (un (by decide)) (un (by decide)) (fun k w => by rw [un (by decide)]; exact w) (fun n i _ _ _ => Or.inl (rf_cg (un (by omega)) (un (by decide)) (un (by decide)))))
  refine ⟨hI, ?_, ?_, ?_, ?_, ?_, fun m hm => ?_⟩
  · rw [un (by decide)]; exact h0.2.1
  · rw [un (by decide)]; exact h0.2.2.1
  · rw [un (by decide)]; exact h0.2.2.2.1
  · rw [un (n := 87) (by decide), Sy_cg (d := ma_u a 133 n x) (c := a) (un (by decide)) (un (by decide)) (un (by decide)) (un (by decide))]; exact h0.2.2.2.2.1
  · rw [un (by decide)]; exact h0.2.2.2.2.2.1
  · have hm2 : xAl a m := by
      unfold xAl at hm ⊢
      rw [un (by decide)] at hm
      exact hm
    have q := h0.2.2.2.2.2.2 m hm2
    unfold qA1 at q ⊢
    rw [un (n := 131) (by decide), un (n := 130) (by decide), un (n := 128) (by decide), un (n := 87) (by decide)]
    by_cases w : m = n
    · rw [w] at q ⊢
      exact ⟨q.1, q.2.1, fun z => absurd z (by omega)⟩
    · rw [xu_o (fun z => w z.2)]
      exact q
theorem Av_ho (h : qAv a) : qAv (yHo a o x) := by
  unfold yHo
  by_cases w : (a 130 o.toNatClampNeg).toInt < (a 87 9).toInt
  · rw [qIf_y w]
    unfold xHo
    by_cases z : zRq a o ∧ (¬ x = 0 ∨ ¬ a 133 o.toNatClampNeg = 0)
    · rw [qIf_y z]
      exact Av_133 h w
    · rw [qIf_n z]
      exact h
  · rw [qIf_n w]
    exact h
/-! the collectors' own heaps behind a call -/
theorem aS_z (h : c ≠ 87) (h1 : 78 ≤ c) (h2 : c < 126) : aS 75 S c k = 0 := by
  unfold aS aF
  rw [if_pos h2, if_neg (fun z => ?_)]
  simp only [zrl, Bool.or_eq_true, Bool.and_eq_true, decide_eq_true_eq] at z
  omega
theorem M_kp2 {q q' : Nat → Int32} (hx : zAy X Y (aM q S)) (hs : aS 88 S' = Y) (e : q' = q) : zOf X (aM q' S') := M_kp hx hs e (fun k c h h1 h2 => by rw [aS_z h (by omega) (by omega), aS_z h (by omega) (by omega)])
theorem G_kp (hx : zAy X Y (aG S)) (hs : aS 88 S' = Y) (e : mI S' 82 = mI S 82) (e3 : mI S' 83 = mI S 83) : zOf X (aG S') := fun c k h1 h2 h3 => by
  by_cases w : 82 ≤ c ∧ c ≤ 93
  · rw [hx.2 c k w.1 w.2]
    by_cases v : c = 87
    · rw [v, aG_7, aG_7]
      unfold zfG
      rw [e]
    · by_cases u : c = 83
      · rw [u, aG_8, aG_8, e3]
      · rw [aG_o v u, aG_o v u, aS_z v (by omega) (by omega), aS_z v (by omega) (by omega)]
  · rw [hx.1 c k h1 h2 h3 w, ← hs]
    exact (G_88 c k h1 h2 h3 w).symm
theorem G_kl (hx : zAy X Y (aG S)) (hs : aS 88 S' = Y) (e : mI S' 82 = mI S 82) (f : Nat → Int32) (e3 : mI S' 83 = f) : zOf (fun c => if c = 83 then f else X c) (aG S') := fun c k h1 h2 h3 => by
  by_cases u : c = 83
  · rw [u, aG_8, e3]
    rfl
  show (if c = 83 then f else X c) k = _
  rw [if_neg u]
  by_cases w : 82 ≤ c ∧ c ≤ 93
  · rw [hx.2 c k w.1 w.2]
    by_cases v : c = 87
    · rw [v, aG_7, aG_7]
      unfold zfG
      rw [e]
    · rw [aG_o v u, aG_o v u, aS_z v (by omega) (by omega), aS_z v (by omega) (by omega)]
  · rw [hx.1 c k h1 h2 h3 w, ← hs]
    exact (G_88 c k h1 h2 h3 w).symm
/-- row 93 is no matter -/
def zX93 (X : Nat → Nat → Int32) (f : Nat → Int32) : Nat → Nat → Int32 := fun c => if c = 93 then f else X c
theorem Z_kp (hx : zAy X Y (aZ S)) (hs : aS 88 S' = Y) (e : mI S' 91 = mI S 91) (e2 : mI S' 92 = mI S 92) : zOf (zX93 X (mI S' 93)) (aZ S') := fun c k h1 h2 h3 => by
  by_cases u : c = 93
  · rw [u, aZ_9 (Or.inr rfl)]
    rfl
  show (if c = 93 then mI S' 93 else X c) k = _
  rw [if_neg u]
  by_cases w : 82 ≤ c ∧ c ≤ 93
  · rw [hx.2 c k w.1 w.2]
    by_cases v : c = 87
    · rw [v, aZ_7, aZ_7]
      unfold zfZ
      rw [e]
    · by_cases u2 : c = 92
      · rw [u2, aZ_9 (Or.inl rfl), aZ_9 (Or.inl rfl), e2]
      · rw [aZ_o v u2 u, aZ_o v u2 u, aS_z v (by omega) (by omega), aS_z v (by omega) (by omega)]
  · rw [hx.1 c k h1 h2 h3 w, ← hs]
    exact (Z_88 c k h1 h2 h3 w).symm
theorem X93 (h : c ≠ 93) {f : Nat → Int32} : zX93 X f c = X c := if_neg h
theorem I_93 {f : Nat → Int32} (h : qI X) : qI (zX93 X f) := I_cg h (X93 (by decide)) (X93 (by decide)) (X93 (by decide)) (X93 (by decide)) (X93 (by decide)) (X93 (by decide)) (fun n => X93 (by omega))
theorem Rv_93 {f : Nat → Int32} (h : qRv X) : qRv (zX93 X f) := Rv_cg h (X93 (by decide)) (X93 (by decide)) (X93 (by decide)) (X93 (by decide)) (X93 (by decide)) (I_93 h.1)
theorem RL_93 {f : Nat → Int32} (h : qRL X si rg sh pr tp) : qRL (zX93 X f) si rg sh pr tp := RL_cg h (X93 (by decide)) (X93 (by decide))
theorem RB_93 {f : Nat → Int32} (h : qRB us nr kr kd ws at' ho wd wi ow rt wk wl wm nu ro fo le ra pi X) : qRB us nr kr kd ws at' ho wd wi ow rt wk wl wm nu ro fo le ra pi (zX93 X f) := by
  have rf : ∀ n i, aRef (zX93 X f) n i = aRef X n i := fun n i => rf_cg (X93 (by omega)) (X93 (by decide)) (X93 (by decide))
  obtain ⟨h1, h2, h3, h4, h5, h6, h7, h8⟩ := h
  refine ⟨?_, fun s hs hu i hi => ?_, ?_, ?_, ?_, ?_, h7, ?_⟩
  · unfold qR1 at h1 ⊢
    rw [X93 (c := 126) (by decide), X93 (c := 128) (by decide), X93 (c := 130) (by decide), X93 (c := 133) (by decide)]
    exact h1
  · rw [rf, X93 (c := 1000 + (nr s).toNatClampNeg) (by omega)]
    exact h2 s hs hu i hi
  · unfold qR3 at h3 ⊢
    rw [X93 (c := 72) (by decide)]
    exact h3
  · unfold qR3 at h4 ⊢
    rw [X93 (c := 73) (by decide)]
    exact h4
  · unfold qR5 at h5 ⊢
    rw [X93 (c := 69) (by decide), X93 (c := 74) (by decide)]
    exact h5
  · unfold qR6 at h6 ⊢
    rw [X93 (c := 134) (by decide)]
    exact h6
  · unfold qR8 at h8 ⊢
    rw [X93 (c := 69) (by decide), X93 (c := 87) (by decide)]
    exact h8
end F41
