/-! EVERY CALL: alike in both -/
section SM3
variable {a b c a' b' d : Nat → Nat → Int32} {x y z i r o t : Int32} {n k u v : Nat} {p q : Int}
theorem Hw_of (h : zOf a b) : zHw a o i ↔ zHw b o i := by
  unfold zHw
  rw [h 128 _ (by decide) (by decide) (by decide)]
theorem Ir_of (h : zOf a b) : zIr a o i ↔ zIr b o i := by
  unfold zIr
  rw [h (1000 + o.toNatClampNeg) _ (by omega) (by omega) (by omega)]
theorem Rq_wp (h : zRq b o) (hw : zHw b o i) : qWp b o.toNatClampNeg i := by
  have c := tn_cast h.1
  exact ⟨⟨by have := h.2.1; omega, h.2.2.1⟩, hw.1, hw.2⟩
theorem Wp_of (h : zOf a b) : qWp a n i ↔ qWp b n i := by
  unfold qWp
  rw [Of_al h, h 128 _ (by decide) (by decide) (by decide)]
theorem Sm_if {P Q : Prop} (e : P ↔ Q) (h1 : Q → qSm a' b') (h2 : qSm a b) : qSm (qIf P a' a) (qIf Q b' b) := by
  by_cases w : Q
  · rw [qIf_y w, qIf_y (e.mpr w)]
    exact h1 w
  · rw [qIf_n w, qIf_n (fun q => w (e.mp q))]
    exact h2
theorem Sm_pu (h : qSm a b) (hI : qI b) : qSm (xPu a o i x) (xPu b o i x) := by
  refine Sm_if ?_ (fun w => ?_) h
  · rw [Of_Rq h.1, Hw_of h.1, Ir_of h.1]
  · have W := Rq_wp w.1 w.2.1
    have Wa := (Wp_of h.1).mpr W
    have Ia := qI_of hI (Of_sy h.1)
    have r0 : b (1000 + o.toNatClampNeg) i.toNatClampNeg = 0 := Decidable.byContradiction (fun q => w.2.2 q)
    have r1 : a (1000 + o.toNatClampNeg) i.toNatClampNeg = 0 := by
      rw [h.1 (1000 + o.toNatClampNeg) _ (by omega) (by omega) (by omega)]
      exact r0
    have ga := Ed_pu (x := x) Ia Wa r1
    have gb := Ed_pu (x := x) hI W r0
    rw [Ci_eq hI W, Ci_eq Ia Wa]
    rw [h.1 130 _ (by decide) (by decide) (by decide)] at ga ⊢
    exact Sm_g h (of_u h.1) (un (by decide)) (un (by decide)) (un (by decide)) (un (by decide)) (un (by decide)) (un (by decide)) (un (by decide)) (un (by decide)) (un (by decide)) (un (by decide)) ga gb (un (by decide))
theorem JJ_nc (h : zJJ a b) : zJJ (aNc a y z) (aNc b y z) := by
  unfold aNc
  rw [h.1 87 8 (by decide) (by decide) (by decide), h.1 87 7 (by decide) (by decide) (by decide), Nm_of h.1, Nm_of (y := z) h.1]
  split
  · exact JJ_cm h
  · exact h
theorem NC_wn (hw : zWQ a) (hn : zNA a) : zWQ (aNc a y z) ∧ zNA (aNc a y z) := by
  unfold aNc
  split
  · exact ⟨WQ_cm hw, NA_gr hn (gr_cm hw)⟩
  · exact ⟨hw, hn⟩
theorem u_id (h : a n k = x) : ma_u a n k x = a := by
  funext c' k'
  by_cases w : c' = n ∧ k' = k
  · rw [w.1, w.2, xu_s, h]
  · rw [xu_o w]
theorem MI_pp (h : zPP a b) (h7 : b 87 7 ≠ 1) (hM : qMI b) : qMI a := by
  have e7 := h.1 87 7 (by decide) (by decide) (by decide)
  have m := h.2.2.2.2.1
  have q := hM.2 h7
  refine ⟨fun w => absurd (by rw [← e7]; exact w) h7, fun _ => ⟨fun u hu => (m u).mpr (q.1 u ((Rt_of h.1).mpr hu)), fun u y hu he => (m y).mpr (q.2 u y ((m u).mp hu) ((Of_ed h.1).mpr he))⟩⟩
theorem Sm_ln (h : qSm a b) (hI : qI b) (hM : b 87 8 ≠ 0 → qMI b) (h70 : b 87 7 = 0 ∨ b 87 7 = 1) (W : qWp b n i) (hr : b (1000 + n) i.toNatClampNeg ≠ 0) (hd : aNm b (aRef b n i) = aRef b n i) (hy : y = -1 ∨ zRq b y) : qSm (aLn a n i y) (aLn b n i y) := by
  have Wa := (Wp_of h.1).mpr W
  have Ia := qI_of hI (Of_sy h.1)
  have ny : aNm b y = y := by
    unfold aNm
    rcases hy with w | w
    · rw [w, if_neg (fun q => absurd q.1 (by decide))]
    · rw [if_pos ⟨w.1, w.2.1, w.2.2.1⟩]
  have ra : aRef a n i = aRef b n i := Of_ref h.1
  unfold aLn
  rw [Nm_of h.1, ny, ra, Ci_eq hI W, Ci_eq Ia Wa, h.1 130 _ (by decide) (by decide) (by decide)]
  have wr := wp_rf hI W
  rw [if_pos hr] at wr
  have fr : aRef a n i = a 71 (b 130 n + 1 + i).toNatClampNeg := by
    rw [ra, wr, h.1 71 _ (by decide) (by decide) (by decide)]
  by_cases s : aRef b n i = y
  · rw [u_id (by rw [← fr, ra]; exact s), u_id (by rw [← wr]; exact s), s, NC_s, NC_s]
    exact h
  · have ob : zOf (ma_u a 71 (b 130 n + 1 + i).toNatClampNeg y) (ma_u b 71 (b 130 n + 1 + i).toNatClampNeg y) := of_u h.1
    have e8 : ∀ (d : Nat → Nat → Int32) (j l : Nat) (v : Int32), ma_u d 71 j v 87 l = d 87 l := fun d j l v => xu_o (by omega)
    by_cases m : b 87 8 = 0
    · rw [NC_0 (by rw [e8, h.1 87 8 (by decide) (by decide) (by decide)]; exact m), NC_0 (by rw [e8]; exact m)]
      exact Sm_0 ob (by rw [e8]; exact m)
    · have g := h.2 m
      have hw2 : zWQ (ma_u b 71 (b 130 n + 1 + i).toNatClampNeg y) := WQ_u g.1.2.2.1 (by decide)
      have hn2 : zNA (ma_u b 71 (b 130 n + 1 + i).toNatClampNeg y) := NA_g g.2.1 (un (by decide)) (un (by decide))
      by_cases h7 : b 87 7 = 1
      · have J : zJJ (ma_u a 71 (b 130 n + 1 + i).toNatClampNeg y) (ma_u b 71 (b 130 n + 1 + i).toNatClampNeg y) := JJ_g (g.2.2 h7) ob (un (by decide)) (un (by decide)) (un (by decide)) (un (by decide)) (un (by decide)) (un (by decide))
        have w := NC_wn (y := aRef b n i) (z := y) hw2 hn2
        exact Sm_J (JJ_nc J) w.1 w.2
      · have h0 : b 87 7 = 0 := h70.elim id (fun w => absurd w h7)
        have n71 : ∀ (d : Nat → Nat → Int32) (j : Nat) (v e : Int32), aNm (ma_u d 71 j v) e = aNm d e := fun d j v e => by
          unfold aNm
          rw [un (n := 126) (by decide)]
        rw [aNc_y (a := ma_u b 71 (b 130 n + 1 + i).toNatClampNeg y) (by rw [e8]; exact m) (by rw [n71, n71, hd, ny]; exact s), aNc_y (a := ma_u a 71 (b 130 n + 1 + i).toNatClampNeg y) (by rw [e8, h.1 87 8 (by decide) (by decide) (by decide)]; exact m) (by rw [n71, n71, Nm_of h.1, Nm_of (y := y) h.1, hd, ny]; exact s), e8, e8, h.1 87 7 (by decide) (by decide) (by decide), if_pos h0]
        have Mb := hM m
        have Ma := MI_pp g.1 h7 Mb
        have xb : y.toInt < 0 ∨ zMk b y.toNatClampNeg := by
          rcases hy with w | w
          · exact Or.inl (by rw [w]; decide)
          · have q := Mb.2 h7
            exact Or.inr (zM_rch q.1 q.2 ((Rq_ch hI).mp w).2.2.2)
        have xa : y.toInt < 0 ∨ zMk a y.toNatClampNeg := xb.imp id (fun w => (g.1.2.2.2.2.1 _).mpr w)
        have a7 : a 87 7 ≠ 1 := by
          rw [h.1 87 7 (by decide) (by decide) (by decide)]
          exact h7
        have ar : a (1000 + n) i.toNatClampNeg ≠ 0 := by
          rw [h.1 (1000 + n) _ (by omega) (by omega) (by omega)]
          exact hr
        have La := Mk_li (x := y) Ia g.1.2.1 Ma a7 Wa ar xa
        have Lb := Mk_li (x := y) hI g.1.2.2.1 Mb h7 W hr xb
        rw [ra, h.1 130 _ (by decide) (by decide) (by decide)] at La
        have P := PP_cm (y := aRef b n i) g.1
        have wa : zWQ (ma_u a 71 (b 130 n + 1 + i).toNatClampNeg y) := WQ_u g.1.2.1 (by decide)
        refine ⟨of_cm ob, fun _ => ⟨⟨of_cm ob, WQ_cm wa, WQ_cm hw2, ?_, fun x => ?_, ?_⟩, NA_gr hn2 (gr_cm hw2), fun w7 => ?_⟩⟩
        · rw [cm_3, cm_3, un (n := 75) (by decide), un (n := 75) (by decide)]
          exact g.1.2.2.2.1
        · rw [La x, Lb x]
          exact P.2.2.2.2.1 x
        · rw [cD_cg (fun u => Dn_cm (a := ma_u a 71 (b 130 n + 1 + i).toNatClampNeg y) (y := aRef b n i) (u := u)), cD_cg (fun u => Dn_cm (a := ma_u b 71 (b 130 n + 1 + i).toNatClampNeg y) (y := aRef b n i) (u := u))]
          unfold cD
          rw [un (n := 77) (by decide), un (n := 77) (by decide)]
          exact g.1.2.2.2.2.2
        · rw [aCm_o (c := 87) ⟨by decide, by decide, by decide⟩, e8] at w7
          exact absurd w7 h7
theorem Sm_li (h : qSm a b) (hI : qI b) (hM : b 87 8 ≠ 0 → qMI b) (h70 : b 87 7 = 0 ∨ b 87 7 = 1) (hd : ∀ n i, qWp b n i → aNm b (aRef b n i) = aRef b n i) : qSm (xLi a o i t) (xLi b o i t) := by
  refine Sm_if ?_ (fun w => ?_) h
  · rw [Of_Rq h.1, Of_Rq (n := t) h.1, Hw_of h.1, Ir_of h.1]
  · have W := Rq_wp w.1 w.2.2.1
    exact Sm_ln h hI hM h70 W w.2.2.2 (hd _ _ W) w.2.1
theorem Sm_ro (h : qSm a b) : qSm (xRo a i o) (xRo b i o) := Sm_if (by rw [Of_Rq h.1]) (fun _ => Sm_rt h) h
theorem Sm_we (h : qSm a b) : qSm (xWe a i o) (xWe b i o) := Sm_if (by rw [Of_Rq h.1]) (fun _ => by
  rw [Nm_of h.1]
  exact Sm_u h (by decide)) h
theorem Sm_ho (h : qSm a b) : qSm (xHo a o x) (xHo b o x) := Sm_if (by rw [Of_Rq h.1, h.1 133 _ (by decide) (by decide) (by decide)]) (fun _ => by
  rw [h.1 133 _ (by decide) (by decide) (by decide)]
  exact Sm_u h (by decide)) h
theorem Sm_wi (h : qSm a b) : qSm (xWi a o) (xWi b o) := Sm_if (by rw [Of_Rq h.1]) (fun _ => Sm_u h (by decide)) h
theorem Sm_gr (h : qSm a b) : qSm (xGr a r) (xGr b r) := by
  have w := Tw_of h.1
  refine Sm_if Iff.rfl (fun _ => ?_) h
  rw [w.2, Nm_of h.1]
  by_cases e : aNm b (aTy b) = -1
  · rw [qIf_y e, qIf_y e]
    exact Sm_tw h
  · rw [qIf_n e, qIf_n e]
    exact Sm_rt (Sm_tw h)
theorem Sm_xg (h : qSm a b) : qSm (xSg a i r) (ySg b i r) := by
  have e := h.1 73 i.toNatClampNeg (by decide) (by decide) (by decide)
  unfold xSg ySg
  rw [e, Nm_of h.1]
  exact Sm_if Iff.rfl (fun w => Sm_sg h w.2.2) h
theorem Sm_xp (h : qSm a b) (hK : qK b) : qSm (xSp a x) (xSp b x) := Sm_if Iff.rfl (fun _ => (Sm_go h hK).1) h
end SM3
