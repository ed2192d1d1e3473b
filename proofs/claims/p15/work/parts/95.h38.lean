/-! the reference by numbers (written by wip/tools/gen18r.py) -/
section QO
variable {b d : Nat → Nat → Int32} {us nr kr kd ws at' ho wd wi ow rt wk wl co gr : Nat → Int32} {wm nu ro fo le ra pi y i ga gm kk w pl mk wt : Int32} {n k u s t x v : Nat} {L : Int64} {m : Nat → Nat → Int32}
/-- the walk's cells behind it -/
def qA7 (b d : Nat → Nat → Int32) (y : Int32) : Prop := d 75 = b 75 ∧ d 76 = b 76 ∧ (b 87 8 ≠ 0 → d 77 y.toNatClampNeg = 2) ∧ ∀ x, x ≠ y.toNatClampNeg → d 77 x = b 77 x
theorem A7_of {F : Nat → Int32} : qA7 b (aMd (aAd b y F L) y) y := by
  have hi : ∀ c k, c ≠ 69 → c ≠ 71 → c < 126 → aAd b y F L c k = b c k := fun c k h1 h2 h3 => by
    show (if c = 69 ∧ k = 8 then _ else if c = 69 ∧ k = 6 then _ else zIw (ma_u (zNw b y.toNatClampNeg F L) 71 (F 4).toNatClampNeg y) (F 4).toInt L ((F 2).toInt - 1) c k) = b c k
    rw [if_neg (fun z => h1 z.1), if_neg (fun z => h1 z.1), zIw_o h2, xu_o (fun z => h2 z.1), zNw_o h3]
  refine ⟨funext (fun k => ?_), funext (fun k => ?_), fun h => ?_, fun x hx => ?_⟩
  · unfold aMd
    split
    · rw [xu_o (by omega), hi _ _ (by decide) (by decide) (by decide)]
    · rw [xu_o (by omega), xu_o (by omega), hi _ _ (by decide) (by decide) (by decide)]
  · unfold aMd
    split
    · rw [xu_o (by omega), hi _ _ (by decide) (by decide) (by decide)]
    · rw [xu_o (by omega), xu_o (by omega), hi _ _ (by decide) (by decide) (by decide)]
  · rw [aMd_y (by rw [hi _ _ (by decide) (by decide) (by decide)]; exact h), xu_s]
  · unfold aMd
    split
    · rw [xu_o (by omega), hi _ _ (by decide) (by decide) (by decide)]
    · rw [xu_o (fun z => hx z.2), xu_o (by omega), hi _ _ (by decide) (by decide) (by decide)]
theorem WQ_ad (h : qNe b y w pl) (hA : qAd b d y kk w pl L) (h7 : qA7 b d y) (hm : b 87 8 ≠ 0) (hw : zWQ b) : zWQ d := by
  have q := Ne_b h
  have nal := Ne_al h
  have al := fun x => Al_ad (x := x) h hA
  obtain ⟨q1, q2, q3, q4, q5, q6, q7⟩ := hw
  have c7 := h7.2.2.1 hm
  have cn : cnt (b 77) 512 ≤ cnt (d 77) 512 := cnt_mono (fun j hj z => by
    by_cases e : j = y.toNatClampNeg
    · rw [e, c7]
      decide
    · rw [h7.2.2.2 j e]
      exact z)
  refine ⟨⟨?_, ?_, ?_⟩, ?_, ?_, ?_, ?_, ?_, ?_⟩
  · rw [h7.1]
    exact q1.1
  · rw [h7.1]
    exact q1.2.1
  · rw [h7.1]
    have := q1.2.2
    omega
  · intro j j1 j2
    rw [h7.1] at j1 j2
    have p := q2 j j1 j2
    have cp := tn_cast p.1
    have ne : (b 76 j).toNatClampNeg ≠ y.toNatClampNeg := ne_al h ⟨by have := p.2.1; omega, p.2.2.1⟩
    rw [h7.2.1, hA.2.1 126 _ (by decide) (by decide) ne, h7.2.2.2 _ ne]
    exact p
  · intro j j' j1 j2 j3
    rw [h7.1] at j1 j3
    rw [h7.2.1]
    exact q3 j j' j1 j2 j3
  · intro x hx hx1
    by_cases e : x = y.toNatClampNeg
    · rw [e, c7] at hx1
      exact absurd hx1 (by decide)
    · rw [h7.2.2.2 x e] at hx1
      rw [h7.1, h7.2.1]
      exact q4 x hx hx1
  · intro x hx
    by_cases e : x = y.toNatClampNeg
    · rw [e, c7]
      exact Or.inr (Or.inr rfl)
    · rw [h7.2.2.2 x e]
      exact q5 x hx
  · rw [h7.1]
    exact q6
  · intro x hx
    rcases (al x).mp hx with z | z
    · rw [hA.2.1 130 x (by decide) (by decide) (ne_al h z)]
      exact q7 x z
    · rw [z, hA.1.2.2.1]
      exact q.2.2.2.1
theorem MQ_ad (h : qNe b y w pl) (hA : qAd b d y kk w pl L) (h7 : qA7 b d y) (hm : b 87 8 ≠ 0) (h1 : qR1 (zmk us s) nr ws at' ho b) (hQ : qMQ co gr ga gm (zmk us s) nr b) (hn : nr s = y) (hc : co s = 2) : qMQ co gr ga gm us nr d := by
  obtain ⟨q1, q2, q3, q4, q5⟩ := hQ
  have us2 : ∀ t, us t ≠ 0 → t ≠ s → zmk us s t ≠ 0 := fun t h1 h2 => by
    unfold zmk
    rw [if_neg h2]
    exact h1
  refine ⟨by rw [h7.1]; exact q1, by rw [h7.1]; exact q2, fun t ht hv => ?_, fun j j1 j2 => ?_, WQ_ad h hA h7 hm q5⟩
  · by_cases e : t = s
    · rw [e, hn, hc, h7.2.2.1 hm]
    · rw [h7.2.2.2 _ (ne_al h (R1_al h1 ht (us2 t hv e)))]
      exact q3 t ht (us2 t hv e)
  · have p := q4 j j1 j2
    rw [h7.2.1]
    refine ⟨⟨p.1.1, p.1.2.1, fun z => p.1.2.2 ?_⟩, p.2⟩
    unfold zmk
    split
    · rfl
    · exact z
theorem Ed_ad (h : qNe b y w pl) (hA : qAd b d y kk w pl L) (hR : qRB (zmk us s) nr kr kd ws at' ho wd wi ow rt wk wl wm nu ro fo le ra pi b) : zEd d u v ↔ zEd b u v := by
  have q := Ne_b h
  have Id := I_ad h hA
  rw [Ed_wp Id.2.2.2.2.2, Ed_wp h.1.2.2.2.2.2]
  constructor
  · rintro ⟨w1, j, w2, w3⟩
    have ev := ofN_i w1.1
    by_cases e : u = y.toNatClampNeg
    · rw [e] at w3
      have w4 := w2.2
      rw [e, hA.1.2.1, q.2.2.2.2.2.1] at w4
      rw [rf_nw h hA w4.1 (by omega)] at w3
      rw [← w3] at ev
      have m1 : (-1 : Int32).toInt = -1 := rfl
      omega
    · have au : xAl b u := ((Al_ad h hA).mp w2.1).elim id (fun z => absurd z e)
      have w4 := w2.2
      rw [hA.2.1 128 u (by decide) (by decide) e] at w4
      have W : qWp b u j := ⟨au, w4.1, w4.2⟩
      rw [rf_ad h hA W] at w3
      refine ⟨?_, j, W, w3⟩
      rcases (Al_ad h hA).mp w1 with z | z
      · exact z
      · exfalso
        obtain ⟨t, ht, hv, en⟩ := R1_ex hR.1 au
        have tt := hR.1.1 t ht hv
        rw [en] at tt
        have cj := tn_cast w4.1
        have sz : j.toInt < (ws t).toInt := by
          have := w4.2
          rw [tt.2.2.1, i_p1 (by have := tt.2.2.2.2.2.1; omega)] at this
          omega
        have r := hR.2.1 t ht hv j.toNatClampNeg (by omega)
        rw [en, ofN_tn w4.1, w3] at r
        rcases No_al hR.1 r.1 with z2 | z2
        · rw [z2] at r
          have := congrArg Int32.toInt r.2.1
          have m1 : (-1 : Int32).toInt = -1 := rfl
          omega
        · have al := z2.2.2
          rw [← r.2.1, tn_of w1.1] at al
          exact ne_al h al z
  · rintro ⟨w1, j, w2, w3⟩
    have e := ne_al h w2.1
    refine ⟨(Al_ad h hA).mpr (Or.inl w1), j, ⟨(Al_ad h hA).mpr (Or.inl w2.1), w2.2.1, ?_⟩, ?_⟩
    · rw [hA.2.1 128 u (by decide) (by decide) e]
      exact w2.2.2
    · rw [rf_ad h hA w2]
      exact w3
theorem Rt_ad (h : qNe b y w pl) (hA : qAd b d y kk w pl L) (hR : qRB (zmk us s) nr kr kd ws at' ho wd wi ow rt wk wl wm nu ro fo le ra pi b) (hu : zRt d u) : zRt b u := by
  obtain ⟨al, hr⟩ := hu
  have eu := ofN_i al.1
  have m1 : (-1 : Int32).toInt = -1 := rfl
  have nu0 : u ≠ y.toNatClampNeg := fun e => by
    have nal := Ne_al h
    rw [← e] at nal
    unfold zRl zWl zHl at hr
    rw [hA.2.2.2.2.1.1, hA.2.2.2.2.1.2.2.1, hA.2.2.2.2.1.2.2.2] at hr
    rcases hr with ⟨j, j1, j2⟩ | ⟨j, j1, j2⟩ | z
    · have r := hR.2.2.1 j j1
      rcases No_al hR.1 r.1 with z2 | z2
      · rw [r.2, z2] at j2
        rw [← j2] at eu
        omega
      · have a2 := z2.2.2
        rw [← r.2, j2, tn_of al.1] at a2
        exact nal a2
    · rw [hR.2.2.2.2.1.1] at j1
      have r := hR.2.2.2.2.1.2 j j1
      have hs := tn_lt r.1.1 r.1.2.1
      have a2 := R1_al hR.1 hs r.1.2.2
      rw [← r.2, j2, tn_of al.1] at a2
      exact nal a2
    · have z2 := z.2
      rw [e, hA.1.2.2.2.1] at z2
      exact absurd z2 (by decide)
  have alb : xAl b u := ((Al_ad h hA).mp al).elim id (fun z => absurd z nu0)
  refine ⟨alb, ?_⟩
  unfold zRl zWl zHl at hr ⊢
  rw [hA.2.2.2.2.1.1, hA.2.2.2.2.1.2.2.1, hA.2.2.2.2.1.2.2.2, hA.2.1 133 u (by decide) (by decide) nu0] at hr
  exact hr.imp id (fun z => z.imp id (fun z2 => ⟨(h.1.1 u alb).1.1, z2.2⟩))
theorem MI_ad (h : qNe b y w pl) (hA : qAd b d y kk w pl L) (h7 : qA7 b d y) (hm : b 87 8 ≠ 0) (hR : qRB (zmk us s) nr kr kd ws at' ho wd wi ow rt wk wl wm nu ro fo le ra pi b) (hM : qMI b) : qMI d := by
  have q := Ne_b h
  have c7 := h7.2.2.1 hm
  have ed := fun u v => Ed_ad (u := u) (v := v) h hA hR
  have e7 := hA.2.2.2.2.2.2.1 7 (by decide)
  have nn : ∀ x, zNn d x ↔ zNn b x ∨ x = y.toNatClampNeg := fun x => by
    unfold zNn
    by_cases e : x = y.toNatClampNeg
    · rw [e, c7]
      exact ⟨fun _ => Or.inr rfl, fun _ => ⟨q.2.1, by decide⟩⟩
    · rw [h7.2.2.2 x e]
      exact ⟨Or.inl, fun z => z.elim id (fun z2 => absurd z2 e)⟩
  have dn : ∀ x, zDn d x ↔ zDn b x ∨ x = y.toNatClampNeg := fun x => by
    unfold zDn
    by_cases e : x = y.toNatClampNeg
    · rw [e, c7]
      exact ⟨fun _ => Or.inr rfl, fun _ => ⟨q.2.1, rfl⟩⟩
    · rw [h7.2.2.2 x e]
      exact ⟨Or.inl, fun z => z.elim id (fun z2 => absurd z2 e)⟩
  have eb : ∀ u v, zEd b u v → xAl b u := fun u v he => by
    obtain ⟨_, j, W, _⟩ := (Ed_wp h.1.2.2.2.2.2).mp he
    exact W.1
  refine ⟨fun w1 u v hd _ he => ?_, fun w1 => ?_⟩
  · have he2 := (ed u v).mp he
    have au := eb u v he2
    rcases (dn u).mp hd with z | z
    · exact (nn v).mpr (Or.inl (hM.1 (by rw [← e7]; exact w1) u v z au he2))
    · exact absurd z (ne_al h au)
  · have hp := hM.2 (by rw [← e7]; exact w1)
    have mu : ∀ x, zMk b x → zMk d x := fun x hx => hx _ (fun g hg => zM_in ((nn g).mpr (Or.inl hg))) (fun u v hu hnd he => by
      refine zM_cl hu (fun z => ?_) ((ed u v).mpr he)
      rcases (dn u).mp z with z2 | z2
      · exact hnd z2
      · exact ne_al h (eb u v he) z2)
    have md : ∀ x, zMk d x → zMk b x ∨ x = y.toNatClampNeg := fun x hx => hx (fun x => zMk b x ∨ x = y.toNatClampNeg) (fun g hg => ((nn g).mp hg).imp zM_in id) (fun u v hu hnd he => by
      have he2 := (ed u v).mp he
      have au := ne_al h (eb u v he2)
      exact Or.inl (zM_cl (hu.elim id (fun z => absurd z au)) (fun z => hnd ((dn u).mpr (Or.inl z))) he2))
    refine ⟨fun u hu => mu u (hp.1 u (Rt_ad h hA hR hu)), fun u v hu he => ?_⟩
    have he2 := (ed u v).mp he
    have au := ne_al h (eb u v he2)
    exact mu v (hp.2 u v ((md u hu).elim id (fun z => absurd z au)) he2)
/-- words there -/
theorem WT_ad (h : wt.toInt = sm (zbU (zmk us s)) ws 3100) (hs : s < 3100) (hu : us s ≠ 0) (hw : ∀ t, t < 3100 → 0 ≤ (ws t).toInt ∧ (ws t).toInt ≤ 60) : (wt + (ws s + 1)).toInt = sm (zbU us) ws 3100 := by
  have o := sm_out (ws := ws) (b := zbU us) (b' := zbU (zmk us s)) (n := 3100) hs (decide_eq_true hu) (decide_eq_false (fun w => w (by unfold zmk; rw [if_pos rfl]))) (fun t ht e => by unfold zbU zmk; rw [if_neg e])
  have ub := sm_ub 3100 (fun t ht => (hw t ht).2) (zbU (zmk us s)) (fun t ht => (hw t ht).1)
  have w := hw s hs
  have e1 : (ws s + 1).toInt = (ws s).toInt + 1 := i_p1 (by omega)
  rw [i_add (by omega) (by omega)]
  omega
end QO
