/-! COUNTS, the class (written by wip/tools/gen20k.py) -/
/-! COUNTS: calls keep the counts right -/
section C7
variable {a b : Nat → Nat → Int32} {K K' : Nat → Int32} {x y i d : Int32} {n m k c : Nat} {B : Int}
theorem al_of {o : Int32} (q : zRq a o) : xAl a o.toNatClampNeg := by
  have c := tn_cast q.1
  have q2 := q.2.1
  exact ⟨by omega, q.2.2.1⟩
theorem Ms_le (hI : cQI a) : cMs a ≤ 31744 := by
  unfold cMs
  have q := cSu_bd (f := fun m => if a 126 m = 0 then 0 else (a 128 m).toInt.toNat + 1) (B := 62) 512 (fun m hm => by
    show (if a 126 m = 0 then 0 else (a 128 m).toInt.toNat + 1) ≤ 62
    by_cases z : a 126 m = 0
    · rw [if_pos z]; omega
    · rw [if_neg z]
      have w := hI.1 m ⟨hm, z⟩
      omega)
  omega
theorem C0_mk (h1 : cQI a) (h2 : cNd a) (h3 : cHd a B) (h5 : 0 ≤ (a 69 5).toInt ∧ (a 69 5).toInt ≤ 512) (hK : ∀ n, xAl a n → K n = Int32.ofInt (cRf a n)) : cC a [] K B := by
  refine ⟨h1, fun q hq => absurd hq (List.not_mem_nil), trivial, ⟨h1, h2, fun l hl => absurd hl (List.not_mem_nil), h3, h5, ?_⟩, fun n hn => ?_⟩
  · have q := Ms_le h1
    show 0 + cMs a ≤ 40000
    omega
  · show K n = Int32.ofInt (cRf a n + ((0 : Nat) : Int))
    rw [hK n hn]
    exact congrArg Int32.ofInt (by omega)
theorem C0_un (h : cC a [] K B) : cQI a ∧ cNd a ∧ cHd a B ∧ (0 ≤ (a 69 5).toInt ∧ (a 69 5).toInt ≤ 512) ∧ ∀ n, xAl a n → K n = Int32.ofInt (cRf a n) := by
  obtain ⟨h1, _, _, ⟨_, h2, _, h3, h5, _⟩, hk⟩ := h
  refine ⟨h1, h2, h3, h5, fun n hn => ?_⟩
  have q : K n = Int32.ofInt (cRf a n + ((0 : Nat) : Int)) := hk n hn
  rw [q]
  exact congrArg Int32.ofInt (by omega)
theorem u_al (hc : c ≠ 126) : xAl (ma_u a c k x) = xAl a := by
  funext n
  unfold xAl
  rw [un (fun z => hc z.symm)]
theorem cQ_u (hc : c ≠ 126 ∧ c ≠ 128 ∧ c ≠ 130 ∧ c < 1000) (hI : cQI a) : cQI (ma_u a c k x) := by
  obtain ⟨h1, h2, h3⟩ := hI
  have al := u_al (a := a) (k := k) (x := x) hc.1
  refine ⟨?_, ?_, ?_⟩
  · rw [al, un (n := 130) (fun z => hc.2.2.1 z.symm), un (n := 128) (fun z => hc.2.1 z.symm)]
    exact h1
  · unfold qI2
    rw [al, un (n := 130) (fun z => hc.2.2.1 z.symm), un (n := 128) (fun z => hc.2.1 z.symm)]
    exact h2
  · intro n hn k'
    rw [al] at hn
    rw [un (by omega)]
    exact h3 n hn k'
theorem u_ref (hc : c ≠ 130 ∧ c ≠ 71 ∧ c < 1000) : aRef (ma_u a c k x) m i = aRef a m i := rf_cg (un (by omega)) (un (fun z => hc.1 z.symm)) (un (fun z => hc.2.1 z.symm))
theorem u_wp (hc : c ≠ 126 ∧ c ≠ 128) {j : Int32} : qWp (ma_u a c k x) m j ↔ qWp a m j := by
  unfold qWp
  rw [u_al hc.1, un (fun z => hc.2 z.symm)]
/-- a row that counting does not look at -/
theorem C_u (hc : c ≠ 126 ∧ c ≠ 128 ∧ c ≠ 130 ∧ c ≠ 71 ∧ c < 1000) (h2 : c ≠ 72 ∧ c ≠ 69 ∧ c ≠ 74 ∧ c ≠ 133) (h : cC a [] K B) : cC (ma_u a c k x) [] K B := by
  obtain ⟨q1, ⟨n1, n2, n3⟩, q3, q5, qk⟩ := C0_un h
  have al := u_al (a := a) (k := k) (x := x) hc.1
  refine C0_mk (cQ_u ⟨hc.1, hc.2.1, hc.2.2.1, hc.2.2.2.2⟩ q1) ⟨fun j hj => ?_, fun j hj => ?_, fun u j w => ?_⟩ (fun n hn => ?_) ?_ (fun n hn => ?_)
  · rw [un (n := 72) (by omega), cOk_cg al]; exact n1 j hj
  · rw [un (n := 74) (by omega), cOk_cg al]
    rw [un (n := 69) (by omega)] at hj
    exact n2 j hj
  · rw [u_ref ⟨hc.2.2.1, hc.2.2.2.1, hc.2.2.2.2⟩, cOk_cg al]
    exact n3 u j ((u_wp ⟨hc.1, hc.2.1⟩).mp w)
  · rw [al] at hn
    rw [un (n := 133) (by omega)]
    exact q3 n hn
  · rw [un (n := 69) (by omega)]; exact q5
  · rw [al] at hn
    rw [Rf_u hc h2]
    exact qk n hn
theorem nm_ok : cOk a (aNm a y) := by
  unfold aNm
  split
  · rename_i w
    have c := tn_cast w.1
    exact Or.inr ⟨by omega, w.2.2⟩
  · exact Or.inl (by decide)
theorem nm_is (hn : xAl a n) : cIs (aNm a y) n = cIs y n := by
  unfold aNm
  by_cases w : 0 ≤ y.toInt ∧ y.toInt < 512 ∧ a 126 y.toNatClampNeg ≠ 0
  · rw [if_pos w]
  · rw [if_neg w, cIs_n (by decide) hn.1]
    refine (cIs_0 (fun e => w ?_)).symm
    have q := ofN_i hn.1
    have h0 : 0 ≤ y.toInt := by rw [e]; omega
    have c := tn_cast h0
    have e2 : y.toNatClampNeg = n := by
      rw [← e] at q
      omega
    exact ⟨h0, by have := hn.1; omega, by rw [e2]; exact hn.2⟩
theorem K_ad (p q r : Int) (u v : Nat) (h : r + (v : Int) = p + (u : Int)) : Int32.ofInt p + Int32.ofNat u - Int32.ofNat v = Int32.ofInt r := by
  rw [← Int32.ofInt_eq_ofNat (n := u), ← Int32.ofInt_eq_ofNat (n := v), ← Int32.ofInt_add, ← Int32.ofInt_sub]
  exact congrArg Int32.ofInt (by omega)
/-- a ROOT -/
theorem C_rt (h : cC a [] K B) (hi : k < 16) (hK : ∀ n, xAl a n → K' n = K n + Int32.ofNat (cIs y n) - Int32.ofNat (cIs (a 72 k) n)) : cC (ma_u a 72 k (aNm a y)) [] K' B := by
  obtain ⟨q1, ⟨n1, n2, n3⟩, q3, q5, qk⟩ := C0_un h
  have al := u_al (a := a) (c := 72) (k := k) (x := aNm a y) (by decide)
  refine C0_mk (cQ_u (by decide) q1) ⟨fun j hj => ?_, fun j hj => ?_, fun u j w => ?_⟩ (fun n hn => ?_) ?_ (fun n hn => ?_)
  · rw [cOk_cg al]
    by_cases z : j = k
    · rw [z, mu_self]; exact nm_ok
    · rw [mu_ne z]; exact n1 j hj
  · rw [un (n := 74) (by decide), cOk_cg al]
    rw [un (n := 69) (by decide)] at hj
    exact n2 j hj
  · rw [u_ref (by decide), cOk_cg al]
    exact n3 u j ((u_wp (by decide)).mp w)
  · rw [al] at hn
    rw [un (n := 133) (by decide)]
    exact q3 n hn
  · rw [un (n := 69) (by decide)]; exact q5
  · rw [al] at hn
    have r := Rf_rt (a := a) (x := aNm a y) (n := n) hi
    rw [nm_is hn] at r
    rw [hK n hn, qk n hn]
    exact K_ad _ 0 _ _ _ r
/-- a REFERENCE -/
theorem C_li (h : cC a [] K B) (hw : qWp a m i) (hb : a (1000 + m) i.toNatClampNeg ≠ 0) (hK : ∀ n, xAl a n → K' n = K n + Int32.ofNat (cIs y n) - Int32.ofNat (cIs (aRef a m i) n)) : cC (aCi a m i (aNm a y)) [] K' B := by
  obtain ⟨q1, ⟨n1, n2, n3⟩, q3, q5, qk⟩ := C0_un h
  have q := cwp_i q1 hw
  have e : aCi a m i (aNm a y) = ma_u a 71 (a 130 m + 1 + i).toNatClampNeg (aNm a y) := if_pos ⟨q.2.1, q.2.2⟩
  rw [e]
  have al := u_al (a := a) (c := 71) (k := (a 130 m + 1 + i).toNatClampNeg) (x := aNm a y) (by decide)
  refine C0_mk (cQ_71 q1) ⟨fun j hj => ?_, fun j hj => ?_, fun u j w => ?_⟩ (fun n hn => ?_) ?_ (fun n hn => ?_)
  · rw [un (n := 72) (by decide), cOk_cg al]; exact n1 j hj
  · rw [un (n := 74) (by decide), cOk_cg al]
    rw [un (n := 69) (by decide)] at hj
    exact n2 j hj
  · have w2 := (u_wp (by decide)).mp w
    rw [cOk_cg al, crf_w q1 hw w2]
    by_cases z : u = m ∧ j = i
    · rw [if_pos z, if_pos hb]; exact nm_ok
    · rw [if_neg z]; exact n3 u j w2
  · rw [al] at hn
    rw [un (n := 133) (by decide)]
    exact q3 n hn
  · rw [un (n := 69) (by decide)]; exact q5
  · rw [al] at hn
    have r := Rf_w (x := aNm a y) (n := n) q1 hw hw.1.1 hb
    rw [nm_is hn] at r
    rw [hK n hn, qk n hn]
    exact K_ad _ 0 _ _ _ r
/-- a word that does not refer -/
theorem C_pu (h : cC a [] K B) (hw : qWp a m i) (hb : a (1000 + m) i.toNatClampNeg = 0) : cC (aCi a m i x) [] K B := by
  obtain ⟨q1, ⟨n1, n2, n3⟩, q3, q5, qk⟩ := C0_un h
  have q := cwp_i q1 hw
  have e : aCi a m i x = ma_u a 71 (a 130 m + 1 + i).toNatClampNeg x := if_pos ⟨q.2.1, q.2.2⟩
  rw [e]
  have al := u_al (a := a) (c := 71) (k := (a 130 m + 1 + i).toNatClampNeg) (x := x) (by decide)
  refine C0_mk (cQ_71 q1) ⟨fun j hj => ?_, fun j hj => ?_, fun u j w => ?_⟩ (fun n hn => ?_) ?_ (fun n hn => ?_)
  · rw [un (n := 72) (by decide), cOk_cg al]; exact n1 j hj
  · rw [un (n := 74) (by decide), cOk_cg al]
    rw [un (n := 69) (by decide)] at hj
    exact n2 j hj
  · have w2 := (u_wp (by decide)).mp w
    rw [cOk_cg al, crf_w q1 hw w2]
    by_cases z : u = m ∧ j = i
    · rw [if_pos z, if_neg (fun w => w hb)]; exact Or.inl (by decide)
    · rw [if_neg z]; exact n3 u j w2
  · rw [al] at hn
    rw [un (n := 133) (by decide)]
    exact q3 n hn
  · rw [un (n := 69) (by decide)]; exact q5
  · rw [al] at hn
    rw [Rf_p q1 hw hb]
    exact qk n hn
/-- a hold -/
theorem C_ho (h : cC a [] K B) (h0 : 0 ≤ (a 133 k + d).toInt) (h1 : (a 133 k + d).toInt = (a 133 k).toInt + d.toInt) (hB : (a 133 k + d).toInt ≤ B + 1) (hK : ∀ n, K' n = K n + (if n = k then d else 0)) : cC (ma_u a 133 k (a 133 k + d)) [] K' (B + 1) := by
  obtain ⟨q1, ⟨n1, n2, n3⟩, q3, q5, qk⟩ := C0_un h
  have al := u_al (a := a) (c := 133) (k := k) (x := a 133 k + d) (by decide)
  refine C0_mk (cQ_u (by decide) q1) ⟨fun j hj => ?_, fun j hj => ?_, fun u j w => ?_⟩ (fun n hn => ?_) ?_ (fun n hn => ?_)
  · rw [un (n := 72) (by decide), cOk_cg al]; exact n1 j hj
  · rw [un (n := 74) (by decide), cOk_cg al]
    rw [un (n := 69) (by decide)] at hj
    exact n2 j hj
  · rw [u_ref (by decide), cOk_cg al]
    exact n3 u j ((u_wp (by decide)).mp w)
  · rw [al] at hn
    by_cases z : n = k
    · rw [z, mu_self]; exact ⟨h0, hB⟩
    · rw [mu_ne z]
      have := q3 n hn
      omega
  · rw [un (n := 69) (by decide)]; exact q5
  · rw [al] at hn
    rw [hK n, qk n hn, Rf_ho]
    by_cases z : n = k
    · rw [if_pos z, if_pos z, h1, show (a 133 k).toInt + d.toInt - (a 133 k).toInt = d.toInt from by omega, Int32.ofInt_add, Int32.ofInt_toInt]
    · rw [if_neg z, if_neg z, Int32.add_zero, Int.add_zero]
theorem C_hx (h : cC a [] K B) (al : xAl a k) (hB : B + 1 ≤ 1000000) (hd : d = 1 ∨ (d = -1 ∧ a 133 k ≠ 0)) (hK : ∀ n, K' n = K n + (if n = k then d else 0)) : cC (ma_u a 133 k (a 133 k + d)) [] K' (B + 1) := by
  have q := (C0_un h).2.2.1 k al
  rcases hd with e | ⟨e, w⟩
  · rw [e] at hK ⊢
    have d1 : (a 133 k + 1).toInt = (a 133 k).toInt + (1 : Int32).toInt := i_add (by rw [show (1 : Int32).toInt = 1 from rfl]; omega) (by rw [show (1 : Int32).toInt = 1 from rfl]; omega)
    have d2 : (1 : Int32).toInt = 1 := rfl
    exact C_ho h (by omega) d1 (by omega) hK
  · rw [e] at hK ⊢
    have w1 : (a 133 k).toInt ≠ 0 := fun z => w (Int32.toInt_inj.mp (by rw [z]; rfl))
    have d2 : (-1 : Int32).toInt = -1 := rfl
    have d1 : (a 133 k + -1).toInt = (a 133 k).toInt + (-1 : Int32).toInt := i_add (by omega) (by omega)
    exact C_ho h (by omega) d1 (by omega) hK
/-- a wish is taken -/
theorem C_tw (h : cC a [] K B) (hK : ∀ n, xAl a n → K' n = K n - (if 0 < (a 69 5).toInt then Int32.ofNat (cIs (a 74 0) n) else 0)) : cC (aTw a) [] K' B ∧ cOk (aTw a) (aTy a) := by
  obtain ⟨q1, ⟨n1, n2, n3⟩, q3, q5, qk⟩ := C0_un h
  by_cases w : 0 < (a 69 5).toInt
  · have e : aTw a = zSh (ma_u a 69 5 (a 69 5 - 1)) ((a 69 5).toInt - 1) := aTw_y w
    have z : ∀ c, c ≠ 74 → c ≠ 69 → aTw a c = a c := fun c h1 h2 => funext (fun k => by
      rw [e]
      show (if c = 74 ∧ (k : Int) < _ then _ else ma_u a 69 5 (a 69 5 - 1) c k) = a c k
      rw [if_neg (fun w => h1 w.1), xu_o (fun w => h2 w.1)])
    have e5 : aTw a 69 5 = a 69 5 - 1 := by
      rw [e]
      show (if 69 = 74 ∧ _ then _ else ma_u a 69 5 (a 69 5 - 1) 69 5) = _
      rw [if_neg (fun w => absurd w.1 (by decide)), xu_s]
    have s5 : (a 69 5 - 1).toInt = (a 69 5).toInt - 1 := i_subk rfl (by omega) (by omega)
    have e74 : ∀ k : Nat, (k : Int) < (a 69 5).toInt - 1 → aTw a 74 k = a 74 (k + 1) := fun k hk => by
      rw [e]
      show (if 74 = 74 ∧ (k : Int) < _ then ma_u a 69 5 (a 69 5 - 1) 74 (k + 1) else _) = _
      rw [if_pos ⟨rfl, hk⟩, xu_o (fun w => absurd w.1 (by decide))]
    have al : xAl (aTw a) = xAl a := by
      funext n
      unfold xAl
      rw [z 126 (by decide) (by decide)]
    have rf : ∀ u j, aRef (aTw a) u j = aRef a u j := fun u j => rf_cg (z _ (by omega) (by omega)) (z 130 (by decide) (by decide)) (z 71 (by decide) (by decide))
    have ty : aTy a = a 74 0 := aTy_y w
    refine ⟨C0_mk ?_ ⟨fun j hj => ?_, fun j hj => ?_, fun u j w2 => ?_⟩ (fun n hn => ?_) ?_ (fun n hn => ?_), ?_⟩
    · obtain ⟨g1, g2, g3⟩ := q1
      refine ⟨?_, ?_, fun n hn k => ?_⟩
      · rw [al, z 130 (by decide) (by decide), z 128 (by decide) (by decide)]; exact g1
      · unfold qI2
        rw [al, z 130 (by decide) (by decide), z 128 (by decide) (by decide)]; exact g2
      · rw [al] at hn
        rw [z _ (by omega) (by omega)]
        exact g3 n hn k
    · rw [z 72 (by decide) (by decide), cOk_cg al]; exact n1 j hj
    · rw [e5, s5] at hj
      rw [e74 j hj, cOk_cg al]
      exact n2 (j + 1) (by omega)
    · rw [rf, cOk_cg al]
      refine n3 u j ?_
      unfold qWp at w2 ⊢
      rw [al, z 128 (by decide) (by decide)] at w2
      exact w2
    · rw [al] at hn
      rw [z 133 (by decide) (by decide)]
      exact q3 n hn
    · rw [e5, s5]; omega
    · rw [al] at hn
      have r := Rf_tw (n := n) w q5.2
      rw [hK n hn, if_pos w, qk n hn, ← Int32.ofInt_eq_ofNat (n := cIs (a 74 0) n), ← Int32.ofInt_sub]
      exact congrArg Int32.ofInt (by omega)
    · rw [ty, cOk_cg al]
      exact n2 0 (by omega)
  · rw [aTw_n w, aTy_n w]
    refine ⟨C0_mk q1 ⟨n1, n2, n3⟩ q3 q5 (fun n hn => ?_), Or.inl (by decide)⟩
    rw [hK n hn, if_neg w, Int32.sub_zero]
    exact qk n hn
end C7
theorem g_119_75_sk_0 {X : Nat × (Nat → Int32)} {d w : Nat} {S : ma_S} {Q : Option ma_V ⊕ Nat → ma_S → Prop} (t : Option Nat) (hd : 0 ≤ d) (hw : 0 ≤ w) (hS : zT S) (h : (t = none → Q (.inl none) S) ∧ (∀ c1, t = some c1 → (126 ≤ c1 ∧ c1 < mN S) ∧ (if (mI S c1 4) < (mI S 75 5) then (Q (.inl none) S) else ((126 ≤ c1 ∧ c1 < mN S) ∧ (if (512 : Int32) ≤ (mI S c1 0) then (Q (.inl none) S) else (if (mI S 75 4) < (512 : Int32) then ((126 ≤ c1 ∧ c1 < mN S) ∧ ((0 ≤ (mI S c1 0) ∧ (mI S c1 0).toNatClampNeg < 512) ∧ (if (mI S 77 (mI S c1 0).toNatClampNeg) = 0 then ((126 ≤ c1 ∧ c1 < mN S) ∧ ((0 ≤ (mI S c1 0) ∧ (mI S c1 0).toNatClampNeg < 512) ∧ ((126 ≤ c1 ∧ c1 < mN (ma_put S 77 (mI S c1 0).toNatClampNeg (.inl (1 : Int32)))) ∧ ((0 ≤ (mI S 75 4) ∧ (mI S 75 4).toNatClampNeg < 512) ∧ (Q (.inl none) (ma_put (ma_put (ma_put S 77 (mI S c1 0).toNatClampNeg (.inl (1 : Int32))) 76 (mI S 75 4).toNatClampNeg (.inl (mI (ma_put S 77 (mI S c1 0).toNatClampNeg (.inl (1 : Int32))) c1 0))) 75 4 (.inl ((mI S 75 4) + (1 : Int32))))))))) else (Q (.inl none) S)))) else (Q (.inl none) S))))))) : ma_wp X d w 119 0 [(0, .inr (.inr (some 75))), (1, .inr (.inr t))] [] S Q := by
  refine zw_push hm_119 dX10_comes_0 (v := .inr (.inr t)) rfl ?_
  refine zw_ifnull hm_119 dX10_comes_1 (t := 35) rfl ?_ ?_
  · intro hc
    have h := h.1 hc
    (try rw [hc])
    show ma_wp X d w 119 35 [(0, .inr (.inr (some 75))), (1, .inr (.inr none))] [] S _
    exact zw_vret hm_119 dX10_comes_35 h
  · intro c1 hc
    have h := h.2 c1 hc
    (try rw [hc])
    show ma_wp X d w 119 4 [(0, .inr (.inr (some 75))), (1, .inr (.inr (some c1)))] [] S _
    refine zw_push hm_119 dX10_comes_4 (v := .inr (.inr (some c1))) rfl ?_
    obtain ⟨hg, h⟩ := h
    refine zw_gf hm_119 dX10_comes_5 (v := .inl (mI S c1 4)) (zT_tis hS hg) (zT_tt hS hg) rfl f_10_49_9 rfl ?_
    refine zw_push hm_119 dX10_comes_8 (v := .inr (.inr (some 75))) rfl ?_
    refine zw_gf hm_119 dX10_comes_9 (v := .inl (mI S 75 5)) (zT_is hS s_75) (zT_t hS s_75) rfl f_10_35_10 rfl ?_
    refine zw_if2 hm_119 dX10_comes_12 (t := 35) rfl zc2_lt ?_ ?_
    · intro hc
      rw [if_pos hc] at h
      exact zw_vret hm_119 dX10_comes_35 h
    · intro hc
      rw [if_neg hc] at h
      refine zw_push hm_119 dX10_comes_15 (v := .inr (.inr (some c1))) rfl ?_
      obtain ⟨hg, h⟩ := h
      refine zw_gf hm_119 dX10_comes_16 (v := .inl (mI S c1 0)) (zT_tis hS hg) (zT_tt hS hg) rfl f_10_58_9 rfl ?_
      refine zw_push hm_119 dX10_comes_19 (v := .inl (512 : Int32)) rfl ?_
      refine zw_if2 hm_119 dX10_comes_22 (t := 35) rfl zc2_ge ?_ ?_
      · intro hc
        rw [if_pos hc] at h
        exact zw_vret hm_119 dX10_comes_35 h
      · intro hc
        rw [if_neg hc] at h
        refine zw_push hm_119 dX10_comes_25 (v := .inr (.inr (some 75))) rfl ?_
        refine zw_gf hm_119 dX10_comes_26 (v := .inl (mI S 75 4)) (zT_is hS s_75) (zT_t hS s_75) rfl f_10_32_10 rfl ?_
        refine zw_push hm_119 dX10_comes_29 (v := .inl (512 : Int32)) rfl ?_
        refine zw_if2 hm_119 dX10_comes_32 (t := 36) rfl zc2_lt ?_ ?_
        · intro hc
          rw [if_pos hc] at h
          refine zw_push hm_119 dX10_comes_36 (v := .inr (.inr (some 75))) rfl ?_
          refine zw_gf hm_119 dX10_comes_37 (v := .inr (.inr (some 77))) (zT_is hS s_75) (zT_t hS s_75) rfl f_10_15_10 (zT_f hS r_75_2) ?_
          refine zw_push hm_119 dX10_comes_40 (v := .inr (.inr (some c1))) rfl ?_
          obtain ⟨hg, h⟩ := h
          refine zw_gf hm_119 dX10_comes_41 (v := .inl (mI S c1 0)) (zT_tis hS hg) (zT_tt hS hg) rfl f_10_58_9 rfl ?_
          obtain ⟨hg, h⟩ := h
          refine zw_ia hm_119 dX10_comes_44 (zT_is hS s_77) (zT_h hS s_77) rfl hg ?_
          show ma_wp X d w 119 45 [(0, .inr (.inr (some 75))), (1, .inr (.inr (some c1)))] [.inl (mI S 77 (mI S c1 0).toNatClampNeg)] S _
          refine zw_if0 hm_119 dX10_comes_45 (t := 81) rfl zc0_ne ?_ ?_
          · intro hc
            rw [if_neg hc] at h
            exact zw_vret hm_119 dX10_comes_81 h
          · intro hc
            rw [if_pos (Classical.not_not.mp hc)] at h
            refine zw_push hm_119 dX10_comes_48 (v := .inr (.inr (some 75))) rfl ?_
            refine zw_gf hm_119 dX10_comes_49 (v := .inr (.inr (some 77))) (zT_is hS s_75) (zT_t hS s_75) rfl f_10_15_10 (zT_f hS r_75_2) ?_
            refine zw_push hm_119 dX10_comes_52 (v := .inr (.inr (some c1))) rfl ?_
            obtain ⟨hg, h⟩ := h
            refine zw_gf hm_119 dX10_comes_53 (v := .inl (mI S c1 0)) (zT_tis hS hg) (zT_tt hS hg) rfl f_10_58_9 rfl ?_
            refine zw_push hm_119 dX10_comes_56 (v := .inl (1 : Int32)) rfl ?_
            obtain ⟨hg, h⟩ := h
            refine zw_ias hm_119 dX10_comes_57 (zT_is hS s_77) (zT_h hS s_77) rfl hg ?_
            refine zw_push hm_119 dX10_comes_58 (v := .inr (.inr (some 75))) rfl ?_
            refine zw_gf hm_119 dX10_comes_59 (v := .inr (.inr (some 76))) (zT_is (zT_pi hS) s_75) (zT_t (zT_pi hS) s_75) rfl f_10_9_10 (zT_f (zT_pi hS) r_75_1) ?_
            refine zw_push hm_119 dX10_comes_62 (v := .inr (.inr (some 75))) rfl ?_
            refine zw_gf hm_119 dX10_comes_63 (v := .inl (mI S 75 4)) (zT_is (zT_pi hS) s_75) (zT_t (zT_pi hS) s_75) rfl f_10_32_10 rfl ?_
            refine zw_push hm_119 dX10_comes_66 (v := .inr (.inr (some c1))) rfl ?_
            obtain ⟨hg, h⟩ := h
            refine zw_gf hm_119 dX10_comes_67 (v := .inl (mI (ma_put S 77 (mI S c1 0).toNatClampNeg (.inl (1 : Int32))) c1 0)) (zT_tis (zT_pi hS) hg) (zT_tt (zT_pi hS) hg) rfl f_10_58_9 rfl ?_
            obtain ⟨hg, h⟩ := h
            refine zw_ias hm_119 dX10_comes_70 (zT_is (zT_pi hS) s_76) (zT_h (zT_pi hS) s_76) rfl hg ?_
            refine zw_push hm_119 dX10_comes_71 (v := .inr (.inr (some 75))) rfl ?_
            refine zw_stk hm_119 dX10_comes_72 (st' := [.inr (.inr (some 75)), .inr (.inr (some 75))]) rfl rfl ?_
            refine zw_gf hm_119 dX10_comes_73 (v := .inl (mI S 75 4)) (zT_is (zT_pi (zT_pi hS)) s_75) (zT_t (zT_pi (zT_pi hS)) s_75) rfl f_10_32_10 rfl ?_
            refine zw_push hm_119 dX10_comes_76 (v := .inl (1 : Int32)) rfl ?_
            refine zw_stk hm_119 dX10_comes_77 (st' := [.inl ((mI S 75 4) + (1 : Int32)), .inr (.inr (some 75))]) rfl rfl ?_
            refine zw_pf hm_119 dX10_comes_78 (zT_is (zT_pi (zT_pi hS)) s_75) (zT_t (zT_pi (zT_pi hS)) s_75) p_10_32_10 zk_int ?_
            exact zw_vret hm_119 dX10_comes_81 h
        · intro hc
          rw [if_neg hc] at h
          exact zw_vret hm_119 dX10_comes_35 h
theorem sp_119_75_sk {X : Nat × (Nat → Int32)} {d w : Nat} {f : Nat → Nat → Int32} {r : Nat → Nat → Option Nat} {C Z N : Nat} {Q : Option ma_V ⊕ Nat → ma_S → Prop} {ab : Nat→Nat→Int32} {R : zRT} {y : Int32} {a8 : Nat→Nat→Int32} {kk : Nat→Int32} {S : ma_S} (t : Option Nat) (hd : 0 ≤ d) (hw : 0 ≤ w) (hI : zI f r C Z N S) (hq_t : ∀ c, t = some c → 126 ≤ c ∧ c < N) (hpre0 : xB S R) (hpre1 : aS 75 S = ab) (hpre2 : t = zTa R y) (hpre3 : aS 88 S = a8) (hpre4 : kC S = kk) (K : ∀ S', zI f r C Z N S' → (xB S' R) → (aS 75 S' = aCm ab y) → (aS 88 S' = a8) → (kC S' = kk) → Q (.inl none) S') : ma_wp X d w 119 0 [(0, .inr (.inr (some 75))), (1, .inr (.inr t))] [] S Q := by
  refine g_119_75_sk_0 t (by omega) (by omega) (zG_T hI) ?_
  refine ⟨fun hc => ?_, fun c1 hc => ?_⟩
  · skip
    have rn_c1 : zTa R y = none := hpre2.symm.trans hc
    exact K _ hI (show xB S R from by first | (exact (xC_o (W := 75) hpre0).2)) (show aS 75 S = aCm ab y from by first | (exact hpre1.trans (aCm_n (fun z => xB_nt (W := 75) hpre0 rn_c1 (by rw [hpre1]; exact ⟨z.1, z.2.1, z.2.2.1⟩))).symm)) (show aS 88 S = a8 from by first | (exact (xC_o (W := 88) hpre0).1.trans hpre3)) (show kC S = kk from by first | (exact (xK_o (W := 75) hpre0 hpre4).2))
  · skip
    have th_c1 := hq_t c1 hc
    have rg_c1 : zTa R y = some c1 := hpre2.symm.trans hc
    subst hc
    refine ⟨zG_n hI th_c1, ?_⟩
    have f1 := zG_th hI th_c1
    have b2 := i_bd (mI S 75 5)
    refine zd (fun h3 => ?_) (fun h3 => ?_)
    · skip
      have g4 := i_lt h3
      exact K _ hI (show xB S R from by first | (exact (xC_o (W := 75) hpre0).2)) (show aS 75 S = aCm ab y from by first | (have ty := xB_th (W := 75) hpre0 rg_c1; have e4 := congrArg Int32.toInt ty.2.2.2.2.2.1; refine hpre1.trans (aCm_n (fun z => ?_)).symm; rw [← hpre1] at z; have z4 : (mI S 75 5).toInt ≤ (mI S c1 4).toInt := (by rw [e4]; exact z.2.2.2.1); have z5 : (mI S 75 4).toInt < 512 := z.2.2.2.2.1; have z6 : (mI S 77 (mI S c1 0).toNatClampNeg).toInt = 0 := (by rw [ty.2.2.1]; exact congrArg Int32.toInt z.2.2.2.2.2); omega)) (show aS 88 S = a8 from by first | (exact (xC_o (W := 88) hpre0).1.trans hpre3)) (show kC S = kk from by first | (exact (xK_o (W := 75) hpre0 hpre4).2))
    · skip
      have g5 := i_nlt h3
      refine ⟨zG_n hI th_c1, ?_⟩
      have li6 : (512 : Int32).toInt = 512 := rfl
      have f7 := zG_th hI th_c1
      refine zd (fun h8 => ?_) (fun h8 => ?_)
      · skip
        have g9 := i_le h8
        exact K _ hI (show xB S R from by first | (exact (xC_o (W := 75) hpre0).2)) (show aS 75 S = aCm ab y from by first | (have ty := xB_th (W := 75) hpre0 rg_c1; have e4 := congrArg Int32.toInt ty.2.2.2.2.2.1; refine hpre1.trans (aCm_n (fun z => ?_)).symm; rw [← hpre1] at z; have z4 : (mI S 75 5).toInt ≤ (mI S c1 4).toInt := (by rw [e4]; exact z.2.2.2.1); have z5 : (mI S 75 4).toInt < 512 := z.2.2.2.2.1; have z6 : (mI S 77 (mI S c1 0).toNatClampNeg).toInt = 0 := (by rw [ty.2.2.1]; exact congrArg Int32.toInt z.2.2.2.2.2); omega)) (show aS 88 S = a8 from by first | (exact (xC_o (W := 88) hpre0).1.trans hpre3)) (show kC S = kk from by first | (exact (xK_o (W := 75) hpre0 hpre4).2))
      · skip
        have g10 := i_nle h8
        have f11 := zG_s hI (0) (512) (c := 75) (k := 4) (by decide)
        refine zd (fun h12 => ?_) (fun h12 => ?_)
        · skip
          have g13 := i_lt h12
          refine ⟨zG_n hI th_c1, ?_⟩
          refine ⟨i_ix (by omega) (by omega), ?_⟩
          have b14 := i_bd (mI S 77 (mI S c1 0).toNatClampNeg)
          have li15 : (0 : Int32).toInt = 0 := rfl
          refine zd (fun h16 => ?_) (fun h16 => ?_)
          · skip
            have g17 := i_eq h16
            refine ⟨zG_n hI th_c1, ?_⟩
            refine ⟨i_ix (by omega) (by omega), ?_⟩
            have hI18 : zI f r C Z N (ma_put S 77 (mI S c1 0).toNatClampNeg (.inl (1 : Int32))) := zG_fa hI rfl (by decide) (by decide) (by decide) trivial
            refine ⟨zG_n hI18 th_c1, ?_⟩
            refine ⟨i_ix (by omega) (by omega), ?_⟩
            have hI19 : zI f r C Z N (ma_put (ma_put S 77 (mI S c1 0).toNatClampNeg (.inl (1 : Int32))) 76 (mI S 75 4).toNatClampNeg (.inl (mI (ma_put S 77 (mI S c1 0).toNatClampNeg (.inl (1 : Int32))) c1 0))) := zG_fa hI18 rfl (by decide) (by decide) (by decide) trivial
            first | have e21 : ((mI S 75 4) + (1 : Int32)).toInt = (mI S 75 4).toInt + (1) := i_addk rfl (by omega) (by omega) | have b22 := i_bd ((mI S 75 4) + (1 : Int32))
            have hI20 : zI f r C Z N (ma_put (ma_put (ma_put S 77 (mI S c1 0).toNatClampNeg (.inl (1 : Int32))) 76 (mI S 75 4).toNatClampNeg (.inl (mI (ma_put S 77 (mI S c1 0).toNatClampNeg (.inl (1 : Int32))) c1 0))) 75 4 (.inl ((mI S 75 4) + (1 : Int32)))) := zG_sp hI19 (0) (512) rfl (by decide) (by decide) (by decide) trivial (by omega) (by omega)
            exact K _ hI20 (show xB (ma_put (ma_put (ma_put S 77 (mI S c1 0).toNatClampNeg (.inl (1 : Int32))) 76 (mI S 75 4).toNatClampNeg (.inl (mI (ma_put S 77 (mI S c1 0).toNatClampNeg (.inl (1 : Int32))) c1 0))) 75 4 (.inl ((mI S 75 4) + (1 : Int32)))) R from by first | (exact (xC_p (c := 75) (k := 4) (x := ((mI S 75 4) + (1 : Int32))) (xC_p (c := 76) (k := (mI S 75 4).toNatClampNeg) (x := (mI (ma_put S 77 (mI S c1 0).toNatClampNeg (.inl (1 : Int32))) c1 0)) (xC_p (c := 77) (k := (mI S c1 0).toNatClampNeg) (x := (1 : Int32)) (xC_o (W := 75) hpre0) 77 xW75 rfl rfl) 76 xW75 rfl rfl) 75 xW75 rfl rfl).2)) (show aS 75 (ma_put (ma_put (ma_put S 77 (mI S c1 0).toNatClampNeg (.inl (1 : Int32))) 76 (mI S 75 4).toNatClampNeg (.inl (mI (ma_put S 77 (mI S c1 0).toNatClampNeg (.inl (1 : Int32))) c1 0))) 75 4 (.inl ((mI S 75 4) + (1 : Int32)))) = aCm ab y from by first | (have ty := xB_th (W := 75) hpre0 rg_c1; have e4 := congrArg Int32.toInt ty.2.2.2.2.2.1; refine (xC_p (c := 75) (k := 4) (x := ((mI S 75 4) + (1 : Int32))) (xC_p (c := 76) (k := (mI S 75 4).toNatClampNeg) (x := (mI (ma_put S 77 (mI S c1 0).toNatClampNeg (.inl (1 : Int32))) c1 0)) (xC_p (c := 77) (k := (mI S c1 0).toNatClampNeg) (x := (1 : Int32)) (xC_o (W := 75) hpre0) 77 xW75 rfl rfl) 76 xW75 rfl rfl) 75 xW75 rfl rfl).1.trans ?_; (try simp only [zp_e (c' := 75) th_c1.1 (by decide), zp_e (c' := 76) th_c1.1 (by decide), zp_e (c' := 77) th_c1.1 (by decide)]); rw [ty.2.2.1, ← hpre1]; refine (aCm_y ⟨ty.1, ty.2.1, ?_, ?_, ?_, ?_⟩).symm; (rw [ty.2.2.2.2.2.2.2.2]; decide); (show (mI S 75 5).toInt ≤ _; rw [← e4]; omega); (show (mI S 75 4).toInt < 512; omega); (show mI S 77 y.toNatClampNeg = 0; rw [← ty.2.2.1]; assumption))) (show aS 88 (ma_put (ma_put (ma_put S 77 (mI S c1 0).toNatClampNeg (.inl (1 : Int32))) 76 (mI S 75 4).toNatClampNeg (.inl (mI (ma_put S 77 (mI S c1 0).toNatClampNeg (.inl (1 : Int32))) c1 0))) 75 4 (.inl ((mI S 75 4) + (1 : Int32)))) = a8 from by first | (exact (xC_n (c := 75) (k := 4) (x := ((mI S 75 4) + (1 : Int32))) (xC_n (c := 76) (k := (mI S 75 4).toNatClampNeg) (x := (mI (ma_put S 77 (mI S c1 0).toNatClampNeg (.inl (1 : Int32))) c1 0)) (xC_n (c := 77) (k := (mI S c1 0).toNatClampNeg) (x := (1 : Int32)) (xC_o (W := 88) hpre0) ⟨by decide, Or.inr ⟨rfl, Or.inl (by decide)⟩⟩) ⟨by decide, Or.inr ⟨rfl, Or.inl (by decide)⟩⟩) ⟨by decide, Or.inr ⟨rfl, Or.inl (by decide)⟩⟩).1.trans hpre3)) (show kC (ma_put (ma_put (ma_put S 77 (mI S c1 0).toNatClampNeg (.inl (1 : Int32))) 76 (mI S 75 4).toNatClampNeg (.inl (mI (ma_put S 77 (mI S c1 0).toNatClampNeg (.inl (1 : Int32))) c1 0))) 75 4 (.inl ((mI S 75 4) + (1 : Int32)))) = kk from by first | (exact (xK_p (c := 75) (k := 4) (x := ((mI S 75 4) + (1 : Int32))) (xK_p (c := 76) (k := (mI S 75 4).toNatClampNeg) (x := (mI (ma_put S 77 (mI S c1 0).toNatClampNeg (.inl (1 : Int32))) c1 0)) (xK_p (c := 77) (k := (mI S c1 0).toNatClampNeg) (x := (1 : Int32)) (xK_o (W := 75) hpre0 hpre4) 77 xW75 rfl rfl) 76 xW75 rfl rfl) 75 xW75 rfl rfl).2))
          · skip
            have g23 := i_ne h16
            exact K _ hI (show xB S R from by first | (exact (xC_o (W := 75) hpre0).2)) (show aS 75 S = aCm ab y from by first | (have ty := xB_th (W := 75) hpre0 rg_c1; have e4 := congrArg Int32.toInt ty.2.2.2.2.2.1; refine hpre1.trans (aCm_n (fun z => ?_)).symm; rw [← hpre1] at z; have z4 : (mI S 75 5).toInt ≤ (mI S c1 4).toInt := (by rw [e4]; exact z.2.2.2.1); have z5 : (mI S 75 4).toInt < 512 := z.2.2.2.2.1; have z6 : (mI S 77 (mI S c1 0).toNatClampNeg).toInt = 0 := (by rw [ty.2.2.1]; exact congrArg Int32.toInt z.2.2.2.2.2); omega)) (show aS 88 S = a8 from by first | (exact (xC_o (W := 88) hpre0).1.trans hpre3)) (show kC S = kk from by first | (exact (xK_o (W := 75) hpre0 hpre4).2))
        · skip
          have g24 := i_nlt h12
          exact K _ hI (show xB S R from by first | (exact (xC_o (W := 75) hpre0).2)) (show aS 75 S = aCm ab y from by first | (have ty := xB_th (W := 75) hpre0 rg_c1; have e4 := congrArg Int32.toInt ty.2.2.2.2.2.1; refine hpre1.trans (aCm_n (fun z => ?_)).symm; rw [← hpre1] at z; have z4 : (mI S 75 5).toInt ≤ (mI S c1 4).toInt := (by rw [e4]; exact z.2.2.2.1); have z5 : (mI S 75 4).toInt < 512 := z.2.2.2.2.1; have z6 : (mI S 77 (mI S c1 0).toNatClampNeg).toInt = 0 := (by rw [ty.2.2.1]; exact congrArg Int32.toInt z.2.2.2.2.2); omega)) (show aS 88 S = a8 from by first | (exact (xC_o (W := 88) hpre0).1.trans hpre3)) (show kC S = kk from by first | (exact (xK_o (W := 75) hpre0 hpre4).2))
