/-! the reference under COUNTS (written by wip/tools/gen20s.py) -/
/-! COUNTS, the reference: what each counts, and those that go -/
abbrev zLL : Type := List (List Int32)
/-- counts: who refers, what the stack still refers to, and two more -/
def qCt (ct us nr : Nat → Int32) (a : Nat → Nat → Int32) (st : List (List Int32)) (x z : Int32) : Prop := ∀ s, s < 3100 → us s ≠ 0 → ct s = Int32.ofInt (cRf a (nr s).toNatClampNeg + (cOc st (nr s).toNatClampNeg : Int) + (cIs x (nr s).toNatClampNeg : Int) + (cIs z (nr s).toNatClampNeg : Int))
/-- a ROOT has it -/
def qXr (a : Nat → Nat → Int32) (x : Int32) : Prop := x.toInt < 0 ∨ ∃ k, k < 16 ∧ a 72 k = x
def qLf (nr kr kd wd : Nat → Int32) (g : Nat) : Nat → Nat → List Int32
  | 0, _ => []
  | k + 1, i => qNo nr (zrf kr kd wd g i) :: qLf nr kr kd wd g k (i + 1)
def qGs (nr kr kd ws wd gs gw : Nat → Int32) : Nat → List (List Int32)
  | 0 => []
  | n + 1 => qLf nr kr kd wd (gs n).toNatClampNeg ((ws (gs n).toNatClampNeg).toInt - (gw n).toInt).toNat (gw n).toInt.toNat :: qGs nr kr kd ws wd gs gw n
def qGo (us nr kr kd ws wd gs gw : Nat → Int32) (gm : Int32) (st : List (List Int32)) : Prop := 0 ≤ gm.toInt ∧ st = qGs nr kr kd ws wd gs gw gm.toInt.toNat ∧ ∀ j : Nat, (j : Int) < gm.toInt → (0 ≤ (gs j).toInt ∧ (gs j).toInt < 3100) ∧ (0 ≤ (gw j).toInt ∧ (gw j).toInt ≤ (ws (gs j).toNatClampNeg).toInt) ∧ ∀ i : Nat, (gw j).toInt ≤ (i : Int) → (i : Int) < (ws (gs j).toNatClampNeg).toInt → qU us (zrf kr kd wd (gs j).toNatClampNeg i)
section D1
variable {a b d : Nat → Nat → Int32} {us us' nr kr kd ws at' ho wd wi ow rt wk wl ct ct' gs gs' gw gw' : Nat → Int32} {wm nu ro fo le ra pi x y z gm gm' : Int32} {s t k n g : Nat} {st : List (List Int32)} {B : Int}
theorem nr_eq (h1 : qR1 us nr ws at' ho a) (hs : s < 3100) (hu : us s ≠ 0) (ht : t < 3100) (hv : us t ≠ 0) : cIs (nr s) (nr t).toNatClampNeg = if t = s then 1 else 0 := by
  by_cases e : t = s
  · rw [if_pos e, e]
    exact cIs_s (h1.1 s hs hu).1.1
  · rw [if_neg e]
    refine cIs_0 (fun w => e ?_)
    rw [R1_of_nr h1 ht hv] at w
    exact h1.2.1 t s ht hs hv hu w.symm
theorem is_m1 (hn : n < 512) : cIs (-1) n = 0 := cIs_n (by decide) hn
theorem nr_lt (h1 : qR1 us nr ws at' ho a) (hs : s < 3100) (hu : us s ≠ 0) : (nr s).toNatClampNeg < 512 := (R1_al h1 hs hu).1
/-- one less of the one that is named -/
theorem Ct_dn (h1 : qR1 us nr ws at' ho a) (h : qCt ct us nr a st x (nr s)) (hs : s < 3100) (hu : us s ≠ 0) (e : ct' = zUp ct s (ct s - 1)) : qCt ct' us nr a st x (-1) := by
  intro t ht hv
  have q := h t ht hv
  have l5 := nr_lt h1 ht hv
  rw [nr_eq h1 hs hu ht hv] at q
  rw [e, is_m1 l5]
  show (if t = s then ct s - 1 else ct t) = _
  by_cases w : t = s
  · rw [if_pos w] at q ⊢
    rw [← w, q]
    have e1 : (1 : Int32) = Int32.ofInt 1 := rfl
    rw [e1, ← Int32.ofInt_sub]
    exact congrArg Int32.ofInt (by omega)
  · rw [if_neg w] at q ⊢
    exact q
/-- one more of the one that is named -/
theorem Ct_up (h1 : qR1 us nr ws at' ho a) (h : qCt ct us nr a st x (-1)) (hs : s < 3100) (hu : us s ≠ 0) (e : ct' = zUp ct s (ct s + 1)) : qCt ct' us nr a st x (nr s) := by
  intro t ht hv
  have q := h t ht hv
  have l5 := nr_lt h1 ht hv
  rw [is_m1 l5] at q
  rw [e, nr_eq h1 hs hu ht hv]
  show (if t = s then ct s + 1 else ct t) = _
  by_cases w : t = s
  · rw [if_pos w, if_pos w]
    rw [w] at q
    rw [q, w]
    have e1 : (1 : Int32) = Int32.ofInt 1 := rfl
    rw [e1, ← Int32.ofInt_add]
    exact congrArg Int32.ofInt (by omega)
  · rw [if_neg w, if_neg w]
    exact q
theorem Ct_v (h1 : qR1 us nr ws at' ho a) (h : qCt ct us nr a st x (-1)) (hV : cV a st B) (hB : B ≤ 1000000) (hs : s < 3100) (hu : us s ≠ 0) : (ct s).toInt = cRf a (nr s).toNatClampNeg + (cOc st (nr s).toNatClampNeg : Int) + (cIs x (nr s).toNatClampNeg : Int) := by
  have al := R1_al h1 hs hu
  have q := Rf_bd hV hB al
  have l := cIs_le (x := x) (n := (nr s).toNatClampNeg)
  rw [h s hs hu, is_m1 al.1]
  rw [Int32.toInt_ofInt_of_le (by omega) (by omega)]
  omega
theorem Ro_ge (hk : k < 16) (e : a 72 k = Int32.ofNat n) : 1 ≤ cRo a n := by
  have q := cSu_le (f := fun k => cIs (a 72 k) n) 16 hk
  have w : cIs (a 72 k) n = 1 := cIs_1 e
  unfold cRo
  have q2 : cIs (a 72 k) n ≤ cSu (fun k => cIs (a 72 k) n) 16 := q
  omega
theorem Ct_yes (h1 : qR1 us nr ws at' ho a) (h : qCt ct us nr a st x (-1)) (hV : cV a st B) (hB : B ≤ 1000000) (hX : qXr a x) (hs : s < 3100) (hu : us s ≠ 0) (hp : 0 < (ct s).toInt) : 0 < cRf a (nr s).toNatClampNeg + (cOc st (nr s).toNatClampNeg : Int) := by
  have al := R1_al h1 hs hu
  rw [Ct_v h1 h hV hB hs hu] at hp
  have l := cIs_le (x := x) (n := (nr s).toNatClampNeg)
  by_cases w : cIs x (nr s).toNatClampNeg = 0
  · rw [w] at hp
    omega
  · have e : x = Int32.ofNat (nr s).toNatClampNeg := Classical.byContradiction (fun z => w (cIs_0 z))
    rcases hX with hX | ⟨k, hk, e2⟩
    · exact absurd (cIs_n hX al.1) w
    · have r := Ro_ge hk (e2.trans e)
      have hd := (hV.2.2.2.1 _ al).1
      unfold cRf
      omega
theorem Ct_no (h1 : qR1 us nr ws at' ho a) (h : qCt ct us nr a st x (-1)) (hV : cV a st B) (hB : B ≤ 1000000) (hs : s < 3100) (hu : us s ≠ 0) (hp : ¬ 0 < (ct s).toInt) : ¬ 0 < cRf a (nr s).toNatClampNeg + (cOc st (nr s).toNatClampNeg : Int) := by
  rw [Ct_v h1 h hV hB hs hu] at hp
  omega
/-- nobody refers to it: the others are closed -/
theorem U_ne (h1 : qR1 us nr ws at' ho a) (hs : s < 3100) (hu : us s ≠ 0) (u : qU us x) (hn : ¬ qNo nr x = Int32.ofNat (nr s).toNatClampNeg) : x.toInt < 0 ∨ zmk us s x.toNatClampNeg ≠ 0 := by
  by_cases w : x.toInt < 0
  · exact Or.inl w
  · have v := U_y u (by omega)
    refine Or.inr (fun z2 => ?_)
    have z : (if x.toNatClampNeg = s then (0 : Int32) else us x.toNatClampNeg) = 0 := z2
    by_cases e : x.toNatClampNeg = s
    · apply hn
      rw [No_y (by omega), e]
      exact (R1_of_nr h1 hs hu).symm
    · rw [if_neg e] at z
      exact v.2 z
theorem U_mk (u : qU us x) (h : x.toInt < 0 ∨ zmk us s x.toNatClampNeg ≠ 0) : qU (zmk us s) x := by
  by_cases w : x.toInt < 0
  · exact Or.inl w
  · exact Or.inr ⟨(U_y u (by omega)).1, h.elim (fun z => absurd z w) id⟩
theorem wp_sl (hR : qRB us nr kr kd ws at' ho wd wi ow rt wk wl wm nu ro fo le ra pi a) (hs : s < 3100) (hu : us s ≠ 0) {i : Nat} (hi : (i : Int) < (ws s).toInt) : qWp a (nr s).toNatClampNeg (Int32.ofNat i) := by
  have t := hR.1.1 s hs hu
  have e : (Int32.ofNat i).toInt = (i : Int) := ofN_s (s := i) (by have := t.2.2.2.2.2.1; omega)
  refine ⟨R1_al hR.1 hs hu, by omega, ?_⟩
  rw [t.2.2.1, i_p1 (by have := t.2.2.2.2.2.1; omega)]
  omega
theorem CK_1 (hR : qRB us nr kr kd ws at' ho wd wi ow rt wk wl wm nu ro fo le ra pi a) (hs : s < 3100) (hu : us s ≠ 0) (h1 : cRo a (nr s).toNatClampNeg = 0) (h2 : cWi a (nr s).toNatClampNeg = 0) (h3 : cTh a (nr s).toNatClampNeg = 0) : qCK (zmk us s) us rt wl wm kr kd ws wd ∧ ∀ t, t < 3100 → us t ≠ 0 → ∀ i : Nat, (i : Int) < (ws t).toInt → zcl (zmk us s) kr kd wd t i := by
  obtain ⟨q1, q2, q3, q4, q5, q6, q7, q8⟩ := hR
  have wd1 : ∀ t, t < 3100 → us t ≠ 0 → ∀ i : Nat, (i : Int) < (ws t).toInt → zcl (zmk us s) kr kd wd t i := fun t ht hv i hi => by
    have q := q2 t ht hv i hi
    refine U_ne q1 hs hu q.1 (fun e => ?_)
    exact Th_ne h3 (wp_sl ⟨q1, q2, q3, q4, q5, q6, q7, q8⟩ ht hv hi) (q.2.1.trans e)
  refine ⟨⟨fun k hk => ?_, fun k hk => ?_, fun t ht hv _ i hi => wd1 t ht hv i hi⟩, wd1⟩
  · have q := q3 k (by omega)
    refine U_ne q1 hs hu q.1 (fun e => ?_)
    exact Ro_ne h1 (by omega) (q.2.trans e)
  · have q := q5.2 k hk
    refine U_ne q1 hs hu (Or.inr ⟨q.1.2.1, q.1.2.2⟩) (fun e => ?_)
    rw [No_y q.1.1] at e
    exact Wi_ne h2 (by rw [q5.1]; exact hk) (q.2.trans e)
/-! the stack -/
theorem Gs_cg : ∀ n : Nat, (∀ j, j < n → gs' j = gs j ∧ gw' j = gw j) → qGs nr kr kd ws wd gs' gw' n = qGs nr kr kd ws wd gs gw n := by
  intro n
  induction n with
  | zero => intro _; rfl
  | succ n ih =>
    intro h
    show qLf nr kr kd wd (gs' n).toNatClampNeg ((ws (gs' n).toNatClampNeg).toInt - (gw' n).toInt).toNat (gw' n).toInt.toNat :: qGs nr kr kd ws wd gs' gw' n = qLf nr kr kd wd (gs n).toNatClampNeg ((ws (gs n).toNatClampNeg).toInt - (gw n).toInt).toNat (gw n).toInt.toNat :: qGs nr kr kd ws wd gs gw n
    rw [(h n (by omega)).1, (h n (by omega)).2, ih (fun j hj => h j (by omega))]
theorem Lf_m : ∀ (k i j : Nat), i ≤ j → j < i + k → qNo nr (zrf kr kd wd g j) ∈ qLf nr kr kd wd g k i := by
  intro k
  induction k with
  | zero => intro i j h1 h2; omega
  | succ k ih =>
    intro i j h1 h2
    by_cases w : j = i
    · rw [w]
      exact List.mem_cons_self
    · exact List.mem_cons_of_mem _ (ih (i + 1) j (by omega) (by omega))
theorem Gs_m : ∀ (n j i : Nat), j < n → 0 ≤ (gw j).toInt → (gw j).toInt ≤ (i : Int) → (i : Int) < (ws (gs j).toNatClampNeg).toInt → ∃ l, l ∈ qGs nr kr kd ws wd gs gw n ∧ qNo nr (zrf kr kd wd (gs j).toNatClampNeg i) ∈ l := by
  intro n
  induction n with
  | zero => intro j i h; omega
  | succ n ih =>
    intro j i hj h0 h1 h2
    by_cases w : j = n
    · rw [w] at h0 h1 h2 ⊢
      exact ⟨_, List.mem_cons_self, Lf_m _ _ _ (by omega) (by omega)⟩
    · obtain ⟨l, l1, l2⟩ := ih j i (by omega) h0 h1 h2
      exact ⟨l, List.mem_cons_of_mem _ l1, l2⟩
theorem Gk_0 (h : gm.toInt = 0) : qGo us nr kr kd ws wd gs gw gm [] := ⟨by omega, by rw [h]; rfl, fun j hj => by omega⟩
theorem Go_nil (h : qGo us nr kr kd ws wd gs gw gm st) (h0 : ¬ 0 < gm.toInt) : st = [] := by
  have e : gm.toInt = 0 := by have := h.1; omega
  rw [h.2.1, e]
  rfl
theorem Gs_top (h0 : 0 < gm.toInt) : qGs nr kr kd ws wd gs gw gm.toInt.toNat = qLf nr kr kd wd (gs (gm.toInt - 1).toNat).toNatClampNeg ((ws (gs (gm.toInt - 1).toNat).toNatClampNeg).toInt - (gw (gm.toInt - 1).toNat).toInt).toNat (gw (gm.toInt - 1).toNat).toInt.toNat :: qGs nr kr kd ws wd gs gw (gm.toInt - 1).toNat := by
  have e : gm.toInt.toNat = (gm.toInt - 1).toNat + 1 := by omega
  rw [e]
  rfl
theorem Go_pop (h : qGo us nr kr kd ws wd gs gw gm st) (h0 : 0 < gm.toInt) (hk : k = (gm.toInt - 1).toNat) (hi : (gw k).toInt = (ws (gs k).toNatClampNeg).toInt) (e : gm'.toInt = gm.toInt - 1) : ∃ t, st = [] :: t ∧ qGo us nr kr kd ws wd gs gw gm' t := by
  refine ⟨qGs nr kr kd ws wd gs gw (gm.toInt - 1).toNat, ?_, by omega, by rw [e], fun j hj => h.2.2 j (by omega)⟩
  rw [h.2.1, Gs_top h0, ← hk]
  rw [show ((ws (gs k).toNatClampNeg).toInt - (gw k).toInt).toNat = 0 from by omega]
  rfl
theorem Go_adv (h : qGo us nr kr kd ws wd gs gw gm st) (h0 : 0 < gm.toInt) (hk : k = (gm.toInt - 1).toNat) (hi : (gw k).toInt < (ws (gs k).toNatClampNeg).toInt) (e : gw' = zUp gw k y) (ey : y.toInt = (gw k).toInt + 1) : ∃ l t, st = (qNo nr (zrf kr kd wd (gs k).toNatClampNeg (gw k).toInt.toNat) :: l) :: t ∧ qGo us nr kr kd ws wd gs gw' gm (l :: t) ∧ qU us (zrf kr kd wd (gs k).toNatClampNeg (gw k).toInt.toNat) := by
  have g := h.2.2 k (by omega)
  have ek : gw' k = y := by
    rw [e]
    exact if_pos rfl
  have eo : ∀ j, j ≠ k → gw' j = gw j := fun j hj => by
    rw [e]
    exact if_neg hj
  refine ⟨qLf nr kr kd wd (gs k).toNatClampNeg ((ws (gs k).toNatClampNeg).toInt - (gw k).toInt - 1).toNat ((gw k).toInt.toNat + 1), qGs nr kr kd ws wd gs gw k, ?_, ⟨h.1, ?_, fun j hj => ?_⟩, g.2.2 _ (by omega) (by omega)⟩
  · rw [h.2.1, Gs_top h0, ← hk]
    rw [show ((ws (gs k).toNatClampNeg).toInt - (gw k).toInt).toNat = ((ws (gs k).toNatClampNeg).toInt - (gw k).toInt - 1).toNat + 1 from by omega]
    rfl
  · rw [Gs_top h0, ← hk, ek, ey, Gs_cg (gs' := gs) (gw' := gw') (gs := gs) (gw := gw) k (fun j hj => ⟨rfl, eo j (by omega)⟩)]
    rw [show ((ws (gs k).toNatClampNeg).toInt - ((gw k).toInt + 1)).toNat = ((ws (gs k).toNatClampNeg).toInt - (gw k).toInt - 1).toNat from by omega, show ((gw k).toInt + 1).toNat = (gw k).toInt.toNat + 1 from by omega]
  · have gj := h.2.2 j hj
    by_cases w : j = k
    · rw [w, ek, ey]
      exact ⟨g.1, by omega, fun i i0 i1 => g.2.2 i (by omega) i1⟩
    · rw [eo j w]
      exact gj
theorem Lf_eq : ∀ (k i : Nat), (∀ j, i ≤ j → j < i + k → aRef a n (Int32.ofNat j) = qNo nr (zrf kr kd wd g j)) → cLf a n k i = qLf nr kr kd wd g k i := by
  intro k
  induction k with
  | zero => intro i _; rfl
  | succ k ih =>
    intro i h
    show aRef a n (Int32.ofNat i) :: cLf a n k (i + 1) = qNo nr (zrf kr kd wd g i) :: qLf nr kr kd wd g k (i + 1)
    rw [h i (by omega) (by omega), ih (i + 1) (fun j h1 h2 => h j (by omega) (by omega))]
theorem Ls_eq (hR : qRB us nr kr kd ws at' ho wd wi ow rt wk wl wm nu ro fo le ra pi a) (hs : s < 3100) (hu : us s ≠ 0) : cLs a (nr s).toNatClampNeg 0 = qLf nr kr kd wd s (ws s).toInt.toNat 0 := by
  have t := hR.1.1 s hs hu
  have ws6 := t.2.2.2.2.2.1
  unfold cLs
  rw [t.2.2.1, i_p1 (by omega), show ((ws s).toInt + 1 - 1).toNat - 0 = (ws s).toInt.toNat from by omega]
  exact Lf_eq _ 0 (fun j _ h2 => (hR.2.1 s hs hu j (by omega)).2.1)
theorem Go_psh (hR : qRB us nr kr kd ws at' ho wd wi ow rt wk wl wm nu ro fo le ra pi a) (h : qGo us nr kr kd ws wd gs gw gm st) (hs : s < 3100) (hu : us s ≠ 0) (hO : cOc st (nr s).toNatClampNeg = 0) (hc : ∀ t, t < 3100 → us t ≠ 0 → ∀ i : Nat, (i : Int) < (ws t).toInt → zcl (zmk us s) kr kd wd t i) (hm : ∀ t, us' t = zmk us s t) (e1 : gs' = zUp gs gm.toNatClampNeg y) (ey : y = Int32.ofNat s) (e2 : gw' = zUp gw gm.toNatClampNeg 0) (e3 : gm'.toInt = gm.toInt + 1) : qGo us' nr kr kd ws wd gs' gw' gm' (cLs a (nr s).toNatClampNeg 0 :: st) := by
  have eu : us' = zmk us s := funext hm
  have cg := tn_cast h.1
  have t := hR.1.1 s hs hu
  have gk : gs' gm.toNatClampNeg = y := by
    rw [e1]
    exact if_pos rfl
  have wk0 : gw' gm.toNatClampNeg = 0 := by
    rw [e2]
    exact if_pos rfl
  have go : ∀ j, j ≠ gm.toNatClampNeg → gs' j = gs j ∧ gw' j = gw j := fun j hj => by
    rw [e1, e2]
    exact ⟨if_neg hj, if_neg hj⟩
  have ys : y.toNatClampNeg = s := by
    have c := tn_cast (x := y) (by rw [ey, ofN_s hs]; omega)
    rw [ey, ofN_s hs] at c
    rw [ey]
    omega
  have kt : (gm'.toInt - 1).toNat = gm.toNatClampNeg := by omega
  refine ⟨by have := h.1; omega, ?_, fun j hj => ?_⟩
  · rw [Gs_top (by have := h.1; omega), kt, gk, wk0, ys, Gs_cg (gs' := gs') (gw' := gw') (gs := gs) (gw := gw) _ (fun j hj => go j (by omega)), Ls_eq hR hs hu, h.2.1]
    rw [show ((ws s).toInt - (0 : Int32).toInt).toNat = (ws s).toInt.toNat from by rw [show (0 : Int32).toInt = 0 from rfl, Int.sub_zero], show (0 : Int32).toInt.toNat = 0 from rfl, show gm.toNatClampNeg = gm.toInt.toNat from rfl]
  · rw [eu]
    by_cases w : j = gm.toNatClampNeg
    · rw [w, gk, wk0, ys]
      refine ⟨⟨by rw [ey, ofN_s hs]; omega, by rw [ey, ofN_s hs]; omega⟩, ⟨by decide, by rw [show (0 : Int32).toInt = 0 from rfl]; exact t.2.2.2.2.2.1.1⟩, fun i _ i1 => ?_⟩
      exact U_mk (hR.2.1 s hs hu i i1).1 (hc s hs hu i i1)
    · have g := h.2.2 j (by omega)
      rw [(go j w).1, (go j w).2]
      refine ⟨g.1, g.2.1, fun i i0 i1 => U_mk (g.2.2 i i0 i1) (U_ne hR.1 hs hu (g.2.2 i i0 i1) (fun e => ?_))⟩
      obtain ⟨l, l1, l2⟩ := Gs_m (nr := nr) (kr := kr) (kd := kd) (ws := ws) (wd := wd) (gs := gs) (gw := gw) gm.toInt.toNat j i (by omega) g.2.1.1 i0 i1
      rw [← h.2.1] at l1
      exact Oc_ne st hO l l1 _ l2 e
/-! one falls -/
theorem Fl_p (h1 : qR1 us nr ws at' ho a) (h : qCt ct us nr a st x (-1)) (hV : cV a st B) (hB : B ≤ 1000000) (hX : qXr a x) (hs : s < 3100) (hu : us s ≠ 0) (hp : 0 < (ct s).toInt) : cFa a st (nr s) = (a, st) := Fa_p (Ct_yes h1 h hV hB hX hs hu hp)
theorem Fl_g (h1 : qR1 us nr ws at' ho a) (h6 : qR6 us nr wi a) (h : qCt ct us nr a st x (-1)) (hV : cV a st B) (hB : B ≤ 1000000) (hs : s < 3100) (hu : us s ≠ 0) (hp : ¬ 0 < (ct s).toInt) (hw : wi s ≠ 0) : cFa a st (nr s) = (aGr a (nr s), st) := Fa_g (Ct_no h1 h hV hB hs hu hp) (by rw [h6 s hs hu]; exact hw)
theorem Fl_r (h1 : qR1 us nr ws at' ho a) (h6 : qR6 us nr wi a) (h : qCt ct us nr a st x (-1)) (hV : cV a st B) (hB : B ≤ 1000000) (hs : s < 3100) (hu : us s ≠ 0) (hp : ¬ 0 < (ct s).toInt) (hw : wi s = 0) : cFa a st (nr s) = (aRm a (nr s), cLs a (nr s).toNatClampNeg 0 :: st) := Fa_r (Ct_no h1 h hV hB hs hu hp) (by rw [h6 s hs hu]; exact hw)
theorem Ct_gr (h1 : qR1 us nr ws at' ho a) (h : qCt ct us nr a st x (-1)) (h0 : 0 ≤ (a 69 5).toInt) (h5 : (a 69 5).toInt < 512) (hs : s < 3100) (hu : us s ≠ 0) (e : ct' = zUp ct s (ct s + 1)) : qCt ct' us nr (aGr a (nr s)) st x (-1) := by
  have q := Ct_up h1 h hs hu e
  intro t ht hv
  rw [q t ht hv, Rf_gr h0 h5, is_m1 (nr_lt h1 ht hv)]
  exact congrArg Int32.ofInt (by omega)
theorem Ct_rm (h1 : qR1 us nr ws at' ho a) (h : qCt ct us nr a st x (-1)) (hV : cV a st B) (hs : s < 3100) (hu : us s ≠ 0) (hm : ∀ t, us' t = zmk us s t) : qCt ct us' nr (aRm a (nr s)) (cLs a (nr s).toNatClampNeg 0 :: st) x (-1) := by
  intro t ht hv2
  rw [hm t] at hv2
  have ts : t ≠ s := fun e => hv2 (if_pos e)
  have hv : us t ≠ 0 := fun w => hv2 ((if_neg ts).trans w)
  have ne : (nr t).toNatClampNeg ≠ (nr s).toNatClampNeg := fun e => ts (h1.2.1 t s ht hs hv hu (by rw [← R1_of_nr h1 ht hv, ← R1_of_nr h1 hs hu, e]))
  rw [h t ht hv]
  have f := Fr_rm hV (h1.1 s hs hu).1.1 (R1_al h1 hs hu) ne
  exact congrArg Int32.ofInt (by omega)
theorem Xr_gr (h : qXr a x) : qXr (aGr a y) x := h.imp id (fun ⟨k, h1, h2⟩ => ⟨k, h1, (congrFun (gr_r (by decide) (by decide) (by decide) (by decide)) k).trans h2⟩)
theorem Xr_rm (h : qXr a x) : qXr (aRm a y) x := h.imp id (fun ⟨k, h1, h2⟩ => ⟨k, h1, (rm_co (by decide) (by decide) (by decide) (by decide)).trans h2⟩)
end D1
