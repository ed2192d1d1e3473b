/-! by ages: those not kept yet, that grow old or not; those kept that are YOUNG -/
def zbN0 (us kp ag : Nat → Int32) (a : Int32) : Nat → Bool := fun s => decide (us s ≠ 0 ∧ kp s = 0 ∧ ¬ ag s + (1 : Int32) = a)
def zbN1 (us kp ag : Nat → Int32) (a : Int32) : Nat → Bool := fun s => decide (us s ≠ 0 ∧ kp s = 0 ∧ ag s + (1 : Int32) = a)
def zbKY (us kp at' : Nat → Int32) (ol : Int) : Nat → Bool := fun s => decide (us s ≠ 0 ∧ kp s ≠ 0 ∧ ol ≤ (at' s).toInt)
section SM3
variable {m ma : Nat → Nat → Int32} {c ca k : Nat} {us ws at' at2 ow ow2 : Nat → Int32} {x y a s to : Int32} {ol : Int}
/-- one is kept, and its age goes on: it is no more among those to come -/
theorem smN0_keep (hk : k < 3100) (hu : us k ≠ 0) (h0 : m c k = 0) (hx : x ≠ 0) (hg : ¬ ma ca k + (1 : Int32) = a) : sm (zbN0 us (ma_u m c k x c) (ma_u ma ca k y ca) a) ws 3100 + ((ws k).toInt + 1) = sm (zbN0 us (m c) (ma ca) a) ws 3100 := by
  refine sm_out hk ?_ ?_ (fun t _ hn => ?_)
  · unfold zbN0; exact decide_eq_true ⟨hu, h0, hg⟩
  · unfold zbN0; exact decide_eq_false (fun z => hx (by rw [mu_self] at z; exact z.2.1))
  · unfold zbN0; rw [mu_ne hn, mu_ne hn]
theorem smN0_same (hx : x ≠ 0) (hg : ma ca k + (1 : Int32) = a) : sm (zbN0 us (ma_u m c k x c) (ma_u ma ca k y ca) a) ws 3100 = sm (zbN0 us (m c) (ma ca) a) ws 3100 := by
  refine sm_congr (fun t _ => ?_)
  unfold zbN0
  by_cases z : t = k
  · rw [z, mu_self]
    rw [decide_eq_false (fun w => hx w.2.1), decide_eq_false (fun w => w.2.2 hg)]
  · rw [mu_ne z, mu_ne z]
theorem smN1_keep (hk : k < 3100) (hu : us k ≠ 0) (h0 : m c k = 0) (hx : x ≠ 0) (hg : ma ca k + (1 : Int32) = a) : sm (zbN1 us (ma_u m c k x c) (ma_u ma ca k y ca) a) ws 3100 + ((ws k).toInt + 1) = sm (zbN1 us (m c) (ma ca) a) ws 3100 := by
  refine sm_out hk ?_ ?_ (fun t _ hn => ?_)
  · unfold zbN1; exact decide_eq_true ⟨hu, h0, hg⟩
  · unfold zbN1; exact decide_eq_false (fun z => hx (by rw [mu_self] at z; exact z.2.1))
  · unfold zbN1; rw [mu_ne hn, mu_ne hn]
theorem smN1_same (hx : x ≠ 0) (hg : ¬ ma ca k + (1 : Int32) = a) : sm (zbN1 us (ma_u m c k x c) (ma_u ma ca k y ca) a) ws 3100 = sm (zbN1 us (m c) (ma ca) a) ws 3100 := by
  refine sm_congr (fun t _ => ?_)
  unfold zbN1
  by_cases z : t = k
  · rw [z, mu_self]
    rw [decide_eq_false (fun w => hx w.2.1), decide_eq_false (fun w => hg w.2.2)]
  · rw [mu_ne z, mu_ne z]
/-- it comes to YOUNG's other half -/
theorem smKY_young (hk : s.toNatClampNeg < 3100) (hu : us s.toNatClampNeg ≠ 0) (h0 : m c s.toNatClampNeg = 0) (hx : x ≠ 0) (hm : zmov s to at' ow at2 ow2) (hto : ol ≤ to.toInt) : sm (zbKY us (m c) at' ol) ws 3100 + ((ws s.toNatClampNeg).toInt + 1) = sm (zbKY us (ma_u m c s.toNatClampNeg x c) at2 ol) ws 3100 := by
  refine sm_out hk ?_ ?_ (fun t _ hn => ?_)
  · unfold zbKY; exact decide_eq_true ⟨hu, by rw [mu_self]; exact hx, by rw [mv_s hm]; exact hto⟩
  · unfold zbKY; exact decide_eq_false (fun z => z.2.1 h0)
  · unfold zbKY
    rw [mu_ne hn]
    rcases hm with ⟨e, _, _⟩ | ⟨e, _, _⟩
    · rw [e]
    · rw [e, if_neg hn]
/-- it comes to OLD -/
theorem smKY_old (h0 : m c s.toNatClampNeg = 0) (hm : zmov s to at' ow at2 ow2) (hto : to.toInt < ol) : sm (zbKY us (ma_u m c s.toNatClampNeg x c) at2 ol) ws 3100 = sm (zbKY us (m c) at' ol) ws 3100 := by
  refine sm_congr (fun t _ => ?_)
  unfold zbKY
  by_cases z : t = s.toNatClampNeg
  · rw [z]
    rw [decide_eq_false (fun w => by have := w.2.2; rw [mv_s hm] at this; omega), decide_eq_false (fun w => w.2.1 h0)]
  · rw [mu_ne z]
    rcases hm with ⟨e, _, _⟩ | ⟨e, _, _⟩
    · rw [e]
    · rw [e, if_neg z]
end SM3
