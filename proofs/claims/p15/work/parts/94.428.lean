/-! counts that fall -/
def zgo (gm : Int32) (us : Nat → Int32) : Prop := gm.toInt + (cnt us 3100 : Int) ≤ 3100
def zgw (gw go ws : Nat → Int32) (gm : Int32) : Prop := ∀ j : Nat, (j : Int) < gm.toInt → (gw j).toInt ≤ (ws (go j).toNatClampNeg).toInt
def zlm (us gw : Nat → Int32) (gm : Int32) : Nat := cnt us 3100 * 400000 + gm.toInt.toNat * 100 + (if gm.toInt ≤ 0 then 0 else (61 - (gw (gm.toInt - 1).toNat).toInt).toNat)
section LE1
variable {m mg : Nat → Nat → Int32} {c d k : Nat} {gm gm' x y v i : Int32} {us gw go ws : Nat → Int32}
theorem go_room (h : zgo gm us) (hu : us k ≠ 0) (hk : k < 3100) : gm.toInt < 3100 := by
  have := cnt_pos hk hu
  unfold zgo at h
  omega
theorem go_push (h : zgo gm (m c)) (hu : m c k ≠ 0) (hk : k < 3100) (hy : gm'.toInt = gm.toInt + 1) : zgo gm' (ma_u m c k 0 c) := by
  have := cnt_dn hk hu
  unfold zgo at h ⊢
  omega
theorem go_pop (h : zgo gm us) (hy : gm'.toInt ≤ gm.toInt) : zgo gm' us := by
  unfold zgo at h ⊢
  omega
theorem go_0 (h : gm.toInt ≤ 0) : zgo gm us := by
  have := cnt_le (r := us) (n := 3100)
  unfold zgo
  omega
theorem gw_0 (h : gm.toInt ≤ 0) : zgw gw go ws gm := fun j hj => by omega
theorem gw_pop (h : zgw gw go ws gm) (hy : gm'.toInt ≤ gm.toInt) : zgw gw go ws gm' := fun j hj => h j (by omega)
theorem gw_push (h : zgw (m c) (mg d) ws gm) (h0 : 0 ≤ gm.toInt) (hy : gm'.toInt = gm.toInt + 1) (hx : x.toInt ≤ (ws v.toNatClampNeg).toInt) : zgw (ma_u m c gm.toNatClampNeg x c) (ma_u mg d gm.toNatClampNeg v d) ws gm' := by
  have e : gm.toNatClampNeg = gm.toInt.toNat := rfl
  intro j hj
  by_cases q : j = gm.toNatClampNeg
  · rw [q, mu_self, mu_self]; exact hx
  · rw [mu_ne q, mu_ne q]; exact h j (by omega)
theorem gw_adv (h : zgw (m c) go ws gm) (hx : x.toInt ≤ (ws (go k).toNatClampNeg).toInt) : zgw (ma_u m c k x c) go ws gm := by
  intro j hj
  rw [mu_at]
  split
  · next e => rw [e]; exact hx
  · exact h j hj
theorem lm_pop (h1 : 1 ≤ gm.toInt) (hy : gm'.toInt = gm.toInt - 1) (hb : ∀ j : Nat, (j : Int) < gm.toInt → 0 ≤ (gw j).toInt ∧ (gw j).toInt ≤ 60) : zlm us gw gm' < zlm us gw gm := by
  unfold zlm
  rw [if_neg (show ¬ gm.toInt ≤ 0 by omega)]
  have b1 := hb (gm.toInt - 1).toNat (by omega)
  split
  · omega
  · have b2 := hb (gm'.toInt - 1).toNat (by omega)
    omega
theorem lm_adv (h1 : 1 ≤ gm.toInt) (hk : (k : Int) = gm.toInt - 1) (hx : x.toInt = (m c k).toInt + 1) (hb : (m c k).toInt ≤ 60) : zlm us (ma_u m c k x c) gm < zlm us (m c) gm := by
  unfold zlm
  have e : (gm.toInt - 1).toNat = k := by omega
  rw [if_neg (show ¬ gm.toInt ≤ 0 by omega), if_neg (show ¬ gm.toInt ≤ 0 by omega), e, mu_self]
  omega
theorem lm_push (hu : m c k ≠ 0) (hk : k < 3100) (h0 : 0 ≤ gm.toInt) (h1 : gm.toInt < 3100) (hy : gm'.toInt = gm.toInt + 1) (hx : x.toInt = 0) : zlm (ma_u m c k 0 c) (ma_u mg d gm.toNatClampNeg x d) gm' ≤ zlm (m c) (mg d) gm := by
  have e := cnt_dn hk hu
  unfold zlm
  have e1 : (gm'.toInt - 1).toNat = gm.toNatClampNeg := by rw [tn_eq]; omega
  rw [if_neg (show ¬ gm'.toInt ≤ 0 by omega), e1, mu_self]
  have e2 : cnt (m c) 3100 * 400000 = cnt (ma_u m c k 0 c) 3100 * 400000 + 400000 := by omega
  omega
end LE1
