/-! from 95.za0 -/
/-! the reference answers (written by wip/tools/gen15a.py) -/
/-! ANSWERS, once more: a choice, and what makes an answer one -/
def zSel (C A B : Prop) : Prop := (¬ C ∧ A) ∨ (C ∧ B)
def zFu (P : Int32 → Int32 → Prop) : Prop := ∀ th v th2 v2, P th v → P th2 v2 → th2.toInt = th.toInt ∧ (th.toInt = 0 → v2 = v)
theorem fu_k {k : Int} (h : k ≠ 0) : zFu (fun th _ => th.toInt = k) := fun th v th2 v2 a b => ⟨b.trans a.symm, fun z => absurd (a.symm.trans z) h⟩
theorem fu_s {C : Prop} {P Q : Int32 → Int32 → Prop} (h : zFu P) (g : zFu Q) : zFu (fun th v => zSel C (P th v) (Q th v)) := fun th v th2 v2 a b => by
  rcases a with a | a
  · rcases b with b | b
    · exact h th v th2 v2 a.2 b.2
    · exact absurd b.1 a.1
  · rcases b with b | b
    · exact absurd a.1 b.1
    · exact g th v th2 v2 a.2 b.2
def qSlt (i : Int32) : Prop := 0 ≤ i.toInt ∧ i.toInt ≤ 15
/-! where a heap stands -/
def qNwe (a : Nat → Nat → Int32) (i o th v : Int32) : Prop := zSel (qSlt i) (th.toInt = 1) (zSel (o = -1 ∨ zRq a o) (th.toInt = 3) (th.toInt = 0 ∧ v = a 73 i.toNatClampNeg))
def qNro (a : Nat → Nat → Int32) (i o th v : Int32) : Prop := zSel (qSlt i) (th.toInt = 1) (zSel (o = -1 ∨ zRq a o) (th.toInt = 3) (th.toInt = 0 ∧ v = aNm a (a 72 i.toNatClampNeg)))
def qNsg (a : Nat → Nat → Int32) (i r th v : Int32) : Prop := zSel (qSlt i ∧ qSlt r) (th.toInt = 1) (th.toInt = 0 ∧ v = aNm a (a 73 i.toNatClampNeg))
def qNgr (a : Nat → Nat → Int32) (r th v : Int32) : Prop := zSel (qSlt r) (th.toInt = 1) (th.toInt = 0 ∧ v = aNm a (aTy a))
def qNli (a : Nat → Nat → Int32) (o i t th v : Int32) : Prop := zSel (zRq a o ∧ (t = -1 ∨ zRq a t)) (th.toInt = 2) (zSel (zHw a o i) (th.toInt = 3) (zSel (zIr a o i) (th.toInt = 4) (th.toInt = 0 ∧ v = aNm a (aRef a o.toNatClampNeg i))))
def qNho (c : Prop) (a : Nat → Nat → Int32) (o b th v : Int32) : Prop := zSel (zRq a o) (th.toInt = 2) (zSel (c ∧ (¬ b = 0 ∨ ¬ a 133 o.toNatClampNeg = 0)) (th.toInt = 3) (th.toInt = 0 ∧ v = a 133 o.toNatClampNeg + (if b = 0 then -1 else 1)))
section G1
variable {a : Nat → Nat → Int32} {us nr kr kd ws at₉ ho wd wi ow rt wk wl : Nat → Int32} {wm nu ro fo le ra pi o i s x : Int32} {k : Nat}
end G1
section G2
variable {a : Nat → Nat → Int32} {us nr kr kd ws at₉ ho wd wi ow rt wk wl : Nat → Int32} {wm nu ro fo le ra pi o i s x b po ol : Int32} {k : Nat} {c : Prop}
end G2
