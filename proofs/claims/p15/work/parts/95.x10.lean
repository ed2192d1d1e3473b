/-! the class opens a heap (written by wip/tools/gen15h.py) -/
/-- a region's size, as the text tells it -/
def zV4 (t : Nat → Int32) (n : Int) : Int := zPart 4 t (zts t n 2) (zte t n 2) (zVal t n 0 1)
def qM1 (v r0 : Int32) (t : Nat → Int32) (n : Int) : Prop := (v.toInt = 1 ∨ v.toInt = 2) → r0.toInt = zVal t n 0 1
def qM3 (v r0 r1 r2 r3 : Int32) (t : Nat → Int32) (n : Int) : Prop := v.toInt = 3 → (r0.toInt = zVal t n 0 1 ∧ r1.toInt = zVal t n 0 2 ∧ r2.toInt = zVal t n 1 3 ∧ r3.toInt = zVal t n 2 4)
def qM6 (v r0 r1 r2 : Int32) (t : Nat → Int32) (n : Int) : Prop := v.toInt = 6 → (r0.toInt = zVal t n 0 1 ∧ r1.toInt = zV4 t n ∧ r2.toInt = zVal t n 5 3)
