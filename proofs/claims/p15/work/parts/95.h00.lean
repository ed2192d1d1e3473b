/-! the reference by numbers (written by wip/tools/gen18r.py) -/
theorem i_nz2 {x : Int32} (h : x.toInt ≠ 0) : x ≠ 0 := fun w => h (by rw [w]; rfl)
theorem i_one {x : Int32} (h : x.toInt = 1) : (1 : Int32) = x := Int32.toInt_inj.mp (by rw [h]; rfl)
theorem i_zer {x : Int32} (h : x.toInt = 0) : x = 0 := Int32.toInt_inj.mp (by rw [h]; rfl)
