theorem z_vp900 {x : Int32} (h1 : ¬ x < 0) (h2 : ¬ 900 ≤ x) : vp_in x 900 := by
  rw [vp_in_iff]
  have a := Int32.le_iff_toInt_le.mp (Int32.not_lt.mp h1)
  have b := Int32.lt_iff_toInt_lt.mp (Int32.not_le.mp h2)
  have e8 : (900 : Int32).toInt = 900 := by decide
  rw [z_t0] at a
  rw [e8] at b
  omega
