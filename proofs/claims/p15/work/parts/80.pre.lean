theorem z_vp900 {x : Int32} (h1 : ¬ x < 0) (h2 : ¬ 900 ≤ x) : vp_in x 900 := by
  rw [vp_in_iff]
  have a := Int32.le_iff_toInt_le.mp (Int32.not_lt.mp h1)
  have b := Int32.lt_iff_toInt_lt.mp (Int32.not_le.mp h2)
  have e8 : (900 : Int32).toInt = 900 := by decide
  rw [z_t0] at a
  rw [e8] at b
  omega
theorem z_upz {B i : Int32} (h : (B.toInt - i.toInt).toNat ≤ 0) : B ≤ i := by
  rw [Int32.le_iff_toInt_le]
  omega
theorem z_up {B i : Int32} {n : Nat} (h : (B.toInt - i.toInt).toNat ≤ n + 1) (hc : ¬ B ≤ i) : (B.toInt - (i + Int32.ofInt 1).toInt).toNat ≤ n := by
  have h1 : ¬ B.toInt ≤ i.toInt := fun g => hc (Int32.le_iff_toInt_le.mpr g)
  have h2 := B.toInt_lt
  have h3 := i.le_toInt
  have e1 : (Int32.ofInt 1).toInt = 1 := by decide
  have h4 : (i + Int32.ofInt 1).toInt = i.toInt + 1 := by
    rw [Int32.toInt_add, e1]
    rw [Int.bmod_eq_of_le (by omega) (by omega)]
  rw [h4]
  omega
theorem z_vpn {x : Int32} {n : Nat} (hn : n < 2 ^ 31) (h1 : ¬ x < 0) (h2 : ¬ Int32.ofNat n ≤ x) : vp_in x n := by
  rw [vp_in_iff]
  have a := Int32.le_iff_toInt_le.mp (Int32.not_lt.mp h1)
  have b := Int32.lt_iff_toInt_lt.mp (Int32.not_le.mp h2)
  have e8 : (Int32.ofNat n).toInt = n := nI_toInt hn
  rw [z_t0] at a
  rw [e8] at b
  omega
