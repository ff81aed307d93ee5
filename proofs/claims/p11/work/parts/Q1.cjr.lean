/-! the class's reading: a plain row more -/
theorem q_pop6 (N : Nat) (s : CS) (h : 1 ≤ cnI s ∧ cnI s ≤ 400) : ok (f_X6_pop N s) (fun R => R.2 = CS.setI s 53 (s.i 53 - 1) ∧ (s.i 53 - 1).toInt = cnI s - 1) := by
  unfold f_X6_pop
  have e1 : (1 : Int32).toInt = 1 := by decide
  have h' : 1 ≤ (s.i 53).toInt ∧ (s.i 53).toInt ≤ 400 := h
  have e : (s.i 53 - 1).toInt = cnI s - 1 := by
    show _ = (s.i 53).toInt - 1
    rw [toInt_sub] <;> rw [e1] <;> omega
  refine ok_some ⟨?_, e⟩
  show CS.setI s 53 (if 0 < s.i 53 - 1 then s.i 53 - 1 else 0) = _
  by_cases c : 0 < s.i 53 - 1
  · rw [if_pos c]
  · rw [if_neg c]
    have l := le_int (Int32.not_lt.mp c)
    rw [z_t0] at l
    have : s.i 53 - 1 = 0 := Int32.toInt_inj.mp (by rw [z_t0]; omega)
    rw [this]
