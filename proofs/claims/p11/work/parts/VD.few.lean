theorem ad1 {x : Int32} (h0 : 0 ≤ x.toInt) (h1 : x.toInt < 2147483647) : (x + 1).toInt = x.toInt + 1 := by
  have e1 : (1 : Int32).toInt = 1 := by decide
  rw [toInt_add] <;> rw [e1] <;> omega

theorem ob_id {α : Type} (x : Option α) : (x.bind fun p => some p) = x := by cases x <;> rfl

theorem ob_un {x : Option (Unit × CS)} {R : Unit × CS} (h : (x.bind fun q => some ((), q.2)) = some R) : x = some R := by
  obtain ⟨q, h1, h2⟩ := hf_bind h
  rw [h1]
  exact h2

theorem ri_ne {s : RS} {k j : Nat} {v : Int32} (h : j ≠ k) : (RS.setI s k v).i j = s.i j := if_neg h
theorem ri_at {s : RS} {k : Nat} {v : Int32} : (RS.setI s k v).i k = v := if_pos rfl
