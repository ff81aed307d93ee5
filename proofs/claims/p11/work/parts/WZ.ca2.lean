/-! both readers: a number of a switch -/
/-- an entry more, at the end of the chain -/
def ENR (s : RS) (t : Nat) (v b : Int32) (u : RS) : Prop := u.i 24 = s.i 24 + 1 ∧ (0 ≤ (s.i 24).toInt ∧ (s.i 24).toInt < 500) ∧ u.a 25 = upd (s.a 25) (s.i 24).toNatClampNeg v ∧ u.a 28 = upd (s.a 28) (s.i 24).toNatClampNeg b ∧ u.a 67 = upd (s.a 67) t (s.i 24) ∧ ((0 ≤ (s.a 67 t).toInt ∧ u.a 27 = upd (upd (s.a 27) (s.i 24).toNatClampNeg (-1)) (s.a 67 t).toNatClampNeg (s.i 24) ∧ u.a 22 = s.a 22) ∨ ((s.a 67 t).toInt < 0 ∧ u.a 27 = upd (s.a 27) (s.i 24).toNatClampNeg (-1) ∧ u.a 22 = upd (s.a 22) (s.a 66 t).toNatClampNeg (s.i 24) ∧ 0 ≤ (s.a 66 t).toInt)) ∧ (∀ k : Nat, k ≠ 22 → k ≠ 25 → k ≠ 26 → k ≠ 27 → k ≠ 28 → k ≠ 67 → u.a k = s.a k) ∧ (∀ k : Nat, k ≠ 24 → u.i k = s.i k) ∧ u.b = s.b ∧ u.l = s.l ∧ u.a 26 = upd (s.a 26) (s.i 24).toNatClampNeg (s.i 20)
theorem y_entry {N : Nat} {s u : RS} {t : Nat} {x v y : Int32} (hx : x.toNatClampNeg = t) (g : f_X12_entry N s x v y = some u) : ENR s t v (vp_nar .boolean y) u := by
  unfold f_X12_entry f_X12_entry_85 at g
  obtain ⟨i1, g⟩ := hf_ite g
  obtain ⟨i2, g⟩ := hf_ite g
  rw [hx] at g
  by_cases c : 0 ≤ s.a 67 t
  · rw [if_pos c] at g
    obtain ⟨i3, g⟩ := hf_ite g
    obtain ⟨i4, g⟩ := hf_ite g
    cases g
    exact ⟨rfl, ⟨i1.1, i1.2⟩, rfl, rfl, rfl, Or.inl ⟨i3.1, rfl, rfl⟩, fun k h1 h2 h3 h4 h5 h6 => (if_neg h6).trans ((if_neg h4).trans ((if_neg h5).trans ((if_neg h4).trans ((if_neg h3).trans (if_neg h2))))), fun k h => if_neg h, rfl, rfl, rfl⟩
  · rw [if_neg c] at g
    obtain ⟨i3, g⟩ := hf_ite g
    obtain ⟨i4, g⟩ := hf_ite g
    cases g
    have lt := lt_int (Int32.not_le.mp c)
    rw [z_t0] at lt
    exact ⟨rfl, ⟨i1.1, i1.2⟩, rfl, rfl, rfl, Or.inr ⟨lt, rfl, rfl, i3.1⟩, fun k h1 h2 h3 h4 h5 h6 => (if_neg h6).trans ((if_neg h1).trans ((if_neg h5).trans ((if_neg h4).trans ((if_neg h3).trans (if_neg h2))))), fun k h => if_neg h, rfl, rfl, rfl⟩
