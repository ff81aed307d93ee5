/-! a function answers, and its answer is so -/
def ok {α : Type} (t : Option α) (P : α → Prop) : Prop := ∃ r, t = some r ∧ P r
theorem ok_some {α : Type} {r : α} {P : α → Prop} (h : P r) : ok (some r) P := ⟨r, rfl, h⟩
theorem ok_ite {α : Type} {c : Prop} [Decidable c] {x y : Option α} {P : α → Prop} (h1 : c → ok x P) (h2 : ¬ c → ok y P) : ok (if c then x else y) P := by
  by_cases h : c
  · rw [if_pos h]; exact h1 h
  · rw [if_neg h]; exact h2 h
theorem ok_chk {α : Type} {c : Prop} [Decidable c] {x : Option α} {P : α → Prop} (h : c) (h1 : ok x P) : ok (if c then x else none) P := by rw [if_pos h]; exact h1
theorem ok_chn {α : Type} {c : Prop} [Decidable c] {x : Option α} {P : α → Prop} (h : ¬ c) (h1 : ok x P) : ok (if c then none else x) P := by rw [if_neg h]; exact h1
theorem ok_bind {α β : Type} {x : Option α} {k : α → Option β} {Q : α → Prop} {P : β → Prop} (h1 : ok x Q) (h2 : ∀ p, Q p → ok (k p) P) : ok (x.bind k) P := by
  obtain ⟨p, rfl, hp⟩ := h1
  exact h2 p hp
theorem ok_imp {α : Type} {t : Option α} {P Q : α → Prop} (h : ok t P) (hi : ∀ r, P r → Q r) : ok t Q := by
  obtain ⟨r, h1, h2⟩ := h
  exact ⟨r, h1, hi r h2⟩
theorem t_grind1 (x y : Int32) (h1 : 0 ≤ x.toInt) (h2 : x.toInt < 900) (h : y = x + 1) : ¬ y ≤ x := by
  grind
theorem t_grind2 (x : Int32) (h1 : ib x 900) (h2 : x + 20 ≤ 900) : ib (x + 7) 900 := by
  grind
theorem t_omega1 (x : Int32) (h1 : 0 ≤ x.toInt) (h2 : x.toInt < 900) : (x + 1).toInt = x.toInt + 1 := by
  rw [Int32.toInt_add, Int.bmod_eq_of_le] <;> simp <;> omega
