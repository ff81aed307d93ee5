/-! a function answers, and its answer is so -/
def ok {α : Type} (t : Option α) (P : α → Prop) : Prop := ∃ r, t = some r ∧ P r
theorem ok_some {α : Type} {r : α} {P : α → Prop} (h : P r) : ok (some r) P := ⟨r, rfl, h⟩
theorem ok_ite {α : Type} {c : Prop} [Decidable c] {x y : Option α} {P : α → Prop} (h1 : c → ok x P) (h2 : ¬ c → ok y P) : ok (if c then x else y) P := by
  by_cases h : c
  · rw [if_pos h]; exact h1 h
  · rw [if_neg h]; exact h2 h
theorem ok_chk {α : Type} {c : Prop} [Decidable c] {x : Option α} {P : α → Prop} (h : c) (h1 : ok x P) : ok (if c then x else none) P := by rw [if_pos h]; exact h1
theorem ok_chn {α : Type} {c : Prop} [Decidable c] {x : Option α} {P : α → Prop} (h : ¬ c) (h1 : ok x P) : ok (if c then none else x) P := by rw [if_neg h]; exact h1
theorem ok_bind {α β : Type} {x : Option α} {k : α → Option β} {Q : α → Prop} {P : β → Prop} (h1 : ok x Q) (h2 : ∀ p, Q p → ok (k p) P) : ok (x.bind k) P := by
  obtain ⟨p, rfl, hp⟩ := h1
  exact h2 p hp
theorem ok_imp {α : Type} {t : Option α} {P Q : α → Prop} (h : ok t P) (hi : ∀ r, P r → Q r) : ok t Q := by
  obtain ⟨r, h1, h2⟩ := h
  exact ⟨r, h1, hi r h2⟩
theorem ib_of {x m : Int32} {n : Nat} (hm : m.toInt = (n : Int)) (h1 : 0 ≤ x) (h2 : x < m) : ib x n := by
  have a := Int32.le_iff_toInt_le.mp h1
  have b := Int32.lt_iff_toInt_lt.mp h2
  rw [z_t0] at a
  exact ⟨a, by omega⟩
theorem t_grind1 (x y : Int32) (h1 : 0 ≤ x) (h2 : x < 900) (h : y = x + 1) : ¬ y ≤ x := by
  grind
theorem t_grind2 (x k : Int32) (h1 : 0 ≤ x) (h2 : x + 20 ≤ 900) (h3 : x ≤ 900) (h4 : 0 ≤ k) (h5 : k < 20) : 0 ≤ x + k ∧ x + k < 900 := by
  grind
theorem toInt_add {x y : Int32} (h1 : -2147483648 ≤ x.toInt + y.toInt) (h2 : x.toInt + y.toInt < 2147483648) : (x + y).toInt = x.toInt + y.toInt := by
  rw [Int32.toInt_add, Int.bmod_eq_of_le (by omega) (by omega)]
theorem toInt_sub {x y : Int32} (h1 : -2147483648 ≤ x.toInt - y.toInt) (h2 : x.toInt - y.toInt < 2147483648) : (x - y).toInt = x.toInt - y.toInt := by
  rw [Int32.toInt_sub, Int.bmod_eq_of_le (by omega) (by omega)]
theorem ri_setI (s : RS) (k j : Nat) (v : Int32) : (s.setI k v).i j = if j = k then v else s.i j := rfl
theorem ra_setI (s : RS) (k : Nat) (v : Int32) : (s.setI k v).a = s.a := rfl
theorem rb_setI (s : RS) (k : Nat) (v : Int32) : (s.setI k v).b = s.b := rfl
theorem rl_setI (s : RS) (k : Nat) (v : Int32) : (s.setI k v).l = s.l := rfl
theorem ri_setL (s : RS) (v : Int64) : (s.setL v).i = s.i := rfl
theorem ra_setL (s : RS) (v : Int64) : (s.setL v).a = s.a := rfl
theorem rb_setL (s : RS) (v : Int64) : (s.setL v).b = s.b := rfl
theorem rl_setL (s : RS) (v : Int64) : (s.setL v).l = v := rfl
theorem ri_setA (s : RS) (k j : Nat) (v : Int32) : (s.setA k j v).i = s.i := rfl
theorem ra_setA (s : RS) (k j m : Nat) (v : Int32) : (s.setA k j v).a m = if m = k then upd (s.a k) j v else s.a m := rfl
theorem rb_setA (s : RS) (k j : Nat) (v : Int32) : (s.setA k j v).b = s.b := rfl
theorem rl_setA (s : RS) (k j : Nat) (v : Int32) : (s.setA k j v).l = s.l := rfl
theorem ri_setB (s : RS) (k j : Nat) (v : Int64) : (s.setB k j v).i = s.i := rfl
theorem ra_setB (s : RS) (k j : Nat) (v : Int64) : (s.setB k j v).a = s.a := rfl
theorem rl_setB (s : RS) (k j : Nat) (v : Int64) : (s.setB k j v).l = s.l := rfl
