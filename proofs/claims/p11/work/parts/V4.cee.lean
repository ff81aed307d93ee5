/-! the class's reading: the recursion -/
theorem EC.f1 {N : Nat} {H : HB} {E1 : CS → Option (Unit × CS)} {E2 : CS → Option (Int32 × CS)} : EC H 2 (f_X1_factor N E1 E2) := by
  intro x y c X P lim s hx hy h hk
  have nf : ¬ s.i 32 = 0 := fun q => by
    have := hk q
    have := (h.2 q).2.2.2.2.1.2
    omega
  have e := h.1.2.2.2.2.1 nf
  unfold f_X1_factor
  rw [e, if_neg (by decide), if_neg (by decide), if_neg (by decide), if_neg (by decide), if_neg (by decide)]
  exact ok_bind (q_misp h.1) (fun p hp => ok_some ⟨JJ.flt h.1 hp, fun z => absurd z hp.2.2.2.1⟩)
theorem ABC.v2 {H : HB} {B : CS → Int32 → Option (Unit × CS)} : ABC H 2 B := by
  intro x y c X P lim s t hx hy h nf h43 hk hg hw ht
  have := (h.2 nf).2.2.2.2.1.2
  omega
theorem EC2.f2 {N : Nat} {H : HB} (hN : 1000 ≤ N) {E1 : CS → Option (Unit × CS)} {E2 : CS → Option (Int32 × CS)} (hE : EC H 2 E1) : EC2 H 3 (f_X1_one N E1 E2) := by
  intro x y c X P lim s hx hy h hk
  have nf : ¬ s.i 32 = 0 := fun q => by
    have := hk q
    have := (h.2 q).2.2.2.2.1.2
    omega
  have e := h.1.2.2.2.2.1 nf
  unfold f_X1_one
  rw [e, if_neg (by decide), if_neg (by decide), if_neg (by decide), if_neg (by decide)]
  exact ok_bind (q_comparison (E2 := E2) hN hE x y c X P lim s hx (by omega) h (fun q => absurd q nf)) (fun p hp => ok_some ⟨hp, Or.inl rfl⟩)
theorem q_EE {N : Nat} (hN : 10000000000 ≤ N) (h1 : Nat) : ∀ (m : Nat) (b : (Nat → Option Nat) × (Nat → Prop)), EC (h1, b) ((m : Int) + 3) (fEE N (m + 2)).1 ∧ EC2 (h1, b) ((m : Int) + 3) (fEE N (m + 2)).2
  | 0, b => by
    have e1 : EC (h1, b) 2 (fEE N 1).1 := EC.f1
    refine ⟨?_, EC2.f2 (by omega) e1⟩
    exact q_factor (k := 2) (by omega) e1 (q_choice (k := 2) hN e1 ABC.v2) (by omega)
  | m + 1, b => by
    have ih := q_EE hN h1 m
    have ab := q_armBlock (H := (h1, b)) hN (fun b' => (ih b').1) (fun b' => (ih b').2)
    rw [show ((m + 1 : Nat) : Int) + 3 = ((m : Int) + 3) + 1 by omega]
    exact ⟨q_factor (by omega) (ih b).1 (q_choice hN (ih b).1 ab) (by omega), q_one (by omega) (ih b).1 (ih b).2 (by omega)⟩
/-- at the top -/
theorem q_top23 {N : Nat} (hN : 10000000000 ≤ N) (h1 : Nat) (b : (Nat → Option Nat) × (Nat → Prop)) : EC (h1, b) 24 (fEE N 23).1 ∧ EC2 (h1, b) 24 (fEE N 23).2 := q_EE hN h1 21 b
