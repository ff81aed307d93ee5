/-! the class's machine: one that no frame holds -/
theorem hd_no {N b : Nat} {s : CS} : ∀ (n : Nat) (x2 : Int32) (p : Int32 × CS), f_X3_isHeld_2 N n s b x2 = some p → p.1 = 0 → 0 ≤ x2.toInt → p.2 = s ∧ ∀ i a : Nat, x2.toInt ≤ (i : Int) → (i : Int) < dpI s → i < 24 → s.r 61 i = some a → ¬ s.ot a = some b
  | 0, _, _, e, _, _ => by cases e
  | n + 1, x2, p, e, h0, hx => by
    have e' : b_X3_isHeld_2 N (f_X3_isHeld_2 N n) s b x2 = some p := e
    unfold b_X3_isHeld_2 f_X3_isHeld_46 at e'
    have e24 : (24 : Int32).toInt = 24 := by decide
    by_cases c1 : s.i 67 ≤ x2
    · rw [if_pos c1] at e'
      have l := le_int c1
      refine ⟨by rw [← Option.some.inj e'], fun i a h1 h2 _ _ => ?_⟩
      unfold dpI at h2
      omega
    rw [if_neg c1] at e'
    by_cases c2 : (24 : Int32) ≤ x2
    · rw [if_pos c2] at e'
      have l := le_int c2
      refine ⟨by rw [← Option.some.inj e'], fun i a h1 _ h3 _ => ?_⟩
      omega
    rw [if_neg c2] at e'
    obtain ⟨-, e'⟩ := hf_ite e'
    have l2 := lt_int (Int32.not_le.mp c2)
    have ad : (x2 + 1).toInt = x2.toInt + 1 := ad1 hx (by omega)
    obtain ⟨k, hk⟩ : ∃ k : Nat, x2.toInt = (k : Int) := ⟨x2.toInt.toNat, by omega⟩
    rw [cl_nat hk] at e'
    have go : f_X3_isHeld_2 N n s b (x2 + 1) = some p → (∀ a : Nat, s.r 61 k = some a → ¬ s.ot a = some b) → p.2 = s ∧ ∀ i a : Nat, x2.toInt ≤ (i : Int) → (i : Int) < dpI s → i < 24 → s.r 61 i = some a → ¬ s.ot a = some b := fun q hh => by
      obtain ⟨r1, r2⟩ := hd_no n (x2 + 1) p q h0 (by omega)
      refine ⟨r1, fun i a h1 h2 h3 h4 => ?_⟩
      by_cases z : i = k
      · rw [z] at h4
        exact hh a h4
      · exact r2 i a (by omega) h2 h3 h4
    cases hr : s.r 61 k with
    | none =>
      rw [hr] at e'
      exact go e' (fun a h => by rw [hr] at h; cases h)
    | some a =>
      rw [hr] at e'
      have e2 := (hf_ite e').2
      cases ho : s.ot a with
      | none =>
        rw [ho] at e2
        have e2' : (if (none : Option Nat) = some b then some ((1 : Int32), s) else f_X3_isHeld_2 N n s b (x2 + 1)) = some p := e2
        rw [if_neg (fun z => by cases z)] at e2'
        exact go e2' (fun a' h => by
          rw [hr] at h
          cases h
          rw [ho]
          exact fun z => by cases z)
      | some c =>
        rw [ho] at e2
        have e2' : (if (some c : Option Nat) = some b then some ((1 : Int32), s) else f_X3_isHeld_2 N n s b (x2 + 1)) = some p := e2
        by_cases y : (some c : Option Nat) = some b
        · rw [if_pos y] at e2'
          rw [← Option.some.inj e2'] at h0
          exact absurd h0 n10
        · rw [if_neg y] at e2'
          exact go e2' (fun a' h => by
            rw [hr] at h
            cases h
            rw [ho]
            exact y)
theorem hd_no0 {N b : Nat} {s : CS} {p : Int32 × CS} (e : f_X3_isHeld N s b = some p) (h : p.1 = 0) : p.2 = s ∧ ¬ HELD s b := by
  have e' : f_X3_isHeld_2 N N s b 0 = some p := e
  obtain ⟨r1, r2⟩ := hd_no N 0 p e' h (by rw [z_t0]; exact Int.le_refl _)
  refine ⟨r1, fun ⟨i, a, h1, h2, h3, h4⟩ => ?_⟩
  exact r2 i a (by rw [z_t0]; omega) h1 h2 h3 h4
