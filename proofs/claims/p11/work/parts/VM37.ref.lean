/-! the reference: the rest of its instructions -/
theorem xo_23 {N : Nat} {r V : RS} {x : Int32} (h : r.a 21 x.toNatClampNeg = 23) (g0 : f_X12_act N r x = some V) : f_X12_others N r x (r.a 22 x.toNatClampNeg) = some V := by
  have g := xa_ends (by rw [h]; decide) g0
  unfold f_X12_ends at g
  obtain ⟨-, g1⟩ := hf_ite g
  rw [if_neg (by rw [h]; decide), if_neg (by rw [h]; decide), if_neg (by rw [h]; decide), if_neg (by rw [h]; decide), if_neg (by rw [h]; decide), if_neg (by rw [h]; decide), if_pos h] at g1
  obtain ⟨A, a1, a2⟩ := hf_bind g1
  rw [a1]
  exact a2
theorem xo_24 {N : Nat} {r V : RS} {x : Int32} (h : r.a 21 x.toNatClampNeg = 24) (g0 : f_X12_act N r x = some V) : f_X12_others N r x (r.a 22 x.toNatClampNeg) = some V := by
  have g := xa_ends (by rw [h]; decide) g0
  unfold f_X12_ends at g
  obtain ⟨-, g1⟩ := hf_ite g
  rw [if_neg (by rw [h]; decide), if_neg (by rw [h]; decide), if_neg (by rw [h]; decide), if_neg (by rw [h]; decide), if_neg (by rw [h]; decide), if_neg (by rw [h]; decide), if_neg (by rw [h]; decide), if_pos h] at g1
  obtain ⟨A, a1, a2⟩ := hf_bind g1
  rw [a1]
  exact a2
theorem xo_25 {N : Nat} {r V : RS} {x : Int32} (h : r.a 21 x.toNatClampNeg = 25) (g0 : f_X12_act N r x = some V) : f_X12_others N r x (r.a 22 x.toNatClampNeg) = some V := by
  have g := xa_ends (by rw [h]; decide) g0
  unfold f_X12_ends at g
  obtain ⟨-, g1⟩ := hf_ite g
  rw [if_neg (by rw [h]; decide), if_neg (by rw [h]; decide), if_neg (by rw [h]; decide), if_neg (by rw [h]; decide), if_neg (by rw [h]; decide), if_neg (by rw [h]; decide), if_neg (by rw [h]; decide), if_neg (by rw [h]; decide), if_pos h] at g1
  obtain ⟨A, a1, a2⟩ := hf_bind g1
  rw [a1]
  exact a2
theorem xo_31 {N : Nat} {r V : RS} {x : Int32} (h : r.a 21 x.toNatClampNeg = 31) (g0 : f_X12_act N r x = some V) : f_X12_others N r x (r.a 22 x.toNatClampNeg) = some V := by
  have g := xa_ends (by rw [h]; decide) g0
  unfold f_X12_ends at g
  obtain ⟨-, g1⟩ := hf_ite g
  rw [if_neg (by rw [h]; decide), if_neg (by rw [h]; decide), if_neg (by rw [h]; decide), if_neg (by rw [h]; decide), if_neg (by rw [h]; decide), if_neg (by rw [h]; decide), if_neg (by rw [h]; decide), if_neg (by rw [h]; decide), if_neg (by rw [h]; decide), if_neg (by rw [h]; decide), if_neg (by rw [h]; decide), if_neg (by rw [h]; decide), if_neg (by rw [h]; decide), if_neg (by rw [h]; decide), if_pos h] at g1
  obtain ⟨A, a1, a2⟩ := hf_bind g1
  rw [a1]
  exact a2
theorem xo_32 {N : Nat} {r V : RS} {x : Int32} (h : r.a 21 x.toNatClampNeg = 32) (g0 : f_X12_act N r x = some V) : f_X12_others N r x (r.a 22 x.toNatClampNeg) = some V := by
  have g := xa_ends (by rw [h]; decide) g0
  unfold f_X12_ends at g
  obtain ⟨-, g1⟩ := hf_ite g
  rw [if_neg (by rw [h]; decide), if_neg (by rw [h]; decide), if_neg (by rw [h]; decide), if_neg (by rw [h]; decide), if_neg (by rw [h]; decide), if_neg (by rw [h]; decide), if_neg (by rw [h]; decide), if_neg (by rw [h]; decide), if_neg (by rw [h]; decide), if_neg (by rw [h]; decide), if_neg (by rw [h]; decide), if_neg (by rw [h]; decide), if_neg (by rw [h]; decide), if_neg (by rw [h]; decide), if_neg (by rw [h]; decide), if_pos h] at g1
  obtain ⟨A, a1, a2⟩ := hf_bind g1
  rw [a1]
  exact a2
theorem xo_33 {N : Nat} {r V : RS} {x : Int32} (h : r.a 21 x.toNatClampNeg = 33) (g0 : f_X12_act N r x = some V) : f_X12_others N r x (r.a 22 x.toNatClampNeg) = some V := by
  have g := xa_ends (by rw [h]; decide) g0
  unfold f_X12_ends at g
  obtain ⟨-, g1⟩ := hf_ite g
  rw [if_neg (by rw [h]; decide), if_neg (by rw [h]; decide), if_neg (by rw [h]; decide), if_neg (by rw [h]; decide), if_neg (by rw [h]; decide), if_neg (by rw [h]; decide), if_neg (by rw [h]; decide), if_neg (by rw [h]; decide), if_neg (by rw [h]; decide), if_neg (by rw [h]; decide), if_neg (by rw [h]; decide), if_neg (by rw [h]; decide), if_neg (by rw [h]; decide), if_neg (by rw [h]; decide), if_neg (by rw [h]; decide), if_neg (by rw [h]; decide), if_pos h] at g1
  obtain ⟨A, a1, a2⟩ := hf_bind g1
  rw [a1]
  exact a2
theorem xo_34 {N : Nat} {r V : RS} {x : Int32} (h : r.a 21 x.toNatClampNeg = 34) (g0 : f_X12_act N r x = some V) : f_X12_others N r x (r.a 22 x.toNatClampNeg) = some V := by
  have g := xa_ends (by rw [h]; decide) g0
  unfold f_X12_ends at g
  obtain ⟨-, g1⟩ := hf_ite g
  rw [if_neg (by rw [h]; decide), if_neg (by rw [h]; decide), if_neg (by rw [h]; decide), if_neg (by rw [h]; decide), if_neg (by rw [h]; decide), if_neg (by rw [h]; decide), if_neg (by rw [h]; decide), if_neg (by rw [h]; decide), if_neg (by rw [h]; decide), if_neg (by rw [h]; decide), if_neg (by rw [h]; decide), if_neg (by rw [h]; decide), if_neg (by rw [h]; decide), if_neg (by rw [h]; decide), if_neg (by rw [h]; decide), if_neg (by rw [h]; decide), if_neg (by rw [h]; decide), if_pos h] at g1
  obtain ⟨A, a1, a2⟩ := hf_bind g1
  rw [a1]
  exact a2
theorem xo_35 {N : Nat} {r V : RS} {x : Int32} (h : r.a 21 x.toNatClampNeg = 35) (g0 : f_X12_act N r x = some V) : f_X12_others N r x (r.a 22 x.toNatClampNeg) = some V := by
  have g := xa_ends (by rw [h]; decide) g0
  unfold f_X12_ends at g
  obtain ⟨-, g1⟩ := hf_ite g
  rw [if_neg (by rw [h]; decide), if_neg (by rw [h]; decide), if_neg (by rw [h]; decide), if_neg (by rw [h]; decide), if_neg (by rw [h]; decide), if_neg (by rw [h]; decide), if_neg (by rw [h]; decide), if_neg (by rw [h]; decide), if_neg (by rw [h]; decide), if_neg (by rw [h]; decide), if_neg (by rw [h]; decide), if_neg (by rw [h]; decide), if_neg (by rw [h]; decide), if_neg (by rw [h]; decide), if_neg (by rw [h]; decide), if_neg (by rw [h]; decide), if_neg (by rw [h]; decide), if_neg (by rw [h]; decide), if_pos h] at g1
  obtain ⟨A, a1, a2⟩ := hf_bind g1
  rw [a1]
  exact a2
theorem xp_23 {N : Nat} {r V : RS} {x : Int32} (h : r.a 21 x.toNatClampNeg = 23) (g0 : f_X12_act N r x = some V) : f_X12_others_85 N N r (r.a 22 x.toNatClampNeg) (r.i 97) 0 = some V := by
  have g := xo_23 h g0
  unfold f_X12_others at g
  obtain ⟨-, g1⟩ := hf_ite g
  rw [if_pos h] at g1
  exact g1
theorem xp_24 {N : Nat} {r V : RS} {x : Int32} (h : r.a 21 x.toNatClampNeg = 24) (g0 : f_X12_act N r x = some V) : (r.a 102 (r.i 99 - 1).toNatClampNeg = r.a 103 (r.i 99 - 1).toNatClampNeg ∧ V = RS.setI r 92 (r.a 22 x.toNatClampNeg)) ∨ (¬ r.a 102 (r.i 99 - 1).toNatClampNeg = r.a 103 (r.i 99 - 1).toNatClampNeg ∧ ∃ P : RS, f_X12_step N r = some P ∧ V = RS.setA (RS.setA P 84 (P.a 23 x.toNatClampNeg).toNatClampNeg (P.a 98 (P.a 102 (r.i 99 - 1).toNatClampNeg).toNatClampNeg)) 102 (r.i 99 - 1).toNatClampNeg (P.a 102 (r.i 99 - 1).toNatClampNeg + 1)) := by
  have g := xo_24 h g0
  unfold f_X12_others at g
  obtain ⟨-, g1⟩ := hf_ite g
  rw [if_neg (by rw [h]; decide), if_pos h] at g1
  obtain ⟨-, g2⟩ := hf_ite g1
  by_cases c : r.a 102 (r.i 99 - 1).toNatClampNeg = r.a 103 (r.i 99 - 1).toNatClampNeg
  · rw [if_pos c] at g2
    exact Or.inl ⟨c, (Option.some.inj g2).symm⟩
  · rw [if_neg c] at g2
    obtain ⟨P, p1, p2⟩ := hf_bind g2
    exact Or.inr ⟨c, P, p1, (Option.some.inj (hf_ite (hf_ite p2).2).2).symm⟩
theorem xp_25 {N : Nat} {r V : RS} {x : Int32} (h : r.a 21 x.toNatClampNeg = 25) (g0 : f_X12_act N r x = some V) : V = RS.setI (RS.setI r 97 (r.a 101 (r.i 99 - 1).toNatClampNeg)) 99 (r.i 99 - 1) := by
  have g := xo_25 h g0
  unfold f_X12_others at g
  obtain ⟨-, g1⟩ := hf_ite g
  rw [if_neg (by rw [h]; decide), if_neg (by rw [h]; decide), if_pos h] at g1
  exact (Option.some.inj (hf_ite g1).2).symm
theorem xp_31 {N : Nat} {r V : RS} {x : Int32} (h : r.a 21 x.toNatClampNeg = 31) (g0 : f_X12_act N r x = some V) : ∃ P : Int32 × RS, f_X12_record N r 4 (r.a 22 x.toNatClampNeg) 0 (r.i 95) = some P ∧ V = P.2 := by
  have g := xo_31 h g0
  unfold f_X12_others at g
  obtain ⟨-, g1⟩ := hf_ite g
  rw [if_neg (by rw [h]; decide), if_neg (by rw [h]; decide), if_neg (by rw [h]; decide), if_neg (by rw [h]; decide), if_neg (by rw [h]; decide), if_neg (by rw [h]; decide), if_neg (by rw [h]; decide), if_neg (by rw [h]; decide), if_pos h] at g1
  obtain ⟨P, p1, p2⟩ := hf_bind g1
  exact ⟨P, p1, (Option.some.inj p2).symm⟩
theorem xp_32 {N : Nat} {r V : RS} {x : Int32} (h : r.a 21 x.toNatClampNeg = 32) (g0 : f_X12_act N r x = some V) : ib (r.a 22 x.toNatClampNeg) 8 ∧ ((r.a 6 (r.a 22 x.toNatClampNeg).toNatClampNeg ≤ 0 ∧ r.a 5 (r.a 22 x.toNatClampNeg).toNatClampNeg = 0 ∧ ∃ P : RS, f_X12_row N r 1 (r.a 22 x.toNatClampNeg) = some P ∧ V = RS.setI (RS.setA P 96 (P.i 95).toNatClampNeg (r.a 22 x.toNatClampNeg)) 95 (P.i 95 + 1)) ∨ (r.a 6 (r.a 22 x.toNatClampNeg).toNatClampNeg ≤ 0 ∧ ¬ r.a 5 (r.a 22 x.toNatClampNeg).toNatClampNeg = 0 ∧ V = r) ∨ (¬ r.a 6 (r.a 22 x.toNatClampNeg).toNatClampNeg ≤ 0 ∧ ∃ P : RS, f_X12_raise N r (r.a 6 (r.a 22 x.toNatClampNeg).toNatClampNeg - 1) (r.a 22 x.toNatClampNeg) = some P ∧ f_X12_leave N P = some V)) := by
  have g := xo_32 h g0
  unfold f_X12_others at g
  obtain ⟨-, g1⟩ := hf_ite g
  rw [if_neg (by rw [h]; decide), if_neg (by rw [h]; decide), if_neg (by rw [h]; decide), if_neg (by rw [h]; decide), if_neg (by rw [h]; decide), if_neg (by rw [h]; decide), if_neg (by rw [h]; decide), if_neg (by rw [h]; decide), if_neg (by rw [h]; decide), if_pos h] at g1
  obtain ⟨i8, g2⟩ := hf_ite g1
  refine ⟨i8, ?_⟩
  by_cases c : r.a 6 (r.a 22 x.toNatClampNeg).toNatClampNeg ≤ 0
  · rw [if_pos c] at g2
    by_cases c2 : r.a 5 (r.a 22 x.toNatClampNeg).toNatClampNeg = 0
    · rw [if_pos c2] at g2
      obtain ⟨P, p1, p2⟩ := hf_bind g2
      exact Or.inl ⟨c, c2, P, p1, (Option.some.inj (hf_ite p2).2).symm⟩
    · rw [if_neg c2] at g2
      exact Or.inr (Or.inl ⟨c, c2, (Option.some.inj g2).symm⟩)
  · rw [if_neg c] at g2
    obtain ⟨P, p1, p2⟩ := hf_bind g2
    obtain ⟨Q, q1, q2⟩ := hf_bind p2
    refine Or.inr (Or.inr ⟨c, P, p1, ?_⟩)
    rw [q1]
    exact q2
theorem xp_33 {N : Nat} {r V : RS} {x : Int32} (h : r.a 21 x.toNatClampNeg = 33) (g0 : f_X12_act N r x = some V) : ∃ P : RS, f_X12_closeAll N (RS.setI r 110 0) (r.i 99 - 1) = some P ∧ ((P.i 110 = 3 ∧ f_X12_leave N P = some V) ∨ (¬ P.i 110 = 3 ∧ f_X12_goOn N P (r.i 99 - 1) = some V)) := by
  have g := xo_33 h g0
  unfold f_X12_others at g
  obtain ⟨-, g1⟩ := hf_ite g
  rw [if_neg (by rw [h]; decide), if_neg (by rw [h]; decide), if_neg (by rw [h]; decide), if_neg (by rw [h]; decide), if_neg (by rw [h]; decide), if_neg (by rw [h]; decide), if_neg (by rw [h]; decide), if_neg (by rw [h]; decide), if_neg (by rw [h]; decide), if_neg (by rw [h]; decide), if_pos h] at g1
  obtain ⟨P, p1, p2⟩ := hf_bind g1
  refine ⟨P, p1, ?_⟩
  by_cases c : P.i 110 = 3
  · rw [if_pos c] at p2
    obtain ⟨Q, q1, q2⟩ := hf_bind p2
    refine Or.inl ⟨c, ?_⟩
    rw [q1]
    exact q2
  · rw [if_neg c] at p2
    obtain ⟨Q, q1, q2⟩ := hf_bind p2
    refine Or.inr ⟨c, ?_⟩
    rw [q1]
    exact q2
theorem xp_34 {N : Nat} {r V : RS} {x : Int32} (h : r.a 21 x.toNatClampNeg = 34) (g0 : f_X12_act N r x = some V) : f_X12_goOn N (RS.setI r 110 0) (r.i 99 - 1) = some V := by
  have g := xo_34 h g0
  unfold f_X12_others at g
  obtain ⟨-, g1⟩ := hf_ite g
  rw [if_neg (by rw [h]; decide), if_neg (by rw [h]; decide), if_neg (by rw [h]; decide), if_neg (by rw [h]; decide), if_neg (by rw [h]; decide), if_neg (by rw [h]; decide), if_neg (by rw [h]; decide), if_neg (by rw [h]; decide), if_neg (by rw [h]; decide), if_neg (by rw [h]; decide), if_neg (by rw [h]; decide), if_pos h] at g1
  obtain ⟨Q, q1, q2⟩ := hf_bind g1
  rw [q1]
  exact q2
/-- behind a finally -/
def rRs (r : RS) : RS := RS.setI (RS.setI (RS.setI (RS.setI (RS.setI (RS.setI r 110 (r.a 105 (r.i 99 - 1).toNatClampNeg)) 111 (r.a 106 (r.i 99 - 1).toNatClampNeg)) 112 (r.a 107 (r.i 99 - 1).toNatClampNeg)) 113 (r.a 108 (r.i 99 - 1).toNatClampNeg)) 114 (r.a 109 (r.i 99 - 1).toNatClampNeg)) 99 (r.i 99 - 1)
theorem xp_35 {N : Nat} {r V : RS} {x : Int32} (h : r.a 21 x.toNatClampNeg = 35) (g0 : f_X12_act N r x = some V) : (r.a 105 (r.i 99 - 1).toNatClampNeg = 0 ∧ V = rRs r) ∨ (¬ r.a 105 (r.i 99 - 1).toNatClampNeg = 0 ∧ f_X12_leave N (rRs r) = some V) := by
  have g := xo_35 h g0
  unfold f_X12_others at g
  obtain ⟨-, g1⟩ := hf_ite g
  rw [if_neg (by rw [h]; decide), if_neg (by rw [h]; decide), if_neg (by rw [h]; decide), if_neg (by rw [h]; decide), if_neg (by rw [h]; decide), if_neg (by rw [h]; decide), if_neg (by rw [h]; decide), if_neg (by rw [h]; decide), if_neg (by rw [h]; decide), if_neg (by rw [h]; decide), if_neg (by rw [h]; decide), if_neg (by rw [h]; decide)] at g1
  obtain ⟨-, g2⟩ := hf_ite g1
  by_cases c : r.a 105 (r.i 99 - 1).toNatClampNeg = 0
  · rw [if_pos c] at g2
    exact Or.inl ⟨c, (Option.some.inj g2).symm⟩
  · rw [if_neg c] at g2
    obtain ⟨Q, q1, q2⟩ := hf_bind g2
    refine Or.inr ⟨c, ?_⟩
    unfold rRs
    rw [q1]
    exact q2
theorem xp_26 {N : Nat} {r V : RS} {x : Int32} (h : r.a 21 x.toNatClampNeg = 26) (g0 : f_X12_act N r x = some V) : ∃ (P : RS) (Q : Int32 × RS), f_X12_row N r 3 (r.a 22 x.toNatClampNeg) = some P ∧ ib (r.a 22 x.toNatClampNeg) 8 ∧ f_X12_record N (RS.setA P 91 (r.a 22 x.toNatClampNeg).toNatClampNeg (P.a 91 (r.a 22 x.toNatClampNeg).toNatClampNeg + 1)) 1 (r.a 22 x.toNatClampNeg) 0 0 = some Q ∧ V = Q.2 := by
  have g := xa_ends (by rw [h]; decide) g0
  unfold f_X12_ends at g
  obtain ⟨-, g1⟩ := hf_ite g
  rw [if_neg (by rw [h]; decide), if_neg (by rw [h]; decide), if_neg (by rw [h]; decide), if_neg (by rw [h]; decide), if_neg (by rw [h]; decide), if_neg (by rw [h]; decide), if_neg (by rw [h]; decide), if_neg (by rw [h]; decide), if_neg (by rw [h]; decide), if_pos h] at g1
  obtain ⟨P, p1, p2⟩ := hf_bind g1
  obtain ⟨i8, p3⟩ := hf_ite p2
  obtain ⟨Q, q1, q2⟩ := hf_bind p3
  exact ⟨P, Q, p1, i8, q1, (Option.some.inj q2).symm⟩
theorem xp_27 {N : Nat} {r V : RS} {x : Int32} (h : r.a 21 x.toNatClampNeg = 27) (g0 : f_X12_act N r x = some V) : ∃ P : RS, f_X12_row N (RS.setI r 99 (r.i 99 - 1)) 4 (r.a 101 (r.i 99 - 1).toNatClampNeg) = some P ∧ ib (P.a 101 (P.i 99).toNatClampNeg) 8 ∧ V = RS.setA P 91 (P.a 101 (P.i 99).toNatClampNeg).toNatClampNeg (P.a 91 (P.a 101 (P.i 99).toNatClampNeg).toNatClampNeg - 1) := by
  have g := xa_ends (by rw [h]; decide) g0
  unfold f_X12_ends at g
  obtain ⟨-, g1⟩ := hf_ite g
  rw [if_neg (by rw [h]; decide), if_neg (by rw [h]; decide), if_neg (by rw [h]; decide), if_neg (by rw [h]; decide), if_neg (by rw [h]; decide), if_neg (by rw [h]; decide), if_neg (by rw [h]; decide), if_neg (by rw [h]; decide), if_neg (by rw [h]; decide), if_neg (by rw [h]; decide), if_pos h] at g1
  obtain ⟨-, g2⟩ := hf_ite g1
  obtain ⟨P, p1, p2⟩ := hf_bind g2
  obtain ⟨-, p3⟩ := hf_ite p2
  obtain ⟨i8, p4⟩ := hf_ite p3
  exact ⟨P, p1, i8, (Option.some.inj p4).symm⟩
theorem xp_28 {N : Nat} {r V : RS} {x : Int32} (h : r.a 21 x.toNatClampNeg = 28) (g0 : f_X12_act N r x = some V) : ∃ Q : Int32 × RS, f_X12_caseOf N (rPo r) (r.a 22 x.toNatClampNeg) (rTp r) = some Q ∧ ((0 ≤ Q.1 ∧ V = RS.setI Q.2 92 (Q.2.a 26 Q.1.toNatClampNeg)) ∨ (¬ 0 ≤ Q.1 ∧ V = RS.setI Q.2 92 (Q.2.a 23 x.toNatClampNeg))) := by
  have g := xa_ends (by rw [h]; decide) g0
  unfold f_X12_ends at g
  obtain ⟨-, g1⟩ := hf_ite g
  rw [if_neg (by rw [h]; decide), if_neg (by rw [h]; decide), if_neg (by rw [h]; decide), if_neg (by rw [h]; decide), if_neg (by rw [h]; decide), if_neg (by rw [h]; decide), if_neg (by rw [h]; decide), if_neg (by rw [h]; decide), if_neg (by rw [h]; decide), if_neg (by rw [h]; decide), if_neg (by rw [h]; decide), if_pos h] at g1
  unfold f_X12_ends_351 at g1
  obtain ⟨A, a1, a2⟩ := hf_bind g1
  rw [e_rPo a1] at a2
  obtain ⟨Q, q1, q2⟩ := hf_bind a2
  refine ⟨Q, q1, ?_⟩
  by_cases c : 0 ≤ Q.1
  · rw [if_pos c] at q2
    exact Or.inl ⟨c, (Option.some.inj (hf_ite q2).2).symm⟩
  · rw [if_neg c] at q2
    exact Or.inr ⟨c, (Option.some.inj q2).symm⟩
theorem xp_29 {N : Nat} {r V : RS} {x : Int32} (h : r.a 21 x.toNatClampNeg = 29) (g0 : f_X12_act N r x = some V) : ∃ (Q : Int32 × RS) (P : Int32 × RS), f_X12_caseOf N (rPo r) (r.a 22 x.toNatClampNeg) (rTp r) = some Q ∧ f_X12_record N Q.2 3 x 0 0 = some P ∧ ib Q.1 500 ∧ V = RS.setI P.2 92 (P.2.a 26 Q.1.toNatClampNeg) := by
  have g := xa_ends (by rw [h]; decide) g0
  unfold f_X12_ends at g
  obtain ⟨-, g1⟩ := hf_ite g
  rw [if_neg (by rw [h]; decide), if_neg (by rw [h]; decide), if_neg (by rw [h]; decide), if_neg (by rw [h]; decide), if_neg (by rw [h]; decide), if_neg (by rw [h]; decide), if_neg (by rw [h]; decide), if_neg (by rw [h]; decide), if_neg (by rw [h]; decide), if_neg (by rw [h]; decide), if_neg (by rw [h]; decide), if_neg (by rw [h]; decide), if_pos h] at g1
  obtain ⟨A, a1, a2⟩ := hf_bind g1
  rw [e_rPo a1] at a2
  obtain ⟨Q, q1, q2⟩ := hf_bind a2
  obtain ⟨P, p1, p2⟩ := hf_bind q2
  obtain ⟨i5, p3⟩ := hf_ite p2
  exact ⟨Q, P, q1, p1, i5, (Option.some.inj p3).symm⟩
theorem xp_30 {N : Nat} {r V : RS} {x : Int32} (h : r.a 21 x.toNatClampNeg = 30) (g0 : f_X12_act N r x = some V) : V = RS.setI (RS.setI r 99 (r.i 99 - 1)) 92 (r.a 23 (r.a 101 (r.i 99 - 1).toNatClampNeg).toNatClampNeg) := by
  have g := xa_ends (by rw [h]; decide) g0
  unfold f_X12_ends at g
  obtain ⟨-, g1⟩ := hf_ite g
  rw [if_neg (by rw [h]; decide), if_neg (by rw [h]; decide), if_neg (by rw [h]; decide), if_neg (by rw [h]; decide), if_neg (by rw [h]; decide), if_neg (by rw [h]; decide), if_neg (by rw [h]; decide), if_neg (by rw [h]; decide), if_neg (by rw [h]; decide), if_neg (by rw [h]; decide), if_neg (by rw [h]; decide), if_neg (by rw [h]; decide), if_neg (by rw [h]; decide), if_pos h] at g1
  exact (Option.some.inj (hf_ite (hf_ite g1).2).2).symm
/-- a record more -/
theorem rc_r {N k : Nat} {r : RS} {a b d e : Int32} {P : Int32 × RS} (h99 : (r.i 99).toInt = (k : Int)) (g : f_X12_record N r a b d e = some P) : k < 300 ∧ (∀ j : Nat, j ≠ 99 → P.2.i j = r.i j) ∧ (P.2.i 99).toInt = (k : Int) + 1 ∧ (∀ j : Nat, j ≠ 100 → j ≠ 101 → j ≠ 102 → j ≠ 103 → j ≠ 104 → P.2.a j = r.a j) ∧ (∀ j i : Nat, i ≠ k → P.2.a j i = r.a j i) ∧ (P.2.a 100 k = a ∧ P.2.a 101 k = b ∧ P.2.a 102 k = d ∧ P.2.a 103 k = e ∧ P.2.a 104 k = r.i 93) := by
  unfold f_X12_record at g
  obtain ⟨h3, g1⟩ := hf_ite g
  rw [cl_nat h99] at g1
  have k3 : k < 300 := by
    have := h3.2
    omega
  obtain ⟨Y, hY⟩ : ∃ Y, Y = RS.setA (RS.setA (RS.setA (RS.setA (RS.setA r 100 k a) 101 k b) 102 k d) 103 k e) 104 k (r.i 93) := ⟨_, rfl⟩
  have eP : P.2 = RS.setI Y 99 (r.i 99 + 1) := by
    rw [← Option.some.inj g1, hY]
  have yi : Y.i = r.i := by
    rw [hY]
    rfl
  have ya : ∀ j : Nat, j ≠ 100 → j ≠ 101 → j ≠ 102 → j ≠ 103 → j ≠ 104 → Y.a j = r.a j := fun j a1 a2 a3 a4 a5 => by
    rw [hY, setA_nk a5, setA_nk a4, setA_nk a3, setA_nk a2, setA_nk a1]
  have yn : ∀ j i : Nat, i ≠ k → Y.a j i = r.a j i := fun j i hi => by
    rw [hY, setA_ne hi, setA_ne hi, setA_ne hi, setA_ne hi, setA_ne hi]
  have y4 : Y.a 104 k = r.i 93 := by rw [hY, setA_at]
  have y3 : Y.a 103 k = e := by rw [hY, setA_nk (by decide), setA_at]
  have y2 : Y.a 102 k = d := by rw [hY, setA_nk (by decide), setA_nk (by decide), setA_at]
  have y1 : Y.a 101 k = b := by rw [hY, setA_nk (by decide), setA_nk (by decide), setA_nk (by decide), setA_at]
  have y0 : Y.a 100 k = a := by rw [hY, setA_nk (by decide), setA_nk (by decide), setA_nk (by decide), setA_nk (by decide), setA_at]
  rw [eP]
  clear eP hY
  refine ⟨k3, fun j hj => ?_, ?_, ya, yn, y0, y1, y2, y3, y4⟩
  · rw [ri_ne hj, yi]
  · rw [ri_at, ad1 (by omega) (by omega), h99]
