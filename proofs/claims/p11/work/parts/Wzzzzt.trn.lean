/-! both readers: a turn of the class, by its row and its token -/
theorem isB1.one {v : Int32} (h : isB1 v) : isOne v := by
  rcases h with h | h | h | h | h | h | h <;> rw [h] <;> unfold isOne <;> decide
theorem isOne.b1 {v : Int32} (h : isOne v) : isB1 v := by
  rcases h with h | h | h | h | h | h | h <;> rw [h] <;> unfold isB1 <;> decide
/-- what a turn does -/
def KTN (N : Nat) (E1 : CS → Option (Unit × CS)) (E2 : CS → Option (Int32 × CS)) (S : CS) (a : Nat) (P : Unit × CS) : Prop :=
  (isOne (S.o a 0) ∧ f_X7_bodyTurn N E1 E2 S a = some P) ∨
  ((S.o a 0 = 305 ∧ S.i 43 = 215) ∧ f_X7_beginCatch N S a = some P) ∨
  ((S.o a 0 = 305 ∧ ¬ S.i 43 = 215) ∧ f_X7_beginFinally N S a = some P) ∨
  ((¬ isOne (S.o a 0) ∧ ¬ S.o a 0 = 305) ∧ (S.i 43 = 125 ∨ S.i 43 = 0) ∧ f_X7_endList N S a = some P) ∨
  ((¬ isOne (S.o a 0) ∧ S.o a 0 = 218) ∧ (¬ S.i 43 = 125 ∧ ¬ S.i 43 = 0) ∧ f_X7_groupTurn N E1 E2 S a = some P) ∨
  ((¬ isOne (S.o a 0) ∧ ¬ S.o a 0 = 305 ∧ ¬ S.o a 0 = 218) ∧ (¬ S.i 43 = 125 ∧ ¬ S.i 43 = 0) ∧ f_X7_statement N E1 E2 S 0 = some P)
theorem tn_kTB {N : Nat} {E1 : CS → Option (Unit × CS)} {E2 : CS → Option (Int32 × CS)} {K : CS → Option (Unit × CS)} {S : CS} {a : Nat} {R : Unit × CS} (h : kTB N E1 E2 K S a = some R) : ∃ P : Unit × CS, KTN N E1 E2 S a P ∧ K P.2 = some R := by
  unfold kTB at h
  obtain ⟨hk, h⟩ := hf_ite h
  obtain ⟨p12, e12, h⟩ := hf_bind h
  obtain ⟨w, ew, w1, w2⟩ := q_hasOneBody (N := N) hk
  have ep : w = p12 := Option.some.inj (ew.symm.trans e12)
  rw [ep] at w1 w2
  rw [w1] at h
  rcases w2 with ⟨z, nb⟩ | ⟨z, ib⟩
  · have no : ¬ isOne (S.o a 0) := fun q => nb q.b1
    rw [if_pos z] at h
    obtain ⟨-, h⟩ := hf_ite h
    by_cases c5 : S.o a 0 = 305
    · rw [if_pos c5] at h
      by_cases t : S.i 43 = 215
      · rw [e_fnd1 t, ob_some, if_neg n10] at h
        obtain ⟨P, hP, h⟩ := hf_bind h
        exact ⟨P, Or.inr (Or.inl ⟨⟨c5, t⟩, hP⟩), h⟩
      · rw [e_fnd0 t, ob_some, if_pos rfl] at h
        obtain ⟨-, h⟩ := hf_ite h
        rw [if_pos c5] at h
        obtain ⟨P, hP, h⟩ := hf_bind h
        exact ⟨P, Or.inr (Or.inr (Or.inl ⟨⟨c5, t⟩, hP⟩)), h⟩
    · rw [if_neg c5] at h
      by_cases t1 : S.i 43 = 125
      · rw [e_fnd1 t1, ob_some, if_neg n10] at h
        obtain ⟨P, hP, h⟩ := hf_bind h
        exact ⟨P, Or.inr (Or.inr (Or.inr (Or.inl ⟨⟨no, c5⟩, Or.inl t1, hP⟩))), h⟩
      · rw [e_fnd0 t1, ob_some, if_pos rfl] at h
        by_cases t0 : S.i 43 = 0
        · rw [e_fnd1 t0, ob_some, if_neg n10] at h
          obtain ⟨P, hP, h⟩ := hf_bind h
          exact ⟨P, Or.inr (Or.inr (Or.inr (Or.inl ⟨⟨no, c5⟩, Or.inr t0, hP⟩))), h⟩
        · rw [e_fnd0 t0, ob_some, if_pos rfl] at h
          obtain ⟨-, h⟩ := hf_ite h
          by_cases c8 : S.o a 0 = 218
          · rw [if_pos c8] at h
            obtain ⟨P, hP, h⟩ := hf_bind h
            exact ⟨P, Or.inr (Or.inr (Or.inr (Or.inr (Or.inl ⟨⟨no, c8⟩, ⟨t1, t0⟩, hP⟩)))), h⟩
          · rw [if_neg c8] at h
            obtain ⟨P, hP, h⟩ := hf_bind h
            exact ⟨P, Or.inr (Or.inr (Or.inr (Or.inr (Or.inr ⟨⟨no, c5, c8⟩, ⟨t1, t0⟩, hP⟩)))), h⟩
  · rw [z, if_neg (by decide)] at h
    obtain ⟨P, hP, h⟩ := hf_bind h
    exact ⟨P, Or.inl ⟨ib.one, hP⟩, h⟩
/-- one turn more -/
theorem tn_step {N n m a : Nat} {E1 : CS → Option (Unit × CS)} {E2 : CS → Option (Int32 × CS)} {S : CS} {x1 x2 : Int32} {R : Unit × CS} (h : f_X7_turns_2 N E1 E2 (n + 1) S x1 x2 = some R) (nf : S.i 32 = 0) (lt : x1.toInt < (S.i 53).toInt) (hm : (S.i 53).toInt = (m : Int) + 1) (m4 : m < 400) (ea : S.r 51 m = some a) : ∃ P : Unit × CS, KTN N E1 E2 S a P ∧ f_X7_turns_2 N E1 E2 n P.2 x1 (x2 + 1) = some R := by
  have h' : b_X7_turns_2 N E1 E2 (f_X7_turns_2 N E1 E2 n) S x1 x2 = some R := h
  rw [kTB.eq] at h'
  have nle : ¬ S.i 53 ≤ x1 := fun q => by
    have := le_int q
    omega
  by_cases t : 10000 ≤ x2
  · rw [if_pos t, if_pos ⟨nf, nle⟩] at h'
    cases h'
  rw [if_neg t, if_pos nf, if_neg nle] at h'
  obtain ⟨p4, e4, h'⟩ := hf_bind h'
  have i53 : (S.i 53 - 1).toInt = (m : Int) := m1_int hm
  have e400 : (400 : Int32).toInt = 400 := by decide
  unfold f_X6_row at e4
  rw [if_neg (show ¬ S.i 53 - 1 < 0 from fun q => by
    have := lt_int q
    rw [i53, z_t0] at this
    omega), if_neg (show ¬ S.i 53 ≤ S.i 53 - 1 from fun q => by
    have := le_int q
    rw [i53] at this
    omega), if_neg (show ¬ (400 : Int32) ≤ S.i 53 - 1 from fun q => by
    have := le_int q
    rw [i53, e400] at this
    omega)] at e4
  obtain ⟨-, e4⟩ := hf_ite e4
  have en : (S.i 53 - 1).toNatClampNeg = m := by
    show (S.i 53 - 1).toInt.toNat = m
    rw [i53]
    exact Int.toNat_natCast _
  rw [en, ea] at e4
  have e4' : some (some a, S) = some p4 := e4
  rw [← Option.some.inj e4'] at h'
  have h2 : kTB N E1 E2 (fun s => f_X7_turns_2 N E1 E2 n s x1 (x2 + 1)) S a = some R := h'
  exact tn_kTB h2
/-- no turn more -/
theorem tn_stop {N n : Nat} {E1 : CS → Option (Unit × CS)} {E2 : CS → Option (Int32 × CS)} {S : CS} {x1 x2 : Int32} {R : Unit × CS} (h : f_X7_turns_2 N E1 E2 n S x1 x2 = some R) (z : ¬ S.i 32 = 0 ∨ (S.i 53).toInt ≤ x1.toInt) : R.2 = S := by
  cases n with
  | zero => cases h
  | succ n =>
    have h' : b_X7_turns_2 N E1 E2 (f_X7_turns_2 N E1 E2 n) S x1 x2 = some R := h
    rw [kTB.eq] at h'
    by_cases t : 10000 ≤ x2
    · rw [if_pos t, if_neg (fun q => ?_)] at h'
      · rw [← Option.some.inj h']
      · rcases z with z | z
        · exact z q.1
        · exact q.2 (Int32.le_iff_toInt_le.mpr z)
    rw [if_neg t] at h'
    by_cases nf : S.i 32 = 0
    · rw [if_pos nf, if_pos (Int32.le_iff_toInt_le.mpr (z.resolve_left (fun q => q nf)))] at h'
      rw [← Option.some.inj h']
    · rw [if_neg nf] at h'
      rw [← Option.some.inj h']
