/-! both readers: a name gets a value, in a head -/
theorem f_fnd {N : Nat} {S S' : CS} {l : Int64} (e50 : S'.i 50 = S.i 50) (eb : S'.b 47 = S.b 47) : ∀ (n : Nat) (x : Int32) (P : Int32 × CS), f_X4_find_2 N n S' l x = some P → f_X4_find_2 N n S l x = some (P.1, S) ∧ P.2 = S'
  | 0, _, _, e => by cases e
  | n + 1, x, P, e => by
    have e' : b_X4_find_2 N (f_X4_find_2 N n) S' l x = some P := e
    show b_X4_find_2 N (f_X4_find_2 N n) S l x = some (P.1, S) ∧ P.2 = S'
    unfold b_X4_find_2 f_X4_find_38 at e' ⊢
    rw [e50, eb] at e'
    by_cases c : S.i 50 ≤ x
    · rw [if_pos c] at e' ⊢
      cases e'
      exact ⟨rfl, rfl⟩
    · rw [if_neg c] at e' ⊢
      by_cases c2 : (128 : Int32) ≤ x
      · rw [if_pos c2] at e' ⊢
        cases e'
        exact ⟨rfl, rfl⟩
      · rw [if_neg c2] at e' ⊢
        obtain ⟨hib, e'⟩ := hf_ite e'
        rw [if_pos hib]
        by_cases d : lg_cmp (S.b 47 x.toNatClampNeg) l = 0
        · rw [if_pos d] at e' ⊢
          cases e'
          exact ⟨rfl, rfl⟩
        · rw [if_neg d] at e' ⊢
          exact f_fnd e50 eb n (x + 1) P e'
/-- found before the token behind it is read, in the reference -/
theorem y_got2 {N : Nat} {d : Int32} {S S' : CS} {s : RS} {l : Int64} {w : Int32} {P : Int32 × CS} {Q : Int32 × RS} (h : ENV d S s) (hp : pj S' = pj S) (e : f_X4_find N S' l = some P) (g : f_X12_got N s l w = some Q) : P.2 = S' ∧ ((P.1 < 0 ∧ ¬ Q.2.i 15 = 0) ∨ (¬ P.1 < 0 ∧ ∃ C : Int32 × CS, f_X4_isCaught N S' P.1 = some C ∧ C.2 = S' ∧ ((C.1 = 0 ∧ Q.2 = s ∧ ∃ k : Nat, P.1.toInt = (k : Int) ∧ (k : Int) < (s.i 38).toInt ∧ (S.a 49 k).toInt < 0 ∧ Q.1 = s.a 40 k) ∨ (¬ C.1 = 0 ∧ ¬ Q.2.i 15 = 0)))) := by
  obtain ⟨-, -, -, -, -, -, -, -, -, -, -, -, -, i50, -, -, -, -, -, -, -, a49, -, -, -, -, eb, -⟩ := pj_eq hp
  have e' : f_X4_find_2 N N S' l 0 = some P := e
  obtain ⟨e2, e3⟩ := f_fnd i50 (by rw [eb]) N 0 P e'
  obtain ⟨-, z2⟩ := y_got (P := (P.1, S)) h e2 g
  refine ⟨e3, ?_⟩
  rcases z2 with z | ⟨z1, C, z2, z3, z4⟩
  · exact Or.inl z
  · have z2' : (if (gAt (S.a 49) 128 P.1) < 0 then some ((0 : Int32), S) else some (1, S)) = some C := z2
    refine Or.inr ⟨z1, (C.1, S'), ?_, rfl, z4⟩
    unfold f_X4_isCaught
    rw [a49]
    by_cases c : gAt (S.a 49) 128 P.1 < 0
    · rw [if_pos c] at z2' ⊢
      cases z2'
      rfl
    · rw [if_neg c] at z2' ⊢
      cases z2'
      rfl
/-- what the class does where a name stands in a head -/
theorem ch_cls {N : Nat} {E1 : CS → Option (Unit × CS)} {E2 : CS → Option (Int32 × CS)} {X : CS} {l : Int64} {pl mi : Int32} {P : Int32 × CS} {W : Unit × CS} (eP : f_X4_find N X l = some P) (hP : P.2 = X) (e : f_X7_change N E1 E2 X l pl mi = some W) : (¬ W.2.i 32 = 0 ∧ (P.1 < 0 ∨ (∀ C : Int32 × CS, f_X4_isCaught N X P.1 = some C → ¬ C.1 = 0) ∨ ¬ (X.i 43 = 61 ∨ (¬ mi = 0 ∧ X.i 43 = 135)))) ∨ (¬ P.1 < 0 ∧ (∀ C : Int32 × CS, f_X4_isCaught N X P.1 = some C → C.1 = 0) ∧ ((X.i 43 = 61 ∧ ∃ (v x a : Unit × CS), f_X9_advance N X = some v ∧ f_X1_expression N E1 E2 v.2 = some x ∧ f_X0_add N x.2 2 (gAt (x.2.a 48) 128 P.1) = some a ∧ W.2 = a.2) ∨ (¬ mi = 0 ∧ X.i 43 = 135 ∧ ∃ (v a : Unit × CS), f_X9_advance N X = some v ∧ f_X0_add N v.2 3 (gAt (v.2.a 48) 128 P.1) = some a ∧ W.2 = a.2))) := by
  have f63 : ∀ Y : CS, f_X7_change_63 N E1 E2 Y pl = some W → ¬ W.2.i 32 = 0 := fun Y h => by
    unfold f_X7_change_63 at h
    obtain ⟨f, ef, h⟩ := hf_bind h
    cases h
    exact y_fail (by decide) ef
  have g0 : f_X7_change_41 N E1 E2 X pl P.1 0 = some W → ¬ W.2.i 32 = 0 := fun h => by
    unfold f_X7_change_41 at h
    by_cases c : P.1 < 0
    · rw [if_pos c] at h
      exact f63 _ h
    · rw [if_neg c, if_pos rfl] at h
      unfold f_X7_change_72 at h
      rw [if_pos rfl] at h
      obtain ⟨x, ex, h⟩ := hf_bind h
      cases h
      exact y_misp ex
  have g1 : f_X7_change_41 N E1 E2 X pl P.1 1 = some W → (X.i 43 = 61 ∨ (¬ mi = 0 ∧ X.i 43 = 135)) → (¬ W.2.i 32 = 0 ∧ (P.1 < 0 ∨ (∀ C : Int32 × CS, f_X4_isCaught N X P.1 = some C → ¬ C.1 = 0) ∨ ¬ (X.i 43 = 61 ∨ (¬ mi = 0 ∧ X.i 43 = 135)))) ∨ (¬ P.1 < 0 ∧ (∀ C : Int32 × CS, f_X4_isCaught N X P.1 = some C → C.1 = 0) ∧ ((X.i 43 = 61 ∧ ∃ (v x a : Unit × CS), f_X9_advance N X = some v ∧ f_X1_expression N E1 E2 v.2 = some x ∧ f_X0_add N x.2 2 (gAt (x.2.a 48) 128 P.1) = some a ∧ W.2 = a.2) ∨ (¬ mi = 0 ∧ X.i 43 = 135 ∧ ∃ (v a : Unit × CS), f_X9_advance N X = some v ∧ f_X0_add N v.2 3 (gAt (v.2.a 48) 128 P.1) = some a ∧ W.2 = a.2))) := fun h hg => by
    unfold f_X7_change_41 at h
    by_cases c : P.1 < 0
    · rw [if_pos c] at h
      exact Or.inl ⟨f63 _ h, Or.inl c⟩
    · rw [if_neg c, if_neg n10] at h
      obtain ⟨C, eC, h⟩ := hf_bind h
      have C2 : C.2 = X := by
        unfold f_X4_isCaught at eC
        by_cases z : gAt (X.a 49) 128 P.1 < 0
        · rw [if_pos z] at eC
          cases eC
          rfl
        · rw [if_neg z] at eC
          cases eC
          rfl
      by_cases C0 : C.1 = 0
      · rw [if_pos C0, C2] at h
        refine Or.inr ⟨c, fun C' eC' => ?_, ?_⟩
        · rw [eC] at eC'
          cases eC'
          exact C0
        unfold f_X7_change_72 at h
        rw [if_neg n10] at h
        by_cases c135 : X.i 43 = 135
        · obtain ⟨r, er, h⟩ := hf_bind h
          obtain ⟨v, ev, hr⟩ := e_skip1 c135 er
          rw [hr, if_neg n10] at h
          unfold f_X4_cellOf at h
          rw [ob_some] at h
          obtain ⟨a, ea, h⟩ := hf_bind h
          cases h
          refine Or.inr ⟨?_, c135, v, a, ev, ea, rfl⟩
          rcases hg with z | z
          · rw [c135] at z
            exact absurd z (by decide)
          · exact z.1
        · have c61 : X.i 43 = 61 := hg.resolve_right (fun z => c135 z.2)
          rw [e_skip0 c135, ob_some] at h
          have h' : ((f_X9_advance N X).bind fun p22 => (f_X1_expression N E1 E2 p22.2).bind fun p26 => (f_X4_cellOf N p26.2 P.1).bind fun p30 => (f_X0_add N p30.2 2 p30.1).bind fun p34 => some ((), p34.2)) = some W := (if_pos rfl).symm.trans h
          obtain ⟨v, ev, h'⟩ := hf_bind h'
          obtain ⟨x, ex, h'⟩ := hf_bind h'
          unfold f_X4_cellOf at h'
          rw [ob_some] at h'
          obtain ⟨a, ea, h'⟩ := hf_bind h'
          cases h'
          exact Or.inl ⟨c61, v, x, a, ev, ex, ea, rfl⟩
      · rw [if_neg C0] at h
        refine Or.inl ⟨f63 _ h, Or.inr (Or.inl (fun C' eC' => ?_))⟩
        rw [eC] at eC'
        cases eC'
        exact C0
  unfold f_X7_change at e
  rw [eP, ob_some, hP] at e
  by_cases c61 : X.i 43 = 61
  · rw [e_fnd1 c61, ob_some, if_neg n10] at e
    exact g1 e (Or.inl c61)
  · rw [e_fnd0 c61, ob_some, if_pos rfl] at e
    by_cases m0 : mi = 0
    · rw [if_pos m0] at e
      exact Or.inl ⟨g0 e, Or.inr (Or.inr (fun z => z.elim c61 (fun y => y.1 m0)))⟩
    · rw [if_neg m0] at e
      by_cases c135 : X.i 43 = 135
      · rw [e_fnd1 c135, ob_some, if_neg n10] at e
        exact g1 e (Or.inr ⟨m0, c135⟩)
      · rw [e_fnd0 c135, ob_some, if_pos rfl] at e
        exact Or.inl ⟨g0 e, Or.inr (Or.inr (fun z => z.elim c61 (fun y => c135 y.2)))⟩
/-- no sign that closes -/
theorem y_cl0 {N : Nat} {S : CS} {c : Int32} {R : Unit × CS} (k : ¬ S.i 43 = c) (e : f_X1_close N S c = some R) : ¬ R.2.i 32 = 0 := by
  unfold f_X1_close f_X1_close_22 at e
  rw [e_fnd0 k, ob_some, if_pos rfl] at e
  obtain ⟨p, ep, e⟩ := hf_bind e
  cases e
  show ¬ p.2.i 32 = 0
  exact y_misp ep
theorem can_f {N : Nat} {s : RS} {x : Int32} (h : ¬ s.i 15 = 0) : f_X12_can N s x = some (0, s) := by
  rw [e_can, if_pos h]
