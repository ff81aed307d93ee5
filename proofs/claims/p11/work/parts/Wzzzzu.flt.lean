/-! both readers: what begins no statement, in the class -/
theorem y_122F {N : Nat} {E1 : CS → Option (Unit × CS)} {E2 : CS → Option (Int32 × CS)} {S : CS} {R : Unit × CS} (h : S.i 43 = 6 ∨ S.i 43 = 219 ∨ S.i 43 = 220) (e : f_X7_statement_122 N E1 E2 S = some R) : ¬ R.2.i 32 = 0 := by
  unfold f_X7_statement_122 at e
  obtain ⟨p, ep, e⟩ := hf_bind e
  have e1 := ob_un e
  have p43 : p.2.i 43 = S.i 43 := (kd_all (kd_X0_add N S 51 0 p ep)).2.2.2.1
  have nt : ∀ v : Int32, (v = 59 ∨ v = 200 ∨ v = 201 ∨ v = 202 ∨ v = 208 ∨ v = 209 ∨ v = 210 ∨ v = 211 ∨ v = 217 ∨ v = 221 ∨ v = 203 ∨ v = 204 ∨ v = 205 ∨ v = 206 ∨ v = 207 ∨ v = 212 ∨ v = 213 ∨ v = 214 ∨ v = 215 ∨ v = 216 ∨ v = 218) → ¬ p.2.i 43 = v := fun v hv q => by
    rw [p43] at q
    rcases h with z | z | z <;> rw [z] at q <;> rw [← q] at hv <;> exact absurd hv (by decide)
  unfold f_X7_plain at e1
  rw [if_neg (nt 59 (by decide)), if_neg (nt 200 (by decide)), if_neg (nt 201 (by decide)), if_neg (nt 202 (by decide)), if_neg (nt 208 (by decide)), if_neg (nt 209 (by decide)), if_neg (nt 210 (by decide)), if_neg (nt 211 (by decide)), if_neg (nt 217 (by decide)), if_neg (nt 221 (by decide))] at e1
  have e2 := ob_un e1
  unfold f_X7_compound at e2
  rw [if_neg (nt 203 (by decide)), if_neg (nt 204 (by decide)), if_neg (nt 205 (by decide)), if_neg (nt 206 (by decide)), if_neg (nt 207 (by decide)), if_neg (nt 208 (by decide)), if_neg (nt 209 (by decide)), if_neg (nt 210 (by decide)), if_neg (nt 211 (by decide)), if_neg (nt 212 (by decide)), if_neg (nt 213 (by decide)), if_neg (nt 214 (by decide)), if_neg (nt 215 (by decide)), if_neg (nt 216 (by decide)), if_neg (nt 217 (by decide)), if_neg (nt 218 (by decide))] at e2
  exact y_misp (ob_un e2)
theorem y_stF {N : Nat} {E1 : CS → Option (Unit × CS)} {E2 : CS → Option (Int32 × CS)} {S : CS} {x1 : Int32} {R : Unit × CS} (h : (S.i 43 = 6 ∨ S.i 43 = 219 ∨ S.i 43 = 220) ∨ ((S.i 43 = 200 ∨ S.i 43 = 201) ∧ ¬ x1 = 0)) (e : f_X7_statement N E1 E2 S x1 = some R) : ¬ R.2.i 32 = 0 := by
  have e0 : ∃ S' : CS, S'.i 43 = S.i 43 ∧ f_X7_statement_18 N E1 E2 S' x1 = some R := by
    unfold f_X7_statement at e
    by_cases c : S.i 36 = 0
    · rw [if_pos c] at e
      obtain ⟨p, ep, e⟩ := hf_bind e
      refine ⟨p.2, ?_, e⟩
      unfold f_X7_notReached at ep
      by_cases c7 : 0 ≤ S.i 37
      · rw [if_pos c7] at ep
        rw [← Option.some.inj ep]
      · rw [if_neg c7] at ep
        rw [← Option.some.inj ep]
        exact ci_ne _ _ _ (by decide)
    · rw [if_neg c] at e
      exact ⟨S, rfl, e⟩
  obtain ⟨S', h43, e⟩ := e0
  unfold f_X7_statement_18 at e
  have i43 : (CS.setI (CS.setI S' 36 1) 24 ((S'.i 24) + 1)).i 43 = S.i 43 := by
    rw [ci_ne _ _ _ (by decide), ci_ne _ _ _ (by decide), h43]
  obtain ⟨W, hW⟩ : ∃ W, W = CS.setI (CS.setI S' 36 1) 24 ((S'.i 24) + 1) := ⟨_, rfl⟩
  rw [← hW] at e i43
  clear hW
  have nt : ∀ v : Int32, (v = 2 ∨ v = 123) → ¬ W.i 43 = v := fun v hv q => by
    rw [i43] at q
    rcases h with (z | z | z) | ⟨z | z, -⟩ <;> rw [z] at q <;> rw [← q] at hv <;> exact absurd hv (by decide)
  rw [e_fnd0 (nt 2 (by decide)), ob_some, if_pos rfl, e_fnd0 (nt 123 (by decide)), ob_some, if_pos rfl] at e
  by_cases hx : x1 = 0
  · rw [if_pos hx] at e
    rcases h with z | ⟨-, z⟩
    · rw [← i43] at z
      exact y_122F z e
    · exact absurd hx z
  rw [if_neg hx] at e
  by_cases c0 : W.i 43 = 200
  · rw [e_fnd1 c0, ob_some, if_neg n10] at e
    exact y_misp (ob_un e)
  rw [e_fnd0 c0, ob_some, if_pos rfl] at e
  by_cases c1 : W.i 43 = 201
  · rw [e_fnd1 c1, ob_some, if_neg n10] at e
    exact y_misp (ob_un e)
  rw [e_fnd0 c1, ob_some, if_pos rfl] at e
  rcases h with z | ⟨z, -⟩
  · rw [← i43] at z
    exact y_122F z e
  · rw [← i43] at z
    rcases z with z | z
    · exact absurd z c0
    · exact absurd z c1
/-- the reference has faulted at a body's first word: the class does so now -/
theorem dm_step {N a m : Nat} {E1 : CS → Option (Unit × CS)} {E2 : CS → Option (Int32 × CS)} {d : Int32} {B S : CS} {U : RS} {P : Unit × CS} (h : DMD d B S U) (hm : (S.i 53).toInt = (m : Int) + 1) (ea : S.r 51 m = some a) (k : KTN N E1 E2 S a P) : ¬ P.2.i 32 = 0 := by
  obtain ⟨-, ⟨u, ev, tk⟩, -, a', m', h1, -, h2, one, o5⟩ := h
  have em : m' = m := by omega
  rw [em, ea] at h2
  have eaa : a' = a := (Option.some.inj h2).symm
  rw [eaa] at one o5
  have k200 := tk_is ev (a := 200) (b := 410) (Or.inr ⟨by decide, by decide⟩) (by decide)
  have k201 := tk_is ev (a := 201) (b := 411) (Or.inr ⟨by decide, by decide⟩) (by decide)
  have k6 := tk_is ev (a := 6) (b := 6) (Or.inl ⟨by decide, by decide⟩) (by decide)
  have n5 : ¬ S.o a 0 = 305 := fun z => by
    rw [z] at one
    unfold isOne at one
    exact absurd one (by decide)
  rcases k with ⟨-, k⟩ | ⟨⟨z, -⟩, -⟩ | ⟨⟨z, -⟩, -⟩ | ⟨⟨z, -⟩, -⟩ | ⟨⟨z, -⟩, -⟩ | ⟨⟨z, -⟩, -⟩
  · unfold f_X7_bodyTurn at k
    obtain ⟨-, k⟩ := hf_ite k
    rw [if_pos o5] at k
    refine y_stF ?_ (ob_un k)
    show (S.i 43 = 6 ∨ S.i 43 = 219 ∨ S.i 43 = 220) ∨ ((S.i 43 = 200 ∨ S.i 43 = 201) ∧ ¬ (1 : Int32) = 0)
    rcases tk with z | z | z
    · exact Or.inr ⟨Or.inl (k200.mpr z), n10⟩
    · exact Or.inr ⟨Or.inr (k201.mpr z), n10⟩
    · exact Or.inl (Or.inl (k6.mpr z))
  · exact absurd z n5
  · exact absurd z n5
  · exact absurd one z
  · exact absurd one z
  · exact absurd one z
