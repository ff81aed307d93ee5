/-! both readers: an arm's block, and the two of expressions -/
theorem sx_armBlock {N : Nat} (hN : 1000 ≤ N) {E1 : CS → Option (Unit × CS)} {E2 : CS → Option (Int32 × CS)} (hm1 : ∀ σ, Kf (CS.i σ 32) (E1 σ)) (hm2 : ∀ σ, Kf (CS.i σ 32) (E2 σ)) (hE : SXR N 18 E1) (hE2 : SXN N 22 E2) : ABK N (f_X7_armBlock N E1 E2) := by
  intro d x S s V U n t R hv hG ht hk _ h3 e hV g
  unfold f_X7_armBlock at e
  obtain ⟨p1, e1, e⟩ := hf_bind e
  obtain ⟨p5, e5, e⟩ := hf_bind e
  have st := ab_start (x := x) hN hv hG ht hk h3 e1 e5 hV g
  cases ea : p5.1 with
  | none =>
    rw [ea] at e
    cases e
  | some a =>
    rw [ea] at e
    obtain ⟨-, e⟩ := hf_ite e
    obtain ⟨p12, e12, e⟩ := hf_bind e
    obtain ⟨-, e⟩ := hf_ite e
    obtain ⟨h036, e⟩ := hf_ite e
    have eR : R.2 = CS.setI (CS.setI p12.2 56 (CS.o p12.2 a 16)) 36 (S.i 36) := by rw [← Option.some.inj e]
    have R32 : R.2.i 32 = p12.2.i 32 := by rw [eR, ci_ne _ _ _ (by decide), ci_ne _ _ _ (by decide)]
    have e12' : f_X7_turns_2 N E1 E2 N (CS.setI (CS.setI (CS.setO (CS.setO p5.2 a 9 x) a 16 (p5.2.i 56)) 56 (S.i 53)) 36 1) (S.i 53) 0 = some p12 := e12
    rcases st with ⟨f1, f2⟩ | ⟨a', m, b, c, ea', hr, hY, hS⟩
    · have f5 : ¬ p5.2.i 32 = 0 := by
        rw [kF_X6_push N p1.2 _ _ _ p5 e5 f1]
        exact f1
      have w : ¬ (CS.setI (CS.setI (CS.setO (CS.setO p5.2 a 9 x) a 16 (p5.2.i 56)) 56 (S.i 53)) 36 1).i 32 = 0 := by
        rw [ci_ne _ _ _ (by decide), ci_ne _ _ _ (by decide)]
        exact f5
      have z := tn_stop e12' (Or.inl w)
      refine Or.inl ⟨?_, f2⟩
      rw [R32, z]
      exact w
    · have aa : a' = a := Option.some.inj (ea'.symm.trans ea)
      rw [aa] at hr hY hS
      have h53 := hr.1.1.1
      have hW := hr.1.2.1
      have u3 : U.i 3 = V.i 3 := (kln_f_X12_parse_10 N n V U g).2
      have v3 : V.i 3 = s.i 3 := by
        obtain ⟨q1, h1, h2⟩ := hf_bind hV
        rw [ob_id] at h2
        exact ((kln_f_X12_then N _ 6 1 V h2).2).trans ((kln_f_X12_open N s 123 q1 h1).2)
      have b3 : b.i 3 = s.i 3 := by rw [hr.2.2.2.1.1]
      have hU : KU3 U b := ⟨by rw [u3, v3, b3], by rw [u3, v3]; exact hv.2.2.2.2.2.1.2.2.2.1.1⟩
      have z := tn_loop hN hm1 hm2 hE hE2 hY ARB.mA hU (d := d) (B := CS.setI (CS.setI (CS.setO (CS.setO p5.2 a 9 x) a 16 (p5.2.i 56)) 56 (S.i 53)) 36 1) (b := b) (t0 := t + 1) (n0 := m) (x1 := S.i 53) (U := U) (Q := fun R' => ∃ (mm : Nat) (u : RS), f_X12_parse_10 N mm u = some U ∧ AXO d t S s (CS.setI (CS.setI R' 56 (R'.o a 16)) 36 (S.i 36)) u ∧ ABD x t U S s (CS.setI (CS.setI R' 56 (R'.o a 16)) 36 (S.i 36)) u) h53 hW (fun S' s' c' m' P hS' tk k g' => (ab_end hN hv hr h036 hS' tk k g').imp id (fun q => ⟨Or.inr q.1, q.2⟩)) N _ 0 p12 e12' (Or.inl ⟨n, V, c, [], g, hS⟩)
      rcases z with ⟨z1, z2⟩ | z
      · refine Or.inl ⟨?_, z2⟩
        rw [R32]
        exact z1
      · right
        rw [eR]
        exact z
/-- both readers of an expression and of a condition's piece, at each depth -/
theorem sx_EE {N : Nat} (hN : 1000 ≤ N) : ∀ d : Nat, SXR N 18 (fEE N d).1 ∧ SXN N 22 (fEE N d).2
  | 0 => by
    refine ⟨?_, ?_⟩
    · intro _ _ _ _ _ _ R _ _ _ _ _ e _
      have e' : (none : Option (Unit × CS)) = some R := e
      cases e'
    · intro _ _ _ _ _ _ R _ _ _ _ _ e _
      have e' : (none : Option (Int32 × CS)) = some R := e
      cases e'
  | d + 1 => by
    obtain ⟨h1, h2⟩ := sx_EE hN d
    obtain ⟨m1, m2⟩ := kFEE N d
    exact ⟨sx_factor hN m1 m2 h1 (sx_choice hN m1 m2 h1 (sx_armBlock hN m1 m2 h1 h2)), sx_one hN m1 m2 h1 h2⟩
