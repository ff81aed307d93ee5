noncomputable def fEE (N : Nat) : Nat → (CS → Option (Unit × CS)) × (CS → Option (Int32 × CS))
  | 0 => (fun _ => none, fun _ => none)
  | d+1 => (f_X1_factor N (fEE N d).1 (fEE N d).2, f_X1_one N (fEE N d).1 (fEE N d).2)
theorem mEE (N : Nat) : ∀ d : Nat, (∀ σ, Mono (CS.hs σ) ((fEE N d).1 σ)) ∧ (∀ σ, Mono (CS.hs σ) ((fEE N d).2 σ))
  | 0 => ⟨fun _ => mono_none, fun _ => mono_none⟩
  | d+1 => ⟨fun σ => m_X1_factor N _ _ (mEE N d).1 (mEE N d).2 σ, fun σ => m_X1_one N _ _ (mEE N d).1 (mEE N d).2 σ⟩
theorem cEE (l : Launch) (dC : Nat → ClassId) (dI : Nat → Nat → Nat) (Q : CQ) (N : Nat) : ∀ d : Nat, cMF l dC dI Q d (fEE N d).1 ∧ cMO l dC dI Q d (fEE N d).2
  | 0 => ⟨fun _ _ h => (by cases h), fun _ _ h => (by cases h)⟩
  | d+1 => by
    have ih := cEE l dC dI Q N d
    have hm := mEE N d
    have he : (10 + 40 * (d + 1)) = 50 + 40 * d := by omega
    refine ⟨fun σ R hf => ?_, fun σ R hf => ?_⟩
    · rw [he]
      exact c_X1_factor l dC dI Q N d _ _ ih.1 ih.2 hm.1 hm.2 σ R hf
    · rw [he]
      exact c_X1_one l dC dI Q N d _ _ ih.1 ih.2 hm.1 hm.2 σ R hf
