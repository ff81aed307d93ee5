theorem p_ran168 (N : Nat) : ∀ (n : Nat) (σ : RS) (x3 x4 : Int32), 0 ≤ x4.toInt → x4.toInt ≤ 8 → 8 - x4.toInt < n → ok (f_X12_ran_168 N n σ x3 x4) (fun R => R.2 = σ)
  | 0, _, _, _, _, _, h => by omega
  | n+1, σ, x3, x4, h0, h8, hn => by
    show ok (b_X12_ran_168 N (f_X12_ran_168 N n) σ x3 x4) _
    unfold b_X12_ran_168
    have e8 : (8 : Int32).toInt = 8 := by decide
    have e1 : (1 : Int32).toInt = 1 := by decide
    refine ok_ite (fun c => ok_some rfl) (fun c => ?_)
    have hlt : x4.toInt < 8 := by have := lt_int (Int32.not_le.mp c); rw [e8] at this; exact this
    have es : (x4 + 1).toInt = x4.toInt + 1 := by rw [toInt_add] <;> rw [e1] <;> omega
    exact ok_chk ⟨h0, by omega⟩ (p_ran168 N n σ _ (x4 + 1) (by omega) (by omega) (by omega))
theorem p_ran41 {N : Nat} (hN : 1000 ≤ N) (σ : RS) (x1 x2 : Int32) (h : x2 = 0 ∨ 0 ≤ (σ.i 114).toInt ∧ (σ.i 114).toInt < 3200) : ok (f_X12_ran_41 N σ x1 x2) (fun R => R.2 = σ) := by
  unfold f_X12_ran_41
  have ib' : ¬ x2 = 0 → ib (σ.i 114) 3200 := fun c => by
    rcases h with h | h
    · exact absurd h c
    · exact ⟨h.1, h.2⟩
  refine ok_ite (fun _ => ok_some rfl) (fun _ => ok_ite (fun _ => ok_some rfl) (fun _ => ok_ite (fun _ => ok_ite (fun _ => ok_some rfl) (fun _ => ok_some rfl)) (fun _ => ?_)))
  refine ok_ite (fun _ => ok_ite (fun _ => ok_some rfl) (fun c => ok_chk (ib' c) (ok_some rfl))) (fun _ => ok_ite (fun _ => ok_ite (fun _ => ok_some rfl) (fun c => ok_chk (ib' c) (ok_some rfl))) (fun _ => ok_ite (fun _ => ok_ite (fun _ => ok_some rfl) (fun c => ok_chk (ib' c) (ok_some rfl))) (fun _ => ?_)))
  exact p_ran168 N N σ 0 0 (by decide) (by decide) (by rw [z_t0]; omega)
theorem p_ran {N : Nat} (hN : 1000 ≤ N) (σ : RS) (x1 : Int32) (hR : RR σ) : ok (f_X12_ran N σ x1) (fun R => R.2 = σ.setI 0 0) := by
  unfold f_X12_ran
  refine ok_bind (p_in N (σ.setI 0 0) x1 0 6) (fun p hp => ?_)
  obtain ⟨e, -⟩ := hp
  rw [e]
  refine ok_ite (fun _ => ok_some rfl) (fun _ => ok_ite (fun _ => ok_some rfl) (fun _ => ok_ite (fun c => ?_) (fun c => ?_)))
  · exact p_ran41 hN _ _ _ (Or.inr (hR.2.1 c))
  · exact p_ran41 hN _ _ _ (Or.inl rfl)
theorem p_trace (N : Nat) (σ : RS) (x1 x2 : Int32) (hR : RR σ) : ok (f_X12_trace N σ x1 x2) (fun R => R.2 = σ.setI 0 0) := by
  unfold f_X12_trace f_X12_trace_35
  refine ok_ite (fun _ => ok_some rfl) (fun _ => ok_bind (p_in N (σ.setI 0 0) x1 0 _) (fun p hp => ?_))
  obtain ⟨e, hp⟩ := hp
  rw [e]
  refine ok_ite (fun _ => ok_some rfl) (fun c => ok_bind (p_in N (σ.setI 0 0) x2 0 1) (fun q hq => ?_))
  obtain ⟨e2, -⟩ := hq
  rw [e2]
  have hib : ib x1 200 := by
    rcases hp with hp | ⟨-, h1, h2⟩
    · exact absurd hp c
    · have h9 : σ.i 81 ≤ 200 := hR.1.2
      have h0 : 0 ≤ σ.i 81 := hR.1.1
      have h2 : x1 ≤ σ.i 81 - 1 := h2
      refine ib_of (m := 200) (by decide) h1 ?_
      grind
  exact ok_ite (fun _ => ok_some rfl) (fun _ => ok_ite (fun _ => ok_chk hib (ok_some rfl)) (fun _ => ok_chk hib (ok_some rfl)))
theorem p_suppressed (N : Nat) (σ : RS) (x1 x2 : Int32) (hR : RR σ) : ok (f_X12_suppressed N σ x1 x2) (fun R => R.2 = σ.setI 0 0) := by
  unfold f_X12_suppressed f_X12_suppressed_48
  refine ok_ite (fun _ => ok_some rfl) (fun _ => ok_ite (fun c => ?_) (fun _ => ok_some rfl))
  have ht := hR.2.1 c
  refine ok_chk ⟨ht.1, ht.2⟩ (ok_bind (p_in N (σ.setI 0 0) x1 0 _) (fun p hp => ?_))
  obtain ⟨e, hp⟩ := hp
  rw [e]
  refine ok_ite (fun _ => ok_some rfl) (fun c => ok_bind (p_in N (σ.setI 0 0) x2 0 1) (fun q hq => ?_))
  obtain ⟨e2, -⟩ := hq
  rw [e2]
  have hib : ib ((8 * ((σ.setI 0 0).i 114)) + x1) 25600 := by
    rcases hp with hp | ⟨-, h1, h2⟩
    · exact absurd hp c
    · have hc := clampI ht.1
      have h9 := hR.2.2.1 (σ.i 114).toNatClampNeg (by omega)
      have h2 : x1 ≤ σ.a 88 (σ.i 114).toNatClampNeg - 1 := h2
      have h3 := le_int h2
      have h1 := le_int h1
      rw [z_t0] at h1
      have e1 : (1 : Int32).toInt = 1 := by decide
      have e8 : (8 : Int32).toInt = 8 := by decide
      have h9a : 0 ≤ (σ.a 88 (σ.i 114).toNatClampNeg).toInt := h9.1
      have h9b : (σ.a 88 (σ.i 114).toNatClampNeg).toInt ≤ 8 := h9.2
      have hs : (σ.a 88 (σ.i 114).toNatClampNeg - 1).toInt = (σ.a 88 (σ.i 114).toNatClampNeg).toInt - 1 := by rw [toInt_sub] <;> rw [e1] <;> omega
      have hm : (8 * σ.i 114).toInt = 8 * (σ.i 114).toInt := by
        rw [Int32.toInt_mul, e8, Int.bmod_eq_of_le (by omega) (by omega)]
      show ib (8 * σ.i 114 + x1) 25600
      have ha : (8 * σ.i 114 + x1).toInt = 8 * (σ.i 114).toInt + x1.toInt := by rw [toInt_add] <;> rw [hm] <;> omega
      exact ⟨by omega, by omega⟩
  exact ok_ite (fun _ => ok_some rfl) (fun _ => ok_ite (fun _ => ok_chk hib (ok_some rfl)) (fun _ => ok_chk hib (ok_some rfl)))
