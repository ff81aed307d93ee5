/-! the reference's tokens -/
def bt (s : RS) (x : Int32) : Int32 := if s.i 2 ≤ x then 0 else s.a 1 x.toNatClampNeg
theorem e_at {N : Nat} {σ : RS} {x : Int32} (h0 : 0 ≤ x) (h9 : σ.i 2 ≤ 900) : f_X12_at N σ x = some (bt σ x, σ) := by
  unfold f_X12_at bt
  by_cases c : σ.i 2 ≤ x
  · rw [if_pos c, if_pos c]
  · rw [if_neg c, if_neg c, if_pos (ib_of (m := 900) (by decide) h0 (by grind))]
theorem e_isDigit {N : Nat} {σ : RS} {c : Int32} : f_X12_isDigit N σ c = some (if 48 ≤ c ∧ c ≤ 57 then 1 else 0, σ) := by
  unfold f_X12_isDigit f_X12_isDigit_16
  by_cases h1 : c < 48
  · rw [if_pos h1, if_neg (by grind)]
  · rw [if_neg h1]
    by_cases h2 : 57 < c
    · rw [if_pos h2, if_neg (by grind)]
    · rw [if_neg h2, if_pos (by grind)]
theorem e_isLetter {N : Nat} {σ : RS} {c : Int32} : f_X12_isLetter N σ c = some (if 97 ≤ c ∧ c ≤ 122 then 1 else 0, σ) := by
  unfold f_X12_isLetter f_X12_isLetter_16
  by_cases h1 : c < 97
  · rw [if_pos h1, if_neg (by grind)]
  · rw [if_neg h1]
    by_cases h2 : 122 < c
    · rw [if_pos h2, if_neg (by grind)]
    · rw [if_neg h2, if_pos (by grind)]
theorem e_in {N : Nat} {σ : RS} {x a b : Int32} : f_X12_in N σ x a b = some (if a ≤ x ∧ x ≤ b then 1 else 0, σ) := by
  unfold f_X12_in f_X12_in_14
  by_cases h1 : x < a
  · rw [if_pos h1, if_neg (by grind)]
  · rw [if_neg h1]
    by_cases h2 : b < x
    · rw [if_pos h2, if_neg (by grind)]
    · rw [if_neg h2, if_pos (by grind)]
/-- only the token's numbers may differ -/
def TU (s t : RS) : Prop := (∀ j : Nat, j ≠ 10 → j ≠ 11 → j ≠ 12 → j ≠ 14 → t.i j = s.i j) ∧ t.a = s.a ∧ t.b = s.b
theorem TU.rf (s : RS) : TU s s := ⟨fun _ _ _ _ _ => rfl, rfl, rfl⟩
theorem TU.tr {s t u : RS} (h1 : TU s t) (h2 : TU t u) : TU s u := ⟨fun j a b c d => (h2.1 j a b c d).trans (h1.1 j a b c d), h2.2.1.trans h1.2.1, h2.2.2.trans h1.2.2⟩
theorem TU.i10 (s : RS) (v : Int32) : TU s (s.setI 10 v) := ⟨fun j a _ _ _ => if_neg a, rfl, rfl⟩
theorem TU.i11 (s : RS) (v : Int32) : TU s (s.setI 11 v) := ⟨fun j _ a _ _ => if_neg a, rfl, rfl⟩
theorem TU.i12 (s : RS) (v : Int32) : TU s (s.setI 12 v) := ⟨fun j _ _ a _ => if_neg a, rfl, rfl⟩
theorem TU.i14 (s : RS) (v : Int32) : TU s (s.setI 14 v) := ⟨fun j _ _ _ a => if_neg a, rfl, rfl⟩
theorem TU.l (s : RS) (v : Int64) : TU s (s.setL v) := ⟨fun _ _ _ _ _ => rfl, rfl, rfl⟩
theorem TU.taped {s t : RS} (h : TU s t) : t.i 2 = s.i 2 := h.1 2 (by decide) (by decide) (by decide) (by decide)
/-- what stands of a token: from, to, and its number -/
def TP (s t : RS) : Prop := TU s t ∧ 0 ≤ t.i 11 ∧ t.i 11 ≤ t.i 12 ∧ t.i 12 ≤ t.i 2 ∧ (t.i 10 = 0 ∧ t.i 11 = t.i 2 ∨ t.i 10 ≠ 0 ∧ t.i 11 < t.i 12) ∧ (t.i 10 = 3 ∨ t.i 10 = 4 → 0 ≤ t.i 14 ∧ t.i 14 ≤ 7) ∧ (t.i 10 = 5 → 0 ≤ t.i 14 ∧ t.i 14 ≤ 11) ∧ (410 ≤ t.i 10 → t.i 11 + 2 ≤ t.i 12) ∧ t.i 10 ≤ 434 ∧ (t.i 10 = 5 → t.i 11 + 2 ≤ t.i 12)
def TQ (s t : RS) : Prop := TP s t ∧ t.i 11 = s.i 11
def WD (s : RS) : Prop := ∀ k : Nat, k < 25 → 256 ≤ s.b 9 k
theorem lg_cmp_0 {x y : Int64} (h : lg_cmp x y = 0) : x = y := by
  unfold lg_cmp at h
  by_cases h1 : y < x
  · rw [if_pos h1] at h; exact absurd h (by decide)
  · rw [if_neg h1] at h
    by_cases h2 : x = y
    · exact h2
    · rw [if_neg h2] at h; exact absurd h (by decide)
/-- the words: the token stays NAME, or is a word, and then the name is one of them -/
theorem p_rn260 (N : Nat) : ∀ (n : Nat) (σ : RS) (k : Int32), 0 ≤ k → k ≤ 25 → 25 - k.toInt < n → σ.i 10 = 2 ∨ (410 ≤ σ.i 10 ∧ σ.i 10 ≤ 434 ∧ ∃ j : Nat, j < 25 ∧ σ.b 9 j = σ.l) →
    ok (f_X12_readName_260 N n σ k) (fun R => TU σ R ∧ R.i 11 = σ.i 11 ∧ R.i 12 = σ.i 12 ∧ R.i 14 = σ.i 14 ∧ (R.i 10 = 2 ∨ (410 ≤ R.i 10 ∧ R.i 10 ≤ 434 ∧ ∃ j : Nat, j < 25 ∧ σ.b 9 j = σ.l)))
  | 0, σ, k, h0, h25, hn, ht => by
    have := le_int h25
    have e : (25 : Int32).toInt = 25 := by decide
    omega
  | n+1, σ, k, h0, h25, hn, ht => by
    show ok (b_X12_readName_260 N (f_X12_readName_260 N n) σ k) _
    unfold b_X12_readName_260
    refine ok_ite (fun c => ok_some ⟨TU.rf _, rfl, rfl, rfl, ht⟩) (fun c => ?_)
    have hk : k < 25 := by grind
    have hib : ib k 25 := ib_of (m := 25) (by decide) h0 hk
    refine ok_chk hib ?_
    have e1 : (1 : Int32).toInt = 1 := by decide
    have e25 : (25 : Int32).toInt = 25 := by decide
    have hl := lt_int hk
    have h0' := le_int h0
    rw [z_t0] at h0'
    have ha : (k + 1).toInt = k.toInt + 1 := by rw [toInt_add] <;> rw [e1] <;> omega
    have ec := clampI hib.1
    refine ok_ite (fun c2 => ?_) (fun c2 => ?_)
    · have hw := lg_cmp_0 c2
      refine ok_imp (p_rn260 N n _ (k + 1) (by grind) (by grind) (by omega) (Or.inr ⟨?_, ?_, k.toNatClampNeg, by omega, hw⟩)) (fun R hR => ⟨(TU.i10 _ _).tr hR.1, hR.2⟩)
      · show 410 ≤ 410 + k; grind
      · show 410 + k ≤ 434; grind
    · exact ok_imp (p_rn260 N n _ (k + 1) (by grind) (by grind) (by omega) ht) (fun R hR => ⟨(TU.i10 _ _).tr hR.1, hR.2⟩)
/-- behind the name's letters -/
def NP (σ R : RS) : Prop := TU σ R ∧ R.i 11 = σ.i 11 ∧ R.i 12 = σ.i 12 ∧ R.i 10 ≠ 0 ∧ R.i 10 ≤ 434 ∧ (R.i 10 = 3 ∨ R.i 10 = 4 → 0 ≤ R.i 14 ∧ R.i 14 ≤ 7) ∧ (R.i 10 = 5 → 0 ≤ R.i 14 ∧ R.i 14 ≤ 11) ∧ (410 ≤ R.i 10 → ∃ j : Nat, j < 25 ∧ σ.b 9 j = σ.l)
def NZ (z : Int32) (σ R : RS) : Prop := NP σ R ∧ (R.i 10 = 5 → z = 2 ∨ z = 3)
theorem p_rn257 {N : Nat} (hN : 100 ≤ N) (σ : RS) (h : σ.i 10 = 2) (z : Int32) : ok (f_X12_readName_257 N σ) (NZ z σ) := by
  unfold f_X12_readName_257
  refine ok_imp (p_rn260 N N σ 0 (by decide) (by decide) (by rw [z_t0]; omega) (Or.inl h)) (fun R hR => ?_)
  obtain ⟨h1, h2, h3, h4, h5⟩ := hR
  refine ⟨⟨h1, h2, h3, ?_, ?_, ?_, ?_, ?_⟩, ?_⟩ <;> grind
theorem NP.of {σ τ R : RS} (h : NP τ R) (hu : TU σ τ) (h1 : τ.i 11 = σ.i 11) (h2 : τ.i 12 = σ.i 12) (hl : τ.l = σ.l) : NP σ R := by
  obtain ⟨a1, a2, a3, a4, a5, a6, a7, a8⟩ := h
  refine ⟨hu.tr a1, a2.trans h1, a3.trans h2, a4, a5, a6, a7, fun q => ?_⟩
  obtain ⟨j, hj, he⟩ := a8 q
  exact ⟨j, hj, by rw [← hu.2.2, ← hl]; exact he⟩
theorem k_58 {y : Int32} (h1 : 0 ≤ y - 48) (h2 : y - 48 ≤ 1) : 0 ≤ 10 + y - 48 ∧ 10 + y - 48 ≤ 11 := by
  have e : 10 + y - 48 = (y - 48) + 10 := by grind
  rw [e]
  generalize y - 48 = z at h1 h2
  grind
theorem p_rn220 {N : Nat} (σ : RS) (x1 x3 : Int32) (h : x1 = 2 ∧ 0 ≤ x3 ∧ x3 ≤ 9 ∨ ¬ x1 = 2 ∧ 0 ≤ bt σ (σ.i 11 + 2) - 48 ∧ bt σ (σ.i 11 + 2) - 48 ≤ 1) (h0 : 0 ≤ σ.i 11) (h9 : σ.i 11 ≤ 900) (ht : σ.i 2 ≤ 900) (hz : x1 = 2 ∨ x1 = 3) : ok (f_X12_readName_220 N σ x1 x3) (NZ x1 σ) := by
  unfold f_X12_readName_220 f_X12_readName_254
  refine ok_ite (fun c => ?_) (fun c => ?_)
  · refine ok_some ⟨⟨(TU.i10 _ _).tr (TU.i14 _ _), rfl, rfl, ?_, ?_, ?_, ?_, ?_⟩, fun _ => hz⟩
    · show (5 : Int32) ≠ 0; decide
    · show (5 : Int32) ≤ 434; decide
    · intro q; have q : (5 : Int32) = 3 ∨ (5 : Int32) = 4 := q; exact absurd q (by decide)
    · intro _; show 0 ≤ x3 ∧ x3 ≤ 11; grind
    · intro q; have q : (410 : Int32) ≤ 5 := q; exact absurd q (by decide)
  · rw [e_at (σ := σ.setI 10 5) (by show 0 ≤ σ.i 11 + 2; grind) ht]
    refine ok_some ⟨⟨(TU.i10 _ _).tr (TU.i14 _ _), rfl, rfl, ?_, ?_, ?_, ?_, ?_⟩, fun _ => hz⟩
    · show (5 : Int32) ≠ 0; decide
    · show (5 : Int32) ≤ 434; decide
    · intro q; have q : (5 : Int32) = 3 ∨ (5 : Int32) = 4 := q; exact absurd q (by decide)
    · intro _
      show 0 ≤ 10 + bt σ (σ.i 11 + 2) - 48 ∧ 10 + bt σ (σ.i 11 + 2) - 48 ≤ 11
      rcases h with h | h
      · exact absurd h.1 c
      · exact k_58 h.2.1 h.2.2
    · intro q; have q : (410 : Int32) ≤ 5 := q; exact absurd q (by decide)
theorem p_rn189 {N : Nat} (hN : 100 ≤ N) (σ : RS) (x1 x3 : Int32) (h : σ.i 10 = 2) (h0 : 0 ≤ σ.i 11) (h9 : σ.i 11 ≤ 900) (ht : σ.i 2 ≤ 900) : ok (f_X12_readName_189 N σ x1 x3) (NZ x1 σ) := by
  unfold f_X12_readName_189
  refine ok_ite (fun c => ok_ite (fun c2 => ?_) (fun c2 => p_rn257 hN σ h x1)) (fun c => p_rn257 hN σ h x1)
  rw [e_at (by grind) ht]
  show ok ((f_X12_in N σ (bt σ (σ.i 11 + 2) - 48) 0 1).bind _) _
  rw [e_in]
  refine ok_ite (fun c3 => p_rn257 hN σ h x1) (fun c3 => p_rn220 σ x1 x3 (Or.inr ?_) h0 h9 ht (Or.inr c))
  have c3 : ¬ (if 0 ≤ bt σ (σ.i 11 + 2) - 48 ∧ bt σ (σ.i 11 + 2) - 48 ≤ 1 then (1 : Int32) else 0) = 0 := c3
  by_cases hq : 0 ≤ bt σ (σ.i 11 + 2) - 48 ∧ bt σ (σ.i 11 + 2) - 48 ≤ 1
  · exact ⟨by rw [c]; decide, hq⟩
  · rw [if_neg hq] at c3; exact absurd rfl c3
theorem p_rn168 {N : Nat} (hN : 100 ≤ N) (σ : RS) (x1 x2 x3 : Int32) (h : σ.i 10 = 2) (h0 : 0 ≤ σ.i 11) (h9 : σ.i 11 ≤ 900) (ht : σ.i 2 ≤ 900) : ok (f_X12_readName_168 N σ x1 x2 x3) (NZ x1 σ) := by
  unfold f_X12_readName_168
  refine ok_ite (fun c => ok_ite (fun c2 => ?_) (fun c2 => p_rn189 hN σ x1 x3 h h0 h9 ht)) (fun c => p_rn257 hN σ h x1)
  rw [e_in]
  refine ok_ite (fun c3 => p_rn189 hN σ x1 x3 h h0 h9 ht) (fun c3 => p_rn220 σ x1 x3 (Or.inl ?_) h0 h9 ht (Or.inl c2))
  have c3 : ¬ (if 0 ≤ x3 ∧ x3 ≤ 9 then (1 : Int32) else 0) = 0 := c3
  by_cases hq : 0 ≤ x3 ∧ x3 ≤ 9
  · exact ⟨c2, hq⟩
  · rw [if_neg hq] at c3; exact absurd rfl c3
theorem p_rn135 {N : Nat} (hN : 100 ≤ N) (σ : RS) (x1 x2 x3 : Int32) (h : σ.i 10 = 2) (h0 : 0 ≤ σ.i 11) (h9 : σ.i 11 ≤ 900) (ht : σ.i 2 ≤ 900) : ok (f_X12_readName_135 N σ x1 x2 x3) (NZ x1 σ) := by
  unfold f_X12_readName_135 f_X12_readName_160
  rw [e_in]
  refine ok_ite (fun c3 => p_rn168 hN σ x1 x2 x3 h h0 h9 ht) (fun c3 => ?_)
  have c3 : ¬ (if 0 ≤ x3 ∧ x3 ≤ 7 then (1 : Int32) else 0) = 0 := c3
  have hq : 0 ≤ x3 ∧ x3 ≤ 7 := by
    by_cases hq : 0 ≤ x3 ∧ x3 ≤ 7
    · exact hq
    · rw [if_neg hq] at c3; exact absurd rfl c3
  refine ok_ite (fun _ => ok_some ⟨⟨(TU.i10 _ _).tr (TU.i14 _ _), rfl, rfl, ?_, ?_, fun _ => hq, ?_, ?_⟩, ?_⟩) (fun _ => ok_some ⟨⟨(TU.i10 _ _).tr (TU.i14 _ _), rfl, rfl, ?_, ?_, fun _ => hq, ?_, ?_⟩, ?_⟩)
  · show (3 : Int32) ≠ 0; decide
  · show (3 : Int32) ≤ 434; decide
  · intro q; have q : (3 : Int32) = 5 := q; exact absurd q (by decide)
  · intro q; have q : (410 : Int32) ≤ 3 := q; exact absurd q (by decide)
  · intro q; have q : (3 : Int32) = 5 := q; exact absurd q (by decide)
  · show (4 : Int32) ≠ 0; decide
  · show (4 : Int32) ≤ 434; decide
  · intro q; have q : (4 : Int32) = 5 := q; exact absurd q (by decide)
  · intro q; have q : (410 : Int32) ≤ 4 := q; exact absurd q (by decide)
  · intro q; have q : (4 : Int32) = 5 := q; exact absurd q (by decide)
theorem ift {c : Prop} [Decidable c] (h : ¬ (if c then (1 : Int32) else 0) = 0) : c := by
  by_cases hc : c
  · exact hc
  · rw [if_neg hc] at h; exact absurd rfl h
theorem iff0 {c : Prop} [Decidable c] (h : (if c then (1 : Int32) else 0) = 0) : ¬ c := by
  intro hc
  rw [if_pos hc] at h
  exact absurd h (by decide)
theorem bt_in {σ : RS} {x : Int32} (h : bt σ x ≠ 0) : x < σ.i 2 := by
  unfold bt at h
  by_cases c : σ.i 2 ≤ x
  · rw [if_pos c] at h; exact absurd rfl h
  · grind
theorem or_1 {c : Int32} (h1 : 0 ≤ c) (h2 : c ≤ 122) : ((0 : Int64) <<< ((8 : Int32).toInt64 &&& 63)) ||| c.toInt64 < 256 := by
  have e : ((0 : Int64) <<< ((8 : Int32).toInt64 &&& 63)) = 0 := by decide
  rw [e, Int64.zero_or, Int64.lt_iff_toInt_lt]
  have e1 : (256 : Int64).toInt = 256 := by decide
  have e2 : (122 : Int32).toInt = 122 := by decide
  have h := le_int h2
  rw [Int32.toInt_toInt64, e1]
  omega
/-- the name's letters, one by one -/
def NI (σ : RS) : Prop := 0 ≤ σ.i 11 ∧ σ.i 11 ≤ σ.i 12 ∧ σ.i 12 ≤ σ.i 2 ∧ σ.i 2 ≤ 900 ∧ (σ.i 12 = σ.i 11 ∧ σ.l = 0 ∧ 97 ≤ bt σ (σ.i 11) ∧ bt σ (σ.i 11) ≤ 122 ∨ σ.i 12 = σ.i 11 + 1 ∧ σ.l < 256 ∨ σ.i 11 + 2 ≤ σ.i 12)
theorem TP.np {σ R : RS} (h : NP σ R) (hi : NI σ) (hc : σ.i 11 < σ.i 12) (hw : WD σ) (h5 : R.i 10 = 5 → σ.i 11 + 2 ≤ σ.i 12) : TP σ R := by
  obtain ⟨a1, a2, a3, a4, a5, a6, a7, a8⟩ := h
  obtain ⟨b1, b2, b3, b4, b5⟩ := hi
  have ht := a1.taped
  refine ⟨a1, by rw [a2]; exact b1, by rw [a2, a3]; exact b2, by rw [a3, ht]; exact b3, Or.inr ⟨a4, by rw [a2, a3]; exact hc⟩, a6, a7, fun q => ?_, a5, by rw [a2, a3]; exact h5⟩
  rw [a2, a3]
  obtain ⟨j, hj, he⟩ := a8 q
  have h256 := hw j hj
  rw [he] at h256
  rcases b5 with ⟨q1, -, -⟩ | ⟨-, q2⟩ | q3
  · rw [q1] at hc; exact absurd hc (by grind)
  · exact absurd h256 (Int64.not_le.mpr q2)
  · exact q3
theorem p_rn5 {N : Nat} (hN : 100 ≤ N) : ∀ (n : Nat) (σ : RS), NI σ → WD σ → (σ.i 2).toInt - (σ.i 12).toInt < n → ok (f_X12_readName_5 N n σ) (TQ σ)
  | 0, σ, h, hw, hn => by
    have := le_int h.2.2.1
    omega
  | n+1, σ, h, hw, hn => by
    show ok (b_X12_readName_5 N (f_X12_readName_5 N n) σ) _
    unfold b_X12_readName_5
    have hi := h
    obtain ⟨b1, b2, b3, b4, b5⟩ := h
    have h12 : 0 ≤ σ.i 12 := Int32.le_trans b1 b2
    have more : bt σ (σ.i 12) ≠ 0 → 0 ≤ bt σ (σ.i 12) ∧ bt σ (σ.i 12) ≤ 122 → ok (f_X12_readName_5 N n ((σ.setL ((σ.l <<< ((8 : Int32).toInt64 &&& 63)) ||| (bt σ (σ.i 12)).toInt64)).setI 12 (σ.i 12 + 1))) (TQ σ) := by
      intro hne hr
      have hlt := bt_in hne
      have e1 : (1 : Int32).toInt = 1 := by decide
      have e9 : (900 : Int32).toInt = 900 := by decide
      have q1 := lt_int hlt
      have q2 := le_int b4
      have q3 := le_int h12
      rw [z_t0] at q3
      have ha : (σ.i 12 + 1).toInt = (σ.i 12).toInt + 1 := by rw [toInt_add] <;> rw [e1] <;> omega
      refine ok_imp (p_rn5 hN n _ ?_ hw ?_) (fun R hR => ?_)
      · refine ⟨b1, ?_, ?_, b4, ?_⟩
        · show σ.i 11 ≤ σ.i 12 + 1; grind
        · show σ.i 12 + 1 ≤ σ.i 2; grind
        · rcases b5 with ⟨r1, r2, r3, r4⟩ | ⟨r1, r2⟩ | r3
          · refine Or.inr (Or.inl ⟨?_, ?_⟩)
            · show σ.i 12 + 1 = σ.i 11 + 1; rw [r1]
            · show (σ.l <<< ((8 : Int32).toInt64 &&& 63)) ||| (bt σ (σ.i 12)).toInt64 < 256
              rw [r2]
              exact or_1 hr.1 hr.2
          · refine Or.inr (Or.inr ?_)
            show σ.i 11 + 2 ≤ σ.i 12 + 1
            grind
          · refine Or.inr (Or.inr ?_)
            show σ.i 11 + 2 ≤ σ.i 12 + 1
            grind
      · show (σ.i 2).toInt - (σ.i 12 + 1).toInt < n
        omega
      · exact ⟨⟨((TU.l _ _).tr (TU.i12 _ _)).tr hR.1.1, hR.1.2⟩, hR.2⟩
    rw [e_at h12 b4]
    show ok ((f_X12_isLetter N σ (bt σ (σ.i 12))).bind _) _
    rw [e_isLetter]
    refine ok_ite (fun c => ?_) (fun c => ?_)
    · show ok ((f_X12_at N σ (σ.i 12)).bind _) _
      rw [e_at h12 b4]
      show ok ((f_X12_isDigit N σ (bt σ (σ.i 12))).bind _) _
      rw [e_isDigit]
      refine ok_ite (fun c2 => ?_) (fun c2 => ?_)
      · have hne : σ.i 11 < σ.i 12 := by
          rcases b5 with ⟨r1, r2, r3, r4⟩ | ⟨r1, r2⟩ | r3
          · have := iff0 c
            rw [← r1] at r3 r4
            exact absurd ⟨r3, r4⟩ this
          · grind
          · grind
        have hz9 : σ.i 11 ≤ 900 := by grind
        refine ok_ite (fun c3 => ?_) (fun c3 => ?_)
        · show ok ((f_X12_at N σ (σ.i 11)).bind _) _
          rw [e_at b1 b4]
          show ok ((f_X12_at N σ (σ.i 11 + 1)).bind _) _
          rw [e_at (by grind) b4]
          have lift : ∀ {R : RS}, NZ (σ.i 12 - σ.i 11) (σ.setI 10 2) R → TQ σ R := fun hR => ⟨TP.np (hR.1.of (TU.i10 _ _) rfl rfl rfl) hi hne hw (fun q => by have := hR.2 q; grind), hR.1.2.1⟩
          refine ok_ite (fun c4 => ok_ite (fun _ => ok_imp (p_rn135 hN _ _ _ _ rfl b1 hz9 b4) (fun R hR => lift hR)) (fun _ => ok_ite (fun _ => ok_imp (p_rn135 hN _ _ _ _ rfl b1 hz9 b4) (fun R hR => lift hR)) (fun _ => ok_imp (p_rn168 hN _ _ _ _ rfl b1 hz9 b4) (fun R hR => lift hR)))) (fun c4 => ok_imp (p_rn168 hN _ _ _ _ rfl b1 hz9 b4) (fun R hR => lift hR))
        · refine ok_some ⟨⟨TU.i10 _ _, b1, b2, b3, Or.inr ⟨?_, hne⟩, ?_, ?_, ?_, ?_, ?_⟩, rfl⟩
          · show (6 : Int32) ≠ 0; decide
          · intro q; have q : (6 : Int32) = 3 ∨ (6 : Int32) = 4 := q; exact absurd q (by decide)
          · intro q; have q : (6 : Int32) = 5 := q; exact absurd q (by decide)
          · intro q; have q : (410 : Int32) ≤ 6 := q; exact absurd q (by decide)
          · show (6 : Int32) ≤ 434; decide
          · intro q; have q : (6 : Int32) = 5 := q; exact absurd q (by decide)
      · have hd := ift c2
        show ok ((f_X12_at N σ (σ.i 12)).bind _) _
        rw [e_at h12 b4]
        exact more (by grind) (by grind)
    · have hd := ift c
      show ok ((f_X12_at N σ (σ.i 12)).bind _) _
      rw [e_at h12 b4]
      exact more (by grind) (by grind)
theorem p_readSign {N : Nat} (σ : RS) (x1 : Int32) (b1 : 0 ≤ σ.i 11) (b2 : σ.i 12 = σ.i 11) (b3 : σ.i 12 < σ.i 2) (b4 : σ.i 2 ≤ 900) : ok (f_X12_readSign N σ x1) (TQ σ) := by
  have base : ∀ (v : Int32) (w : Int32), v ≠ 0 → v ≠ 3 → v ≠ 4 → v ≠ 5 → v < 410 → σ.i 12 + 1 ≤ w → w ≤ σ.i 2 → TQ σ ((σ.setI 12 w).setI 10 v) := by
    intro v w h0 h3 h4 h5 h410 hw1 hw2
    refine ⟨⟨(TU.i12 _ _).tr (TU.i10 _ _), b1, ?_, hw2, Or.inr ⟨h0, ?_⟩, ?_, ?_, ?_, ?_, fun q => absurd q h5⟩, rfl⟩
    · show σ.i 11 ≤ w; grind
    · show σ.i 11 < w; grind
    · intro q; rcases q with q | q
      · exact absurd q h3
      · exact absurd q h4
    · intro q; exact absurd q h5
    · intro q; have q : 410 ≤ v := q; exact absurd q (by grind)
    · show v ≤ 434; grind
  have e : ∀ (v : Int32), v ≠ 0 → v ≠ 3 → v ≠ 4 → v ≠ 5 → v < 410 → TQ σ ((σ.setI 12 (σ.i 12 + 1)).setI 10 v) := fun v h0 h3 h4 h5 h6 => base v _ h0 h3 h4 h5 h6 (Int32.le_refl _) (by grind)
  have s299 : x1 ≠ 0 → x1 ≠ 3 → x1 ≠ 4 → x1 ≠ 5 → x1 < 410 → ok (f_X12_readSign_299 N (σ.setI 12 (σ.i 12 + 1)) x1) (TQ σ) := fun h0 h3 h4 h5 h6 => ok_some (e x1 h0 h3 h4 h5 h6)
  have s165 : ∀ x3 : Int32, (x3 ≤ 0 ∨ (bt (σ.setI 12 (σ.i 12 + 1)) (σ.i 12 + 1) ≠ 0 ∧ 300 ≤ x3 ∧ x3 ≤ 307)) → ok (f_X12_readSign_165 N (σ.setI 12 (σ.i 12 + 1)) x1 x3) (TQ σ) := by
    intro x3 h3
    unfold f_X12_readSign_165
    refine ok_ite (fun c => ?_) (fun c => ?_)
    · have t : ∀ v : Int32, v ≠ 0 → v ≠ 3 → v ≠ 4 → v ≠ 5 → v < 410 → x1 = v → ok (f_X12_readSign_299 N (σ.setI 12 (σ.i 12 + 1)) x1) (TQ σ) := fun v h0 h3 h4 h5 h6 q => s299 (q ▸ h0) (q ▸ h3) (q ▸ h4) (q ▸ h5) (q ▸ h6)
      refine ok_ite (t _ (by decide) (by decide) (by decide) (by decide) (by decide)) (fun _ => ?_)
      refine ok_ite (t _ (by decide) (by decide) (by decide) (by decide) (by decide)) (fun _ => ?_)
      refine ok_ite (t _ (by decide) (by decide) (by decide) (by decide) (by decide)) (fun _ => ?_)
      refine ok_ite (t _ (by decide) (by decide) (by decide) (by decide) (by decide)) (fun _ => ?_)
      refine ok_ite (t _ (by decide) (by decide) (by decide) (by decide) (by decide)) (fun _ => ?_)
      refine ok_ite (t _ (by decide) (by decide) (by decide) (by decide) (by decide)) (fun _ => ?_)
      refine ok_ite (t _ (by decide) (by decide) (by decide) (by decide) (by decide)) (fun _ => ?_)
      refine ok_ite (t _ (by decide) (by decide) (by decide) (by decide) (by decide)) (fun _ => ?_)
      refine ok_ite (t _ (by decide) (by decide) (by decide) (by decide) (by decide)) (fun _ => ?_)
      refine ok_ite (t _ (by decide) (by decide) (by decide) (by decide) (by decide)) (fun _ => ?_)
      refine ok_ite (t _ (by decide) (by decide) (by decide) (by decide) (by decide)) (fun _ => ?_)
      refine ok_ite (t _ (by decide) (by decide) (by decide) (by decide) (by decide)) (fun _ => ?_)
      refine ok_ite (t _ (by decide) (by decide) (by decide) (by decide) (by decide)) (fun _ => ?_)
      refine ok_ite (t _ (by decide) (by decide) (by decide) (by decide) (by decide)) (fun _ => ?_)
      refine ok_ite (t _ (by decide) (by decide) (by decide) (by decide) (by decide)) (fun _ => ?_)
      refine ok_ite (t _ (by decide) (by decide) (by decide) (by decide) (by decide)) (fun _ => ?_)
      refine ok_ite (t _ (by decide) (by decide) (by decide) (by decide) (by decide)) (fun _ => ?_)
      refine ok_ite (t _ (by decide) (by decide) (by decide) (by decide) (by decide)) (fun _ => ?_)
      refine ok_ite (t _ (by decide) (by decide) (by decide) (by decide) (by decide)) (fun _ => ?_)
      exact ok_some (e 6 (by decide) (by decide) (by decide) (by decide) (by decide))
    · rcases h3 with h3 | ⟨h3, h4, h5⟩
      · exact absurd h3 c
      · have hlt : σ.i 12 + 1 < σ.i 2 := bt_in h3
        refine ok_some ?_
        have := base x3 (σ.i 12 + 1 + 1) (by grind) (by grind) (by grind) (by grind) (by grind) (by grind) (by grind)
        obtain ⟨⟨⟨a1, a2, a3⟩, a4⟩, a5⟩ := this
        refine ⟨⟨⟨?_, a2, a3⟩, a4⟩, a5⟩
        intro j d1 d2 d3 d4
        show (if j = 10 then x3 else if j = 12 then σ.i 12 + 1 + 1 else if j = 12 then σ.i 12 + 1 else σ.i j) = σ.i j
        rw [if_neg d1, if_neg d3, if_neg d3]
  have z : ∀ v : Int32, bt (σ.setI 12 (σ.i 12 + 1)) (σ.i 12 + 1) = v → v ≠ 0 → bt (σ.setI 12 (σ.i 12 + 1)) (σ.i 12 + 1) ≠ 0 := fun v q h => q ▸ h
  unfold f_X12_readSign
  rw [e_at (σ := σ.setI 12 (σ.i 12 + 1)) (by grind) b4]
  have lo : ok (f_X12_readSign_165 N (σ.setI 12 (σ.i 12 + 1)) x1 0) (TQ σ) := s165 0 (Or.inl (Int32.le_refl _))
  have st : ∀ (b : Int32) (x3 : Int32), b ≠ 0 → 300 ≤ x3 → x3 ≤ 307 → bt (σ.setI 12 (σ.i 12 + 1)) (σ.i 12 + 1) = b → ok (f_X12_readSign_165 N (σ.setI 12 (σ.i 12 + 1)) x1 x3) (TQ σ) := fun b x3 hb h1 h2 q => s165 x3 (Or.inr ⟨z b q hb, h1, h2⟩)
  have r145 : ok (f_X12_readSign_145 N (σ.setI 12 (σ.i 12 + 1)) x1 (bt (σ.setI 12 (σ.i 12 + 1)) (σ.i 12 + 1))) (TQ σ) := ok_ite (fun _ => ok_ite (fun q => st _ _ (by decide) (by decide) (by decide) q) (fun _ => lo)) (fun _ => lo)
  have r127 : ok (f_X12_readSign_127 N (σ.setI 12 (σ.i 12 + 1)) x1 (bt (σ.setI 12 (σ.i 12 + 1)) (σ.i 12 + 1))) (TQ σ) := ok_ite (fun _ => ok_ite (fun q => st _ _ (by decide) (by decide) (by decide) q) (fun _ => r145)) (fun _ => r145)
  have r109 : ok (f_X12_readSign_109 N (σ.setI 12 (σ.i 12 + 1)) x1 (bt (σ.setI 12 (σ.i 12 + 1)) (σ.i 12 + 1))) (TQ σ) := ok_ite (fun _ => ok_ite (fun q => st _ _ (by decide) (by decide) (by decide) q) (fun _ => r127)) (fun _ => r127)
  have r91 : ok (f_X12_readSign_91 N (σ.setI 12 (σ.i 12 + 1)) x1 (bt (σ.setI 12 (σ.i 12 + 1)) (σ.i 12 + 1))) (TQ σ) := ok_ite (fun _ => ok_ite (fun q => st _ _ (by decide) (by decide) (by decide) q) (fun _ => r109)) (fun _ => r109)
  have r73 : ok (f_X12_readSign_73 N (σ.setI 12 (σ.i 12 + 1)) x1 (bt (σ.setI 12 (σ.i 12 + 1)) (σ.i 12 + 1))) (TQ σ) := ok_ite (fun _ => ok_ite (fun q => st _ _ (by decide) (by decide) (by decide) q) (fun _ => r91)) (fun _ => r91)
  have r55 : ok (f_X12_readSign_55 N (σ.setI 12 (σ.i 12 + 1)) x1 (bt (σ.setI 12 (σ.i 12 + 1)) (σ.i 12 + 1))) (TQ σ) := ok_ite (fun _ => ok_ite (fun q => st _ _ (by decide) (by decide) (by decide) q) (fun _ => r73)) (fun _ => r73)
  have r37 : ok (f_X12_readSign_37 N (σ.setI 12 (σ.i 12 + 1)) x1 (bt (σ.setI 12 (σ.i 12 + 1)) (σ.i 12 + 1))) (TQ σ) := ok_ite (fun _ => ok_ite (fun q => st _ _ (by decide) (by decide) (by decide) q) (fun _ => r55)) (fun _ => r55)
  exact ok_ite (fun _ => ok_ite (fun q => st _ _ (by decide) (by decide) (by decide) q) (fun _ => r37)) (fun _ => r37)
/-- the digits -/
theorem p_n116 {N : Nat} : ∀ (n : Nat) (σ : RS), 0 ≤ σ.i 11 → σ.i 11 ≤ σ.i 12 → σ.i 12 ≤ σ.i 2 → σ.i 2 ≤ 900 → (σ.i 11 < σ.i 12 ∨ 48 ≤ bt σ (σ.i 12) ∧ bt σ (σ.i 12) ≤ 57) → (σ.i 2).toInt - (σ.i 12).toInt < n → ok (f_X12_next_116 N n σ) (TQ σ)
  | 0, σ, b1, b2, b3, b4, b5, hn => by
    have := le_int b3
    omega
  | n+1, σ, b1, b2, b3, b4, b5, hn => by
    show ok (b_X12_next_116 N (f_X12_next_116 N n) σ) _
    unfold b_X12_next_116 f_X12_next_211
    have h12 : 0 ≤ σ.i 12 := Int32.le_trans b1 b2
    rw [e_at h12 b4]
    show ok ((f_X12_isDigit N σ (bt σ (σ.i 12))).bind _) _
    rw [e_isDigit]
    refine ok_ite (fun c => ?_) (fun c => ?_)
    · have hne : σ.i 11 < σ.i 12 := by
        rcases b5 with b5 | b5
        · exact b5
        · exact absurd b5 (iff0 c)
      have fin : ∀ v : Int32, v = 1 ∨ v = 6 → TQ σ (σ.setI 10 v) := by
        intro v hv
        refine ⟨⟨TU.i10 _ _, b1, b2, b3, Or.inr ⟨?_, hne⟩, ?_, ?_, ?_, ?_, fun q => by have q : v = 5 := q; rcases hv with rfl | rfl <;> exact absurd q (by decide)⟩, rfl⟩
        · show v ≠ 0; rcases hv with rfl | rfl <;> decide
        · intro q; have q : v = 3 ∨ v = 4 := q; rcases hv with rfl | rfl <;> exact absurd q (by decide)
        · intro q; have q : v = 5 := q; rcases hv with rfl | rfl <;> exact absurd q (by decide)
        · intro q; have q : 410 ≤ v := q; rcases hv with rfl | rfl <;> exact absurd q (by decide)
        · show v ≤ 434; rcases hv with rfl | rfl <;> decide
      exact ok_ite (fun _ => ok_some (fin 1 (Or.inl rfl))) (fun _ => ok_some (fin 6 (Or.inr rfl)))
    · have hd := ift c
      have hlt : σ.i 12 < σ.i 2 := bt_in (by grind)
      have e1 : (1 : Int32).toInt = 1 := by decide
      have e9 : (900 : Int32).toInt = 900 := by decide
      have q1 := lt_int hlt
      have q2 := le_int b4
      have q3 := le_int h12
      rw [z_t0] at q3
      have ha : (σ.i 12 + 1).toInt = (σ.i 12).toInt + 1 := by rw [toInt_add] <;> rw [e1] <;> omega
      have go : ∀ v : Int32, ok (f_X12_next_116 N n ((σ.setI 14 v).setI 12 (σ.i 12 + 1))) (TQ σ) := by
        intro v
        refine ok_imp (p_n116 n _ b1 ?_ ?_ b4 (Or.inl ?_) ?_) (fun R hR => ⟨⟨((TU.i14 _ _).tr (TU.i12 _ _)).tr hR.1.1, hR.1.2⟩, hR.2⟩)
        · show σ.i 11 ≤ σ.i 12 + 1; grind
        · show σ.i 12 + 1 ≤ σ.i 2; grind
        · show σ.i 11 < σ.i 12 + 1; grind
        · show (σ.i 2).toInt - (σ.i 12 + 1).toInt < n; omega
      refine ok_ite (fun _ => go _) (fun _ => ?_)
      show ok ((f_X12_at N σ (σ.i 12)).bind _) _
      rw [e_at h12 b4]
      exact go _
theorem p_n68 {N : Nat} (hN : 1000 ≤ N) (σ : RS) (h12 : 0 ≤ σ.i 12) (b3 : σ.i 12 ≤ σ.i 2) (b4 : σ.i 2 ≤ 900) (hw : WD σ) : ok (f_X12_next_68 N σ) (fun R => TP σ R ∧ R.i 11 = σ.i 12) := by
  unfold f_X12_next_68
  have e9 : (900 : Int32).toInt = 900 := by decide
  have q2 := le_int b4
  have q3 := le_int h12
  rw [z_t0] at q3
  rw [e_at (σ := σ.setI 11 (σ.i 12)) h12 b4]
  refine ok_ite (fun c => ok_some ?_) (fun c => ?_)
  · have c : σ.i 12 = σ.i 2 := c
    refine ⟨⟨(TU.i11 _ _).tr (TU.i10 _ _), h12, Int32.le_refl _, b3, Or.inl ⟨rfl, c⟩, ?_, ?_, ?_, ?_, fun q => by have q : (0 : Int32) = 5 := q; exact absurd q (by decide)⟩, rfl⟩
    · intro q; have q : (0 : Int32) = 3 ∨ (0 : Int32) = 4 := q; exact absurd q (by decide)
    · intro q; have q : (0 : Int32) = 5 := q; exact absurd q (by decide)
    · intro q; have q : (410 : Int32) ≤ 0 := q; exact absurd q (by decide)
    · show (0 : Int32) ≤ 434; decide
  · have c : ¬ σ.i 12 = σ.i 2 := c
    have hlt : σ.i 12 < σ.i 2 := by grind
    have tr : ∀ {R : RS}, TQ (σ.setI 11 (σ.i 12)) R → TP σ R ∧ R.i 11 = σ.i 12 := fun hR => ⟨⟨(TU.i11 _ _).tr hR.1.1, hR.1.2⟩, hR.2⟩
    show ok ((f_X12_isDigit N (σ.setI 11 (σ.i 12)) (bt (σ.setI 11 (σ.i 12)) (σ.i 12))).bind _) _
    rw [e_isDigit]
    refine ok_ite (fun c2 => ?_) (fun c2 => ?_)
    · show ok ((f_X12_isLetter N (σ.setI 11 (σ.i 12)) (bt (σ.setI 11 (σ.i 12)) (σ.i 12))).bind _) _
      rw [e_isLetter]
      refine ok_ite (fun c3 => ?_) (fun c3 => ?_)
      · exact ok_bind (p_readSign (N := N) (σ.setI 11 (σ.i 12)) _ h12 rfl hlt b4) (fun R hR => ok_some (tr hR))
      · have hd := ift c3
        refine ok_bind (Q := TQ (σ.setI 11 (σ.i 12))) ?_ (fun R hR => ok_some (tr hR))
        unfold f_X12_readName
        refine ok_imp (p_rn5 (by omega) N ((σ.setI 11 (σ.i 12)).setL 0) ⟨h12, Int32.le_refl _, b3, b4, Or.inl ⟨rfl, rfl, hd.1, hd.2⟩⟩ hw ?_) (fun R hR => ⟨⟨(TU.l _ _).tr hR.1.1, hR.1.2⟩, hR.2⟩)
        show (σ.i 2).toInt - (σ.i 12).toInt < N
        omega
    · have hd := ift c2
      refine ok_imp (p_n116 N ((σ.setI 11 (σ.i 12)).setI 14 0) h12 (Int32.le_refl _) b3 b4 (Or.inr hd) ?_) (fun R hR => tr ⟨⟨(TU.i14 _ _).tr hR.1.1, hR.1.2⟩, hR.2⟩)
      show (σ.i 2).toInt - (σ.i 12).toInt < N
      omega
theorem p_n18 {N : Nat} (hN : 1000 ≤ N) : ∀ (n : Nat) (σ : RS), 0 ≤ σ.i 12 → σ.i 12 ≤ σ.i 2 → σ.i 2 ≤ 900 → WD σ → (σ.i 2).toInt - (σ.i 12).toInt < n → ok (f_X12_next_18 N n σ) (fun R => TP σ R ∧ σ.i 12 ≤ R.i 11)
  | 0, σ, h12, b3, b4, hw, hn => by
    have := le_int b3
    omega
  | n+1, σ, h12, b3, b4, hw, hn => by
    show ok (b_X12_next_18 N (f_X12_next_18 N n) σ) _
    unfold b_X12_next_18
    have fin : ok (f_X12_next_68 N σ) (fun R => TP σ R ∧ σ.i 12 ≤ R.i 11) := by
      exact ok_imp (p_n68 hN σ h12 b3 b4 hw) (fun R hR => ⟨hR.1, by rw [hR.2]; exact Int32.le_refl _⟩)
    refine ok_ite (fun c => fin) (fun c => ?_)
    have hlt : σ.i 12 < σ.i 2 := by grind
    have e1 : (1 : Int32).toInt = 1 := by decide
    have e9 : (900 : Int32).toInt = 900 := by decide
    have q1 := lt_int hlt
    have q2 := le_int b4
    have q3 := le_int h12
    rw [z_t0] at q3
    have ha : (σ.i 12 + 1).toInt = (σ.i 12).toInt + 1 := by rw [toInt_add] <;> rw [e1] <;> omega
    have go : ok (f_X12_next_18 N n (σ.setI 12 (σ.i 12 + 1))) (fun R => TP σ R ∧ σ.i 12 ≤ R.i 11) := by
      refine ok_imp (p_n18 hN n _ ?_ ?_ b4 hw ?_) (fun R hR => ⟨⟨(TU.i12 _ _).tr hR.1.1, hR.1.2⟩, ?_⟩)
      · show 0 ≤ σ.i 12 + 1; grind
      · show σ.i 12 + 1 ≤ σ.i 2; grind
      · show (σ.i 2).toInt - (σ.i 12 + 1).toInt < n; omega
      · have : σ.i 12 + 1 ≤ R.i 11 := hR.2
        grind
    rw [e_at h12 b4]
    refine ok_ite (fun c => go) (fun c => ?_)
    show ok ((f_X12_at N σ (σ.i 12)).bind _) _
    rw [e_at h12 b4]
    exact ok_ite (fun c => go) (fun c => fin)
/-- next: with a fault nothing; else a token, at or behind the old place -/
theorem p_next {N : Nat} (hN : 1000 ≤ N) (σ : RS) (h12 : 0 ≤ σ.i 12) (b3 : σ.i 12 ≤ σ.i 2) (b4 : σ.i 2 ≤ 900) (hw : WD σ) : ok (f_X12_next N σ) (fun R => (¬ σ.i 15 = 0 ∧ R = σ) ∨ (σ.i 15 = 0 ∧ TP (σ.setI 17 (σ.i 17 + 1)) R ∧ σ.i 12 ≤ R.i 11)) := by
  unfold f_X12_next
  refine ok_ite (fun c => ?_) (fun c => ok_some (Or.inl ⟨c, rfl⟩))
  have e9 : (900 : Int32).toInt = 900 := by decide
  have q2 := le_int b4
  have q3 := le_int h12
  rw [z_t0] at q3
  refine ok_imp (p_n18 hN N (σ.setI 17 (σ.i 17 + 1)) h12 b3 b4 hw ?_) (fun R hR => Or.inr ⟨c, hR.1, hR.2⟩)
  show (σ.i 2).toInt - (σ.i 12).toInt < N
  omega
