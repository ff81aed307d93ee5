/-- what running leaves as it is: everything but its own numbers -/
def RX (s t : RS) : Prop := t.l = s.l ∧ t.b = s.b ∧ (∀ j : Nat, j < 80 → t.i j = s.i j) ∧ (∀ k : Nat, k < 82 → t.a k = s.a k)
theorem RX.rf (s : RS) : RX s s := ⟨rfl, rfl, fun _ _ => rfl, fun _ _ => rfl⟩
theorem RX.tr {s t u : RS} (h1 : RX s t) (h2 : RX t u) : RX s u := ⟨h2.1.trans h1.1, h2.2.1.trans h1.2.1, fun j h => (h2.2.2.1 j h).trans (h1.2.2.1 j h), fun k h => (h2.2.2.2 k h).trans (h1.2.2.2 k h)⟩
theorem RX.i (s : RS) (k : Nat) (v : Int32) (hk : 80 ≤ k) : RX s (s.setI k v) := ⟨rfl, rfl, fun j h => if_neg (by omega), fun _ _ => rfl⟩
theorem RX.a (s : RS) (k j : Nat) (v : Int32) (hk : 82 ≤ k) : RX s (s.setA k j v) := ⟨rfl, rfl, fun _ _ => rfl, fun m h => if_neg (by omega)⟩
theorem p_row (N : Nat) (σ : RS) (x y : Int32) (h0 : 0 ≤ σ.i 81) (h1 : σ.i 81 ≤ 200) : ok (f_X12_row N σ x y) (fun R => RX σ R ∧ 0 ≤ R.i 81 ∧ R.i 81 ≤ 200 ∧ (∀ j : Nat, j ≠ 81 → R.i j = σ.i j) ∧ (∀ k : Nat, k ≠ 82 → k ≠ 83 → R.a k = σ.a k)) := by
  unfold f_X12_row
  refine ok_ite (fun c => ok_some ⟨RX.rf _, h0, h1, fun _ _ => rfl, fun _ _ _ => rfl⟩) (fun c => ?_)
  have hlt : σ.i 81 < 200 := by grind
  refine ok_chk (ib_of (m := 200) (by decide) h0 hlt) (ok_some ⟨((RX.a _ _ _ _ (by decide)).tr (RX.a _ _ _ _ (by decide))).tr (RX.i _ _ _ (by decide)), ?_, ?_, ?_, ?_⟩)
  · show 0 ≤ σ.i 81 + 1; grind
  · show σ.i 81 + 1 ≤ 200; grind
  · intro j hj; exact if_neg hj
  · intro k h2 h3
    show (if k = 83 then _ else if k = 82 then _ else σ.a k) = σ.a k
    rw [if_neg h3, if_neg h2]
theorem p_put (N : Nat) (σ : RS) (x : Int32) (h0 : 0 ≤ (σ.i 93).toInt) (h1 : (σ.i 93).toInt ≤ 1300) : ok (f_X12_put N σ x) (fun R => RX σ R ∧ (R.i 93).toInt = (σ.i 93).toInt + 1 ∧ (∀ j : Nat, j ≠ 93 → R.i j = σ.i j) ∧ (∀ k : Nat, k ≠ 94 → R.a k = σ.a k) ∧ R.a 94 = upd (σ.a 94) (σ.i 93).toNatClampNeg x) := by
  unfold f_X12_put
  refine ok_chk ⟨h0, by omega⟩ (ok_some ⟨(RX.a _ _ _ _ (by decide)).tr (RX.i _ _ _ (by decide)), ?_, fun j hj => if_neg hj, fun k hk => if_neg hk, rfl⟩)
  have e1 : (1 : Int32).toInt = 1 := by decide
  show (σ.i 93 + 1).toInt = _
  rw [toInt_add] <;> rw [e1] <;> omega
theorem p_take (N : Nat) (σ : RS) (h0 : 1 ≤ (σ.i 93).toInt) (h1 : (σ.i 93).toInt ≤ 1301) : ok (f_X12_take N σ) (fun R => RX σ R.2 ∧ (R.2.i 93).toInt = (σ.i 93).toInt - 1 ∧ (∀ j : Nat, j ≠ 93 → R.2.i j = σ.i j) ∧ R.2.a = σ.a ∧ R.1 = σ.a 94 ((σ.i 93).toInt - 1).toNat) := by
  unfold f_X12_take
  have e1 : (1 : Int32).toInt = 1 := by decide
  have es : (σ.i 93 - 1).toInt = (σ.i 93).toInt - 1 := by rw [toInt_sub] <;> rw [e1] <;> omega
  refine ok_chk ⟨by omega, by omega⟩ (ok_some ⟨RX.i _ _ _ (by decide), es, fun j hj => if_neg hj, rfl, ?_⟩)
  show σ.a 94 ((σ.i 93 - 1).toInt.toNat) = _
  rw [es]
theorem p_step (N : Nat) (σ : RS) (h0 : 0 ≤ σ.i 80) (h1 : σ.i 80 ≤ 1000) : ok (f_X12_step N σ) (fun R => RX σ R ∧ R.a = σ.a ∧ ((R.i 92 = -1 ∧ R.i 80 = σ.i 80 ∧ R.i 115 = 5 ∧ (∀ j : Nat, j ≠ 92 → j ≠ 115 → R.i j = σ.i j)) ∨ ((R.i 80).toInt = (σ.i 80).toInt + 1 ∧ 0 ≤ R.i 80 ∧ R.i 80 ≤ 1000 ∧ (∀ j : Nat, j ≠ 80 → R.i j = σ.i j)))) := by
  unfold f_X12_step
  refine ok_ite (fun c => ok_some ⟨(RX.i _ _ _ (by decide)).tr (RX.i _ _ _ (by decide)), rfl, Or.inl ⟨rfl, rfl, rfl, ?_⟩⟩) (fun c => ok_some ⟨RX.i _ _ _ (by decide), rfl, Or.inr ⟨?_, ?_, ?_, fun j hj => if_neg hj⟩⟩)
  · intro j h2 h3
    show (if j = 92 then _ else if j = 115 then _ else σ.i j) = σ.i j
    rw [if_neg h2, if_neg h3]
  · have e1 : (1 : Int32).toInt = 1 := by decide
    have e9 : (1000 : Int32).toInt = 1000 := by decide
    have a := le_int h0
    have b := le_int h1
    rw [z_t0] at a
    show (σ.i 80 + 1).toInt = _
    rw [toInt_add] <;> rw [e1] <;> omega
  · show 0 ≤ σ.i 80 + 1; grind
  · show σ.i 80 + 1 ≤ 1000; grind
/-- raise: a new thing, in range -/
theorem p_raise (N : Nat) (σ : RS) (x y : Int32) (h0 : 0 ≤ σ.i 85) (h1 : σ.i 85 ≤ 3200) : ok (f_X12_raise N σ x y) (fun R => RX σ R ∧ R.i 110 = 3 ∧ 0 ≤ (R.i 114).toInt ∧ (R.i 114).toInt < 3200 ∧ 0 ≤ R.i 85 ∧ R.i 85 ≤ 3200 ∧ (∀ j : Nat, j ≠ 85 → j ≠ 110 → j ≠ 114 → R.i j = σ.i j) ∧ (∀ k : Nat, k ≠ 86 → k ≠ 87 → k ≠ 88 → R.a k = σ.a k) ∧ R.a 86 = upd (σ.a 86) (R.i 114).toNatClampNeg x ∧ R.a 88 = upd (σ.a 88) (R.i 114).toNatClampNeg 0) := by
  have key : ∀ t : Int32, 0 ≤ t → t < 3200 → ok (f_X12_raise_24 N (σ.setI 114 t) x y) (fun R => RX σ R ∧ R.i 110 = 3 ∧ 0 ≤ (R.i 114).toInt ∧ (R.i 114).toInt < 3200 ∧ 0 ≤ R.i 85 ∧ R.i 85 ≤ 3200 ∧ (∀ j : Nat, j ≠ 85 → j ≠ 110 → j ≠ 114 → R.i j = σ.i j) ∧ (∀ k : Nat, k ≠ 86 → k ≠ 87 → k ≠ 88 → R.a k = σ.a k) ∧ R.a 86 = upd (σ.a 86) (R.i 114).toNatClampNeg x ∧ R.a 88 = upd (σ.a 88) (R.i 114).toNatClampNeg 0) := by
    intro t ht0 ht1
    unfold f_X12_raise_24
    have hib : ib t 3200 := ib_of (m := 3200) (by decide) ht0 ht1
    refine ok_chk hib (ok_some ⟨?_, rfl, hib.1, hib.2, ?_, ?_, ?_, ?_, rfl, rfl⟩)
    · exact (((((RX.i _ _ _ (by decide)).tr (RX.i _ _ _ (by decide))).tr (RX.a _ _ _ _ (by decide))).tr (RX.a _ _ _ _ (by decide))).tr (RX.a _ _ _ _ (by decide))).tr (RX.i _ _ _ (by decide))
    · show 0 ≤ t + 1; grind
    · show t + 1 ≤ 3200; grind
    · intro j h2 h3 h4
      show (if j = 110 then _ else if j = 85 then _ else if j = 114 then _ else σ.i j) = σ.i j
      rw [if_neg h3, if_neg h2, if_neg h4]
    · intro k h2 h3 h4
      show (if k = 88 then _ else if k = 87 then _ else if k = 86 then _ else σ.a k) = σ.a k
      rw [if_neg h4, if_neg h3, if_neg h2]
  unfold f_X12_raise
  exact ok_ite (fun c => key 3199 (by decide) (by decide)) (fun c => key (σ.i 85) h0 (by grind))
