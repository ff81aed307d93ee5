/-! reading: try: its head -/
/-- what the head of a try changes -/
def HST (t id : Nat) (s X : RS) : Prop := (∀ j : Nat, (j < 10 ∨ 18 ≤ j) → j ≠ 19 → j ≠ 20 → j ≠ 29 → j ≠ 52 → j ≠ 53 → j ≠ 56 → X.i j = s.i j) ∧ cdI s ≤ cdI X ∧ trI X = trI s + 1 ∧ deI s ≤ deI X ∧ (∀ k : Nat, k < 64 ∨ 74 ≤ k → ¬ (21 ≤ k ∧ k ≤ 23) → k ≠ 30 → k ≠ 31 → k ≠ 57 → k ≠ 58 → X.a k = s.a k) ∧ (∀ k j : Nat, 21 ≤ k → k ≤ 23 → (j : Int) < cdI s → X.a k j = s.a k j) ∧ (∀ j : Nat, j ≠ id → X.a 30 j = s.a 30 j ∧ X.a 31 j = s.a 31 j) ∧ gv X 30 id = -1 ∧ (∀ j : Nat, (j : Int) ≠ waI s → X.a 57 j = s.a 57 j ∧ X.a 58 j = s.a 58 j) ∧ (∀ k j : Nat, 64 ≤ k → k ≤ 73 → j < t → X.a k j = s.a k j) ∧ X.b 9 = s.b 9
theorem HST.ix {t id : Nat} {s X : RS} (h : HST t id s X) {j : Nat} (h0 : j < 10 ∨ 18 ≤ j) (h1 : j ≠ 19) (h2 : j ≠ 20) (h3 : j ≠ 29) (h4 : j ≠ 52) (h5 : j ≠ 53) (h6 : j ≠ 56) : X.i j = s.i j := h.1 j h0 h1 h2 h3 h4 h5 h6
theorem HST.gx {t id : Nat} {s X : RS} (h : HST t id s X) {k : Nat} (j : Nat) (h0 : k < 64) (h1 : ¬ (21 ≤ k ∧ k ≤ 23)) (h2 : k ≠ 30) (h3 : k ≠ 31) (h4 : k ≠ 57) (h5 : k ≠ 58) : gv X k j = gv s k j := gv_of (h.2.2.2.2.1 k (Or.inl h0) h1 h2 h3 h4 h5) j
theorem HST.isch {t id : Nat} {s X : RS} (h : HST t id s X) {y : Int} {L : List Nat} (hi : ISCH s y L) (hL : ∀ x ∈ L, (x : Int) < cdI s) : ISCH X y L := hi.of (fun x hx => ⟨h.2.2.2.2.2.1 21 x (by omega) (by omega) (hL x hx), h.2.2.2.2.2.1 22 x (by omega) (by omega) (hL x hx)⟩)
theorem HST.ehd {t id : Nat} {s X : RS} (h : HST t id s X) (b : Bool) (γ : Nat) : hd X b γ = hd s b γ := by
  rcases bk_cases b with e | e
  · unfold hd; rw [e]; exact h.gx γ (by decide) (by decide) (by decide) (by decide) (by decide) (by decide)
  · unfold hd; rw [e]; exact h.gx γ (by decide) (by decide) (by decide) (by decide) (by decide) (by decide)
theorem TAB.hst {t id : Nat} {s X : RS} (h : TAB s) (H : HST t id s X) (hid : (id : Int) = trI s) (c0 : 0 ≤ caI s) (w0 : 0 ≤ waI s) (g0 : 0 ≤ goI s) (hw : waI X = waI s + 1) (g57 : gv X 57 (waI s).toNat = id) (g58 : gv X 58 (waI s).toNat = goI s) : TAB X := by
  obtain ⟨⟨a0, b1, b2, b3, b4⟩, a1, a2, a3, a4, a5, a6, a7, a8, a9⟩ := h
  have e1 := H.2.1
  have e2 : enI X = enI s := by unfold enI; rw [H.ix (by omega) (by decide) (by decide) (by decide) (by decide) (by decide) (by decide)]
  have e3 := H.2.2.1
  have e4 : caI X = caI s := by unfold caI; rw [H.ix (by omega) (by decide) (by decide) (by decide) (by decide) (by decide) (by decide)]
  have e5 : seI X = seI s := by unfold seI; rw [H.ix (by omega) (by decide) (by decide) (by decide) (by decide) (by decide) (by decide)]
  have e6 : slI X = slI s := by unfold slI; rw [H.ix (by omega) (by decide) (by decide) (by decide) (by decide) (by decide) (by decide)]
  have e7 : goI X = goI s := by unfold goI; rw [H.ix (by omega) (by decide) (by decide) (by decide) (by decide) (by decide) (by decide)]
  have e8 := H.2.2.2.1
  have e10 : peI X = peI s := by unfold peI; rw [H.ix (by omega) (by decide) (by decide) (by decide) (by decide) (by decide) (by decide)]
  have eg : ∀ (k i : Nat), k < 64 → ¬ (21 ≤ k ∧ k ≤ 23) → k ≠ 30 → k ≠ 31 → k ≠ 57 → k ≠ 58 → gv X k i = gv s k i := fun k i q1 q2 q3 q4 q5 q6 => H.gx i q1 q2 q3 q4 q5 q6
  have w57 : ∀ w : Nat, (w : Int) < waI s → gv X 57 w = gv s 57 w := fun w hw => by unfold gv; rw [(H.2.2.2.2.2.2.2.2.1 w (by omega)).1]
  have w58 : ∀ w : Nat, (w : Int) < waI s → gv X 58 w = gv s 58 w := fun w hw => by unfold gv; rw [(H.2.2.2.2.2.2.2.2.1 w (by omega)).2]
  refine ⟨⟨fun γ b hγ => ?_, DJ.of a0 b1 (by omega) (fun γ b L _ h1 h2 => by rw [H.ehd]; exact H.isch h1 h2), fun p hp => ?_, fun w w' q1 q2 => ?_, fun p w q1 q2 q3 => ?_⟩, fun j hj => ?_, fun j hj => ?_, fun j hj => ?_, fun x hx => ?_, fun j hj => ?_, fun g hg => ?_, fun k hk => ?_, fun k hk => ?_, ?_⟩
  · obtain ⟨L, l1, l2⟩ := a0 γ b (by omega)
    exact ⟨L, by rw [H.ehd]; exact H.isch l1 l2, fun x hx => by have := l2 x hx; omega⟩
  · rw [e10] at hp
    rw [eg 62 p (by decide) (by decide) (by decide) (by decide) (by decide) (by decide)]
    have := b2 p hp
    omega
  · rw [w57 w (by omega)]
    by_cases c : (w' : Int) < waI s
    · rw [w57 w' c]; exact b3 w w' q1 c
    · have e : w' = (waI s).toNat := by omega
      rw [e, g57]
      have := (a8 w (by omega)).2.1
      omega
  · rw [e10] at q1
    rw [eg 62 p (by decide) (by decide) (by decide) (by decide) (by decide) (by decide)] at q3
    rw [eg 60 p (by decide) (by decide) (by decide) (by decide) (by decide) (by decide)]
    by_cases c : (w : Int) < waI s
    · rw [w57 w c] at q3
      rw [w58 w c]
      exact b4 p w q1 c q3
    · have e : w = (waI s).toNat := by omega
      rw [e, g57] at q3
      have := b2 p q1
      omega
  · rw [e2] at hj ⊢
    rw [eg 27 j (by decide) (by decide) (by decide) (by decide) (by decide) (by decide)]; exact a1 j hj
  · rw [e4] at hj ⊢
    rw [eg 37 j (by decide) (by decide) (by decide) (by decide) (by decide) (by decide)]; exact a2 j hj
  · rw [e4]
    by_cases c : j = id
    · rw [c, H.2.2.2.2.2.2.2.1]; omega
    · have e : gv X 30 j = gv s 30 j := by unfold gv; rw [(H.2.2.2.2.2.2.1 j c).1]
      rw [e]; exact a3 j (by omega)
  · rw [e5] at hx
    rw [e6, e4, eg 40 x (by decide) (by decide) (by decide) (by decide) (by decide) (by decide), H.2.2.2.2.1 41 (by omega) (by decide) (by decide) (by decide) (by decide) (by decide)]
    have := a4 x hx
    refine ⟨this.1, this.2.1, ?_⟩
    rw [← this.2.2]
    constructor
    · rintro ⟨j, j1, j2⟩; exact ⟨j, j1, by rw [← j2, eg 36 j (by decide) (by decide) (by decide) (by decide) (by decide) (by decide)]⟩
    · rintro ⟨j, j1, j2⟩; exact ⟨j, j1, by rw [← j2, eg 36 j (by decide) (by decide) (by decide) (by decide) (by decide) (by decide)]⟩
  · rw [e4] at hj
    rw [e6, eg 36 j (by decide) (by decide) (by decide) (by decide) (by decide) (by decide)]; exact a5 j hj
  · rw [e7] at hg
    rw [eg 47 g (by decide) (by decide) (by decide) (by decide) (by decide) (by decide)]
    have := a6 g hg
    omega
  · rw [e10] at hk
    rw [eg 60 k (by decide) (by decide) (by decide) (by decide) (by decide) (by decide), H.2.2.2.2.1 61 (by omega) (by decide) (by decide) (by decide) (by decide) (by decide)]; exact a7 k hk
  · rw [e7]
    by_cases c : (k : Int) < waI s
    · rw [w57 k c, w58 k c]
      have := a8 k c
      omega
    · have e : k = (waI s).toNat := by omega
      rw [e, g57, g58]
      omega
  · rw [H.ix (j := 75) (by omega) (by decide) (by decide) (by decide) (by decide) (by decide) (by decide)]; exact a9
theorem KP.hst {t id : Nat} {s X : RS} (H : HST t id s X) (hid : (id : Int) = trI s) (hw : waI s ≤ waI X) : KP t s X := by
  have e2 : enI X = enI s := by unfold enI; rw [H.ix (by omega) (by decide) (by decide) (by decide) (by decide) (by decide) (by decide)]
  have e3 := H.2.2.1
  have e4 : caI X = caI s := by unfold caI; rw [H.ix (by omega) (by decide) (by decide) (by decide) (by decide) (by decide) (by decide)]
  have e5 : seI X = seI s := by unfold seI; rw [H.ix (by omega) (by decide) (by decide) (by decide) (by decide) (by decide) (by decide)]
  have e6 : slI X = slI s := by unfold slI; rw [H.ix (by omega) (by decide) (by decide) (by decide) (by decide) (by decide) (by decide)]
  have e7 : goI X = goI s := by unfold goI; rw [H.ix (by omega) (by decide) (by decide) (by decide) (by decide) (by decide) (by decide)]
  have e10 : peI X = peI s := by unfold peI; rw [H.ix (by omega) (by decide) (by decide) (by decide) (by decide) (by decide) (by decide)]
  have ea : ∀ k : Nat, k < 64 ∨ 74 ≤ k → ¬ (21 ≤ k ∧ k ≤ 23) → k ≠ 30 → k ≠ 31 → k ≠ 57 → k ≠ 58 → X.a k = s.a k := H.2.2.2.2.1
  have eb : ∀ (k : Nat) (m : Int), k < 64 → ¬ (21 ≤ k ∧ k ≤ 23) → k ≠ 30 → k ≠ 31 → k ≠ 57 → k ≠ 58 → bel k m s X := fun k m q1 q2 q3 q4 q5 q6 j _ => by rw [ea k (Or.inl q1) q2 q3 q4 q5 q6]
  refine ⟨⟨⟨fun j hj => H.ix (by omega) (by omega) (by omega) (by omega) (by omega) (by omega) (by omega), fun k hk => ea k (by omega) (by omega) (by omega) (by omega) (by omega) (by omega), H.2.2.2.2.2.2.2.2.2.2⟩, fun z => by rw [H.ix (j := 18) (by omega) (by decide) (by decide) (by decide) (by decide) (by decide) (by decide)]; exact z⟩, ⟨H.2.1, fun j hj => H.2.2.2.2.2.1 21 j (by omega) (by omega) hj, fun j hj => H.2.2.2.2.2.1 22 j (by omega) (by omega) hj, fun j hj => H.2.2.2.2.2.1 23 j (by omega) (by omega) hj⟩, ⟨by omega, eb _ _ (by decide) (by decide) (by decide) (by decide) (by decide) (by decide), eb _ _ (by decide) (by decide) (by decide) (by decide) (by decide) (by decide), eb _ _ (by decide) (by decide) (by decide) (by decide) (by decide) (by decide), eb _ _ (by decide) (by decide) (by decide) (by decide) (by decide) (by decide)⟩, ⟨by omega, fun j hj => (H.2.2.2.2.2.2.1 j (by omega)).1, fun j hj => (H.2.2.2.2.2.2.1 j (by omega)).2, eb _ _ (by decide) (by decide) (by decide) (by decide) (by decide) (by decide)⟩, ⟨by omega, eb _ _ (by decide) (by decide) (by decide) (by decide) (by decide) (by decide), eb _ _ (by decide) (by decide) (by decide) (by decide) (by decide) (by decide), eb _ _ (by decide) (by decide) (by decide) (by decide) (by decide) (by decide), eb _ _ (by decide) (by decide) (by decide) (by decide) (by decide) (by decide), fun j h1 h2 => by omega⟩, ⟨by omega, by omega, eb _ _ (by decide) (by decide) (by decide) (by decide) (by decide) (by decide), eb _ _ (by decide) (by decide) (by decide) (by decide) (by decide) (by decide)⟩, ⟨by omega, eb _ _ (by decide) (by decide) (by decide) (by decide) (by decide) (by decide), eb _ _ (by decide) (by decide) (by decide) (by decide) (by decide) (by decide), fun γ _ q => by rw [ea 50 (by omega) (by decide) (by decide) (by decide) (by decide) (by decide)]; exact q, fun γ _ q => by rw [ea 51 (by omega) (by decide) (by decide) (by decide) (by decide) (by decide)]; exact q, fun γ _ => Or.inl (by rw [ea 46 (by omega) (by decide) (by decide) (by decide) (by decide) (by decide)])⟩, fun γ b L hγ hI hL => ⟨[], by rw [H.ehd]; exact H.isch hI hL, fun x hx => absurd hx List.not_mem_nil⟩, ⟨hw, fun j hj => (H.2.2.2.2.2.2.2.2.1 j (by omega)).1, fun j hj => (H.2.2.2.2.2.2.2.2.1 j (by omega)).2⟩, ⟨by omega, eb _ _ (by decide) (by decide) (by decide) (by decide) (by decide) (by decide), eb _ _ (by decide) (by decide) (by decide) (by decide) (by decide) (by decide), eb _ _ (by decide) (by decide) (by decide) (by decide) (by decide) (by decide)⟩, fun k k1 k2 j hj => H.2.2.2.2.2.2.2.2.2.1 k j k1 k2 (by omega)⟩
