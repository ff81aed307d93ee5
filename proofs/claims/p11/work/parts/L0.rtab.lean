/-! reading: try: the tables behind its end -/
theorem RSV.g {x1 x2 x3 : Int32} {σ R : RS} (h : RSV x1 x2 x3 σ R) {k : Nat} (h1 : k ≠ 50) (h2 : k ≠ 51) (h3 : k ≠ 62) (i : Nat) : gv R k i = gv σ k i := gv_of (h.2.2.1 k h1 h2 h3) i
theorem RSV.hd {x1 x2 x3 : Int32} {σ R : RS} (h : RSV x1 x2 x3 σ R) (b : Bool) (γ : Nat) : hd R b γ = hd σ b γ := by
  cases b
  · exact h.g (k := 49) (by decide) (by decide) (by decide) γ
  · exact h.g (k := 48) (by decide) (by decide) (by decide) γ
theorem RSV.isch {x1 x2 x3 : Int32} {σ R : RS} (h : RSV x1 x2 x3 σ R) {x : Int} {M : List Nat} (hi : ISCH σ x M) : ISCH R x M := hi.of (fun y _ => ⟨by rw [h.2.2.1 21 (by decide) (by decide) (by decide)], by rw [h.2.2.1 22 (by decide) (by decide) (by decide)]⟩)
/-- what stands at 62 behind it -/
theorem RSV.c62 {x1 x2 : Int32} {σ R : RS} (h : RSV x1 x2 0 σ R) {p : Nat} (hp : (p : Int) < peI σ) : R.a 62 p = σ.a 62 p ∨ gv R 62 p = -1 ∨ 0 < waI σ ∧ gv R 62 p = gv σ 57 (waI σ - 1).toNat ∧ gv σ 60 p < gv σ 58 (waI σ - 1).toNat := by
  have m1 : (-1 : Int32).toInt = -1 := by decide
  by_cases c : σ.a 62 p = x1
  · rcases h.2.2.2.2.2.2.2 p (by rw [z_t0]; omega) hp c with q | q
    · right; left; unfold gv; rw [q.1]; exact m1
    · right; right
      refine ⟨q.2.1, ?_, q.2.2.2⟩
      unfold gv; rw [q.2.2.1]
  · exact Or.inl (h.2.2.2.2.2.1 p c)
theorem TAB.rsv {x1 x2 : Int32} {σ R : RS} (ht : TAB σ) (h : RSV x1 x2 0 σ R) (tr0 : 0 ≤ trI σ) : TAB R := by
  obtain ⟨⟨a0, b1, b2, b3, b4⟩, a1, a2, a3, a4, a5, a6, a7, a8, a9⟩ := ht
  have hi : R.i = σ.i := h.1
  have eg : ∀ (k i : Nat), k ≠ 50 → k ≠ 51 → k ≠ 62 → gv R k i = gv σ k i := fun k i p q r => h.g p q r i
  have e1 : cdI R = cdI σ := by unfold cdI; rw [hi]
  have e2 : enI R = enI σ := by unfold enI; rw [hi]
  have e3 : trI R = trI σ := by unfold trI; rw [hi]
  have e4 : caI R = caI σ := by unfold caI; rw [hi]
  have e5 : seI R = seI σ := by unfold seI; rw [hi]
  have e6 : slI R = slI σ := by unfold slI; rw [hi]
  have e7 : goI R = goI σ := by unfold goI; rw [hi]
  have e8 : deI R = deI σ := by unfold deI; rw [hi]
  have e9 : waI R = waI σ := by unfold waI; rw [hi]
  have e10 : peI R = peI σ := by unfold peI; rw [hi]
  refine ⟨⟨fun γ b hγ => ?_, DJ.of a0 b1 (by omega) (fun γ b M _ h1 _ => by rw [h.hd]; exact h.isch h1), fun p hp => ?_, fun w w' q1 q2 => ?_, fun p w q1 q2 q3 => ?_⟩, fun j hj => ?_, fun j hj => ?_, fun j hj => ?_, fun x hx => ?_, fun j hj => ?_, fun g hg => ?_, fun k hk => ?_, fun k hk => ?_, ?_⟩
  · obtain ⟨L, l1, l2⟩ := a0 γ b (by omega)
    exact ⟨L, by rw [h.hd]; exact h.isch l1, fun x hx => by have := l2 x hx; omega⟩
  · rw [e10] at hp
    rw [e3]
    rcases h.c62 hp with q | q | ⟨q1, q2, q3⟩
    · have e : gv R 62 p = gv σ 62 p := by unfold gv; rw [q]
      rw [e]; exact b2 p hp
    · omega
    · have ew : ((waI σ - 1).toNat : Int) = waI σ - 1 := Int.toNat_of_nonneg (by omega)
      have := (a8 (waI σ - 1).toNat (by omega)).2.1
      omega
  · rw [e9] at q2; rw [eg 57 _ (by decide) (by decide) (by decide), eg 57 _ (by decide) (by decide) (by decide)]; exact b3 w w' q1 q2
  · rw [e10] at q1
    rw [e9] at q2
    rw [eg 57 _ (by decide) (by decide) (by decide)] at q3
    rw [eg 60 _ (by decide) (by decide) (by decide), eg 58 _ (by decide) (by decide) (by decide)]
    rcases h.c62 q1 with y | y | ⟨y1, y2, y3⟩
    · have e : gv R 62 p = gv σ 62 p := by unfold gv; rw [y]
      rw [e] at q3
      exact b4 p w q1 q2 q3
    · have := (a8 w q2).1
      omega
    · have ew : ((waI σ - 1).toNat : Int) = waI σ - 1 := Int.toNat_of_nonneg (by omega)
      have e : w = (waI σ - 1).toNat := by
        by_cases c : w = (waI σ - 1).toNat
        · exact c
        · have := b3 w (waI σ - 1).toNat (by omega) (by omega)
          omega
      rw [e]; exact y3
  · rw [e2] at hj ⊢; rw [eg 27 _ (by decide) (by decide) (by decide)]; exact a1 j hj
  · rw [e4] at hj ⊢; rw [eg 37 _ (by decide) (by decide) (by decide)]; exact a2 j hj
  · rw [e3] at hj; rw [e4, eg 30 _ (by decide) (by decide) (by decide)]; exact a3 j hj
  · rw [e5] at hx
    rw [e6, e4, eg 40 _ (by decide) (by decide) (by decide), h.2.2.1 41 (by decide) (by decide) (by decide)]
    have := a4 x hx
    refine ⟨this.1, this.2.1, ?_⟩
    rw [← this.2.2]
    constructor
    · rintro ⟨j, j1, j2⟩; exact ⟨j, j1, by rw [← j2, eg 36 _ (by decide) (by decide) (by decide)]⟩
    · rintro ⟨j, j1, j2⟩; exact ⟨j, j1, by rw [← j2, eg 36 _ (by decide) (by decide) (by decide)]⟩
  · rw [e4] at hj; rw [e6, eg 36 _ (by decide) (by decide) (by decide)]; exact a5 j hj
  · rw [e7] at hg; rw [e8, eg 47 _ (by decide) (by decide) (by decide)]; exact a6 g hg
  · rw [e10] at hk; rw [eg 60 _ (by decide) (by decide) (by decide), h.2.2.1 61 (by decide) (by decide) (by decide)]; exact a7 k hk
  · rw [e9] at hk; rw [e3, e7, eg 57 _ (by decide) (by decide) (by decide), eg 58 _ (by decide) (by decide) (by decide)]; exact a8 k hk
  · rw [hi]; exact a9
theorem KP.rsv {t : Nat} {x1 x2 : Int32} {s σ R : RS} (hk : KP t s σ) (h : RSV x1 x2 0 σ R) (hs : ∀ p : Nat, (p : Int) < peI s → ¬ s.a 62 p = x1) : KP t s R := by
  obtain ⟨⟨a1, a1'⟩, a2, a3, a4, a5, a6, a7, a8, a9, a10, a11⟩ := hk
  have hi : R.i = σ.i := h.1
  have eb : ∀ (k : Nat) (n : Int), k ≠ 50 → k ≠ 51 → k ≠ 62 → bel k n s R = bel k n s σ := fun k n p q r => by unfold bel; rw [h.2.2.1 k p q r]
  have e1 : cdI R = cdI σ := by unfold cdI; rw [hi]
  have e2 : enI R = enI σ := by unfold enI; rw [hi]
  have e3 : trI R = trI σ := by unfold trI; rw [hi]
  have e4 : caI R = caI σ := by unfold caI; rw [hi]
  have e5 : seI R = seI σ := by unfold seI; rw [hi]
  have e6 : slI R = slI σ := by unfold slI; rw [hi]
  have e7 : goI R = goI σ := by unfold goI; rw [hi]
  have e9 : waI R = waI σ := by unfold waI; rw [hi]
  have e10 : peI R = peI σ := by unfold peI; rw [hi]
  refine ⟨⟨⟨fun j hj => by rw [hi]; exact a1.1 j hj, fun k hk => (h.2.2.1 k (by omega) (by omega) (by omega)).trans (a1.2.1 k hk), by rw [h.2.1]; exact a1.2.2⟩, fun z => by rw [hi]; exact a1' z⟩, ?_, ?_, ?_, ?_, ?_, ?_, fun γ b L hγ hI hL => ?_, ?_, ?_, fun k k1 k2 => ?_⟩
  · unfold KC; rw [e1, eb _ _ (by decide) (by decide) (by decide), eb _ _ (by decide) (by decide) (by decide), eb _ _ (by decide) (by decide) (by decide)]; exact a2
  · unfold KE; rw [e2, eb _ _ (by decide) (by decide) (by decide), eb _ _ (by decide) (by decide) (by decide), eb _ _ (by decide) (by decide) (by decide), eb _ _ (by decide) (by decide) (by decide)]; exact a3
  · unfold KT; rw [e3, eb _ _ (by decide) (by decide) (by decide), eb _ _ (by decide) (by decide) (by decide), eb _ _ (by decide) (by decide) (by decide)]; exact a4
  · unfold KH; unfold gv; rw [e4, eb _ _ (by decide) (by decide) (by decide), eb _ _ (by decide) (by decide) (by decide), eb _ _ (by decide) (by decide) (by decide), eb _ _ (by decide) (by decide) (by decide), e6, h.2.2.1 36 (by decide) (by decide) (by decide)]; exact a5
  · unfold KS; rw [e5, e6, eb _ _ (by decide) (by decide) (by decide), eb _ _ (by decide) (by decide) (by decide)]; exact a6
  · unfold KG; rw [e7, eb _ _ (by decide) (by decide) (by decide), eb _ _ (by decide) (by decide) (by decide), h.2.2.1 46 (by decide) (by decide) (by decide)]
    exact ⟨a7.1, a7.2.1, a7.2.2.1, fun γ hγ q => h.2.2.2.1 γ (a7.2.2.2.1 γ hγ q), fun γ hγ q => h.2.2.2.2.1 γ (a7.2.2.2.2.1 γ hγ q), a7.2.2.2.2.2⟩
  · obtain ⟨L1, c1, c2⟩ := a8 γ b L hγ hI hL
    exact ⟨L1, by rw [h.hd]; exact h.isch c1, by rw [e1]; exact c2⟩
  · unfold KW; rw [e9, eb _ _ (by decide) (by decide) (by decide), eb _ _ (by decide) (by decide) (by decide)]; exact a9
  · unfold KQ
    rw [e10, eb 60 _ (by decide) (by decide) (by decide), eb 61 _ (by decide) (by decide) (by decide)]
    refine ⟨a10.1, a10.2.1, a10.2.2.1, fun p hp => ?_⟩
    have e62 := a10.2.2.2 p hp
    rw [h.2.2.2.2.2.1 p (by rw [e62]; exact hs p hp)]
    exact e62
  · rw [eb k _ (by omega) (by omega) (by omega)]; exact a11 k k1 k2
/-- what waited at the try's wall gets on where its end is passed -/
theorem ARV.rsv {x1 : Int32} {u σ R : RS} {id : Nat} (h : RSV x1 1 0 σ R) (hx : x1.toInt = (id : Int)) (tu : TAB u) (u57 : gv u 57 (waI u - 1).toNat = (id : Int)) (hw : waI u = waI σ + 1) (w0 : 0 ≤ waI σ) (hp : peI u ≤ peI σ) (p60 : bel 60 (peI u) u σ) (p61 : bel 61 (peI u) u σ) (p62 : bel 62 (peI u) u σ) (f50 : ∀ γ : Nat, (γ : Int) < goI u → u.a 50 γ = 1 → σ.a 50 γ = 1) (f51 : ∀ γ : Nat, (γ : Int) < goI u → u.a 51 γ = 1 → σ.a 51 γ = 1) {γ : Nat} {b : Bool} (hγ : (γ : Int) < goI u) (ha : ARV u γ b) : ARV R γ b := by
  have eR : waI R = waI σ := by unfold waI; rw [h.1]
  have eP : peI R = peI σ := by unfold peI; rw [h.1]
  rcases ha with q | ⟨p, q1, q2, q3, q4, q5⟩
  · left
    cases b
    · exact h.2.2.2.2.1 γ (f51 γ hγ q)
    · exact h.2.2.2.1 γ (f50 γ hγ q)
  · have e62 : σ.a 62 p = x1 := Int32.toInt_inj.mp (by
      rw [hx, p62 p q1]
      have : gv u 62 p = (id : Int) := q5.trans u57
      exact this)
    have e60 : gv σ 60 p = (γ : Int) := by unfold gv at *; rw [p60 p q1]; exact q2
    have e61 : σ.a 61 p = b01 b := by rw [p61 p q1]; exact q3
    rcases h.2.2.2.2.2.2.2 p (by rw [z_t0]; omega) (by omega) e62 with y | y
    · left
      have := y.2 rfl
      rw [e60, Int.toNat_natCast, e61] at this
      cases b
      · rw [if_pos (show b01 false = 0 from rfl)] at this; exact this
      · rw [if_neg (show ¬ b01 true = 0 by decide)] at this; exact this
    · right
      refine ⟨p, by omega, ?_, ?_, by omega, ?_⟩
      · rw [h.g (by decide) (by decide) (by decide)]; exact e60
      · rw [h.2.2.1 61 (by decide) (by decide) (by decide)]; exact e61
      · rw [h.g (k := 57) (by decide) (by decide) (by decide), eR]
        unfold gv
        rw [y.2.2.1]
/-- what does not wait there stays -/
theorem ARV.rsv0 {x1 x2 : Int32} {σ R : RS} (h : RSV x1 x2 0 σ R) (hn : 0 < waI σ → ¬ σ.a 57 (waI σ - 1).toNat = x1) {γ : Nat} {b : Bool} (ha : ARV σ γ b) : ARV R γ b := by
  have eR : waI R = waI σ := by unfold waI; rw [h.1]
  have eP : peI R = peI σ := by unfold peI; rw [h.1]
  rcases ha with q | ⟨p, q1, q2, q3, q4, q5⟩
  · left
    cases b
    · exact h.2.2.2.2.1 γ q
    · exact h.2.2.2.1 γ q
  · right
    have e : σ.a 62 p = σ.a 57 (waI σ - 1).toNat := Int32.toInt_inj.mp q5
    have e62 : R.a 62 p = σ.a 62 p := h.2.2.2.2.2.1 p (by rw [e]; exact hn q4)
    refine ⟨p, by omega, ?_, ?_, by omega, ?_⟩
    · rw [h.g (by decide) (by decide) (by decide)]; exact q2
    · rw [h.2.2.1 61 (by decide) (by decide) (by decide)]; exact q3
    · rw [h.g (k := 57) (by decide) (by decide) (by decide), eR]
      unfold gv at q5 ⊢
      rw [e62]; exact q5
