/-! reading: try: its finally -/
theorem TAB.s31 {X V : RS} (h : TAB X) (hi : V.i = X.i) (ha : ∀ k : Nat, k ≠ 31 → V.a k = X.a k) : TAB V := by
  obtain ⟨⟨a0, b1, b2, b3, b4⟩, a1, a2, a3, a4, a5, a6, a7, a8, a9⟩ := h
  have eg : ∀ (k i : Nat), k ≠ 31 → gv V k i = gv X k i := fun k i e => by unfold gv; rw [ha k e]
  have e1 : cdI V = cdI X := by unfold cdI; rw [hi]
  have e2 : enI V = enI X := by unfold enI; rw [hi]
  have e3 : trI V = trI X := by unfold trI; rw [hi]
  have e4 : caI V = caI X := by unfold caI; rw [hi]
  have e5 : seI V = seI X := by unfold seI; rw [hi]
  have e6 : slI V = slI X := by unfold slI; rw [hi]
  have e7 : goI V = goI X := by unfold goI; rw [hi]
  have e8 : deI V = deI X := by unfold deI; rw [hi]
  have e9 : waI V = waI X := by unfold waI; rw [hi]
  have e10 : peI V = peI X := by unfold peI; rw [hi]
  have eh : ∀ (b : Bool) (γ : Nat), hd V b γ = hd X b γ := fun b γ => eg _ _ (by rcases bk_cases b with e | e <;> rw [e] <;> decide)
  have is : ∀ (y : Int) (L : List Nat), ISCH X y L → ISCH V y L := fun y L hI => hI.of (fun x _ => ⟨by rw [ha 21 (by decide)], by rw [ha 22 (by decide)]⟩)
  refine ⟨⟨fun γ b hγ => ?_, DJ.of a0 b1 (by omega) (fun γ b L _ h1 _ => by rw [eh]; exact is _ _ h1), fun p hp => ?_, fun w w' q1 q2 => ?_, fun p w q1 q2 q3 => ?_⟩, fun j hj => ?_, fun j hj => ?_, fun j hj => ?_, fun x hx => ?_, fun j hj => ?_, fun g hg => ?_, fun k hk => ?_, fun k hk => ?_, ?_⟩
  · obtain ⟨L, l1, l2⟩ := a0 γ b (by omega)
    exact ⟨L, by rw [eh]; exact is _ _ l1, fun x hx => by have := l2 x hx; omega⟩
  · rw [e10] at hp; rw [e3, eg 62 p (by decide)]; exact b2 p hp
  · rw [e9] at q2; rw [eg 57 _ (by decide), eg 57 _ (by decide)]; exact b3 w w' q1 q2
  · rw [e10] at q1; rw [e9] at q2; rw [eg 62 _ (by decide), eg 57 _ (by decide)] at q3; rw [eg 60 _ (by decide), eg 58 _ (by decide)]; exact b4 p w q1 q2 q3
  · rw [e2] at hj ⊢; rw [eg 27 _ (by decide)]; exact a1 j hj
  · rw [e4] at hj ⊢; rw [eg 37 _ (by decide)]; exact a2 j hj
  · rw [e3] at hj; rw [e4, eg 30 _ (by decide)]; exact a3 j hj
  · rw [e5] at hx
    rw [e6, e4, eg 40 _ (by decide), ha 41 (by decide)]
    have := a4 x hx
    refine ⟨this.1, this.2.1, ?_⟩
    rw [← this.2.2]
    constructor
    · rintro ⟨j, j1, j2⟩; exact ⟨j, j1, by rw [← j2, eg 36 _ (by decide)]⟩
    · rintro ⟨j, j1, j2⟩; exact ⟨j, j1, by rw [← j2, eg 36 _ (by decide)]⟩
  · rw [e4] at hj; rw [e6, eg 36 _ (by decide)]; exact a5 j hj
  · rw [e7] at hg; rw [e8, eg 47 _ (by decide)]; exact a6 g hg
  · rw [e10] at hk; rw [eg 60 _ (by decide), ha 61 (by decide)]; exact a7 k hk
  · rw [e9] at hk; rw [e3, e7, eg 57 _ (by decide), eg 58 _ (by decide)]; exact a8 k hk
  · rw [hi]; exact a9
theorem KP.s31 {t : Nat} {s X V : RS} (h : KP t s X) (hi : V.i = X.i) (hb : V.b = X.b) (ha : ∀ k : Nat, k ≠ 31 → V.a k = X.a k) (h31 : ∀ j : Nat, (j : Int) < trI s → V.a 31 j = X.a 31 j) : KP t s V := by
  obtain ⟨⟨a1, a1'⟩, a2, a3, a4, a5, a6, a7, a8, a9, a10, a11⟩ := h
  have eb : ∀ (k : Nat) (m : Int), k ≠ 31 → bel k m s V = bel k m s X := fun k m e => by unfold bel; rw [ha k e]
  have e1 : cdI V = cdI X := by unfold cdI; rw [hi]
  have e2 : enI V = enI X := by unfold enI; rw [hi]
  have e3 : trI V = trI X := by unfold trI; rw [hi]
  have e4 : caI V = caI X := by unfold caI; rw [hi]
  have e5 : seI V = seI X := by unfold seI; rw [hi]
  have e6 : slI V = slI X := by unfold slI; rw [hi]
  have e7 : goI V = goI X := by unfold goI; rw [hi]
  have e9 : waI V = waI X := by unfold waI; rw [hi]
  have e10 : peI V = peI X := by unfold peI; rw [hi]
  have eh : ∀ (b : Bool) (γ : Nat), hd V b γ = hd X b γ := fun b γ => by
    unfold hd gv
    rw [ha _ (by rcases bk_cases b with e | e <;> rw [e] <;> decide)]
  refine ⟨⟨⟨fun j hj => by rw [hi]; exact a1.1 j hj, fun k hk => (ha k (by omega)).trans (a1.2.1 k hk), by rw [hb]; exact a1.2.2⟩, fun z => by rw [hi]; exact a1' z⟩, ?_, ?_, ?_, ?_, ?_, ?_, fun γ b L hγ hI hL => ?_, ?_, ?_, fun k k1 k2 => ?_⟩
  · unfold KC; rw [e1, eb _ _ (by decide), eb _ _ (by decide), eb _ _ (by decide)]; exact a2
  · unfold KE; rw [e2, eb _ _ (by decide), eb _ _ (by decide), eb _ _ (by decide), eb _ _ (by decide)]; exact a3
  · unfold KT; rw [e3, eb 30 _ (by decide), eb 32 _ (by decide)]; exact ⟨a4.1, a4.2.1, fun j hj => (h31 j hj).trans (a4.2.2.1 j hj), a4.2.2.2⟩
  · unfold KH; unfold gv; rw [e4, eb _ _ (by decide), eb _ _ (by decide), eb _ _ (by decide), eb _ _ (by decide), e6, ha 36 (by decide)]; exact a5
  · unfold KS; rw [e5, e6, eb _ _ (by decide), eb _ _ (by decide)]; exact a6
  · unfold KG; rw [e7, eb _ _ (by decide), eb _ _ (by decide), ha 50 (by decide), ha 51 (by decide), ha 46 (by decide)]; exact a7
  · obtain ⟨L1, c1, c2⟩ := a8 γ b L hγ hI hL
    refine ⟨L1, ?_, by rw [e1]; exact c2⟩
    rw [eh]
    exact c1.of (fun x _ => ⟨by rw [ha 21 (by decide)], by rw [ha 22 (by decide)]⟩)
  · unfold KW; rw [e9, eb _ _ (by decide), eb _ _ (by decide)]; exact a9
  · unfold KQ; rw [e10, eb _ _ (by decide), eb _ _ (by decide), eb _ _ (by decide)]; exact a10
  · rw [eb k _ (by omega)]; exact a11 k k1 k2
/-- the try's row, marks and what waits may differ -/
def ENDR (id : Nat) (E W : RS) : Prop := (∀ j : Nat, j ≠ 52 → j ≠ 75 → j ≠ 63 → W.i j = E.i j) ∧ (∀ k : Nat, k ≠ 32 → k ≠ 50 → k ≠ 51 → k ≠ 62 → W.a k = E.a k) ∧ (∀ j : Nat, j ≠ id → W.a 32 j = E.a 32 j)
theorem ENDR.g {id : Nat} {E W : RS} (h : ENDR id E W) {k : Nat} (h1 : k ≠ 32) (h2 : k ≠ 50) (h3 : k ≠ 51) (h4 : k ≠ 62) (i : Nat) : gv W k i = gv E k i := gv_of (h.2.1 k h1 h2 h3 h4) i
theorem ENDR.opn {id : Nat} {E W : RS} (h : ENDR id E W) {k : Nat} (ho : OPN W k) : OPN E k := by
  obtain ⟨γ, b, M, x1, x2, x3⟩ := ho
  have e43 : goI W = goI E := by unfold goI; rw [h.1 43 (by decide) (by decide) (by decide)]
  have ehd : hd W b γ = hd E b γ := by
    cases b
    · exact h.g (k := 49) (by decide) (by decide) (by decide) (by decide) γ
    · exact h.g (k := 48) (by decide) (by decide) (by decide) (by decide) γ
  rw [ehd] at x2
  exact ⟨γ, b, M, by omega, x2.of (fun y _ => ⟨by rw [h.2.1 21 (by decide) (by decide) (by decide) (by decide)], by rw [h.2.1 22 (by decide) (by decide) (by decide) (by decide)]⟩), x3⟩
theorem LAT.endr {Z : Nat → Nat → Prop} {A B E W : RS} {id : Nat} (h : LAT Z A B E) (r : ENDR id E W) (hz : ∀ k : Nat, trI A ≤ k → (k : Int) < trI B → ¬ Z 30 k → k ≠ id) : LAT Z A B W := by
  obtain ⟨⟨a1, a2, a3, a4, a5, a6, a7, a8⟩, a9, a10, a11, a12, a13⟩ := h
  have e1 : cdI W = cdI E := by unfold cdI; rw [r.1 20 (by decide) (by decide) (by decide)]
  have e2 : enI W = enI E := by unfold enI; rw [r.1 24 (by decide) (by decide) (by decide)]
  have e3 : trI W = trI E := by unfold trI; rw [r.1 29 (by decide) (by decide) (by decide)]
  have e4 : caI W = caI E := by unfold caI; rw [r.1 33 (by decide) (by decide) (by decide)]
  have e5 : slI W = slI E := by unfold slI; rw [r.1 42 (by decide) (by decide) (by decide)]
  have ra : ∀ k : Nat, k ≠ 32 → k ≠ 50 → k ≠ 51 → k ≠ 62 → W.a k = E.a k := r.2.1
  refine ⟨⟨by omega, by omega, by omega, by rw [r.1 3 (by decide) (by decide) (by decide)]; exact a4, fun k k1 k2 => ?_, fun k k1 k2 => ?_, fun k k1 k2 z => ?_, fun k k1 k2 => ?_⟩, fun k k1 k2 z => a9 k k1 k2 (r.opn z), by omega, by omega, fun j hj => by rw [r.g (by decide) (by decide) (by decide) (by decide)]; exact a12 j hj, fun j j1 j2 => by rw [r.g (by decide) (by decide) (by decide) (by decide)]; exact a13 j j1 (by omega)⟩
  · have := a5 k k1 k2
    rw [ra 21 (by decide) (by decide) (by decide) (by decide), ra 22 (by decide) (by decide) (by decide) (by decide), ra 23 (by decide) (by decide) (by decide) (by decide)]
    exact this
  · have := a6 k k1 k2
    rw [ra 26 (by decide) (by decide) (by decide) (by decide), ra 27 (by decide) (by decide) (by decide) (by decide), ra 28 (by decide) (by decide) (by decide) (by decide)]
    exact this
  · obtain ⟨q1, q2, q3⟩ := a7 k k1 k2 z
    rw [ra 30 (by decide) (by decide) (by decide) (by decide), ra 31 (by decide) (by decide) (by decide) (by decide)]
    exact ⟨q1, q2, (r.2.2 k (hz k k1 k2 z)).trans q3⟩
  · have := a8 k k1 k2
    rw [ra 35 (by decide) (by decide) (by decide) (by decide), ra 36 (by decide) (by decide) (by decide) (by decide), ra 37 (by decide) (by decide) (by decide) (by decide)]
    exact this
