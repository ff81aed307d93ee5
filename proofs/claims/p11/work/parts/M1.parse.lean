/-! reading: the whole text -/
/-- the state where a reading begins, behind its first word -/
def RD0 (s : RS) : Prop := LXI s ∧ RB s ∧ s.i 15 = 0 ∧ (s.i 75 = 0 ∨ s.i 75 = 1) ∧ (s.i 19 = 0 ∧ s.i 20 = 0 ∧ s.i 24 = 0 ∧ s.i 29 = 0 ∧ s.i 33 = 0 ∧ s.i 43 = 0 ∧ s.i 52 = 0 ∧ s.i 56 = 0 ∧ s.i 59 = 0) ∧ (seI s = 2 ∧ slI s = 2) ∧ (∀ x : Nat, x < 2 → 0 ≤ gv s 40 x ∧ gv s 40 x < 2 ∧ s.a 41 x = 0) ∧ (0 ≤ tkI s ∧ tkI s ≤ fr s + 1)
theorem RD0.n {s : RS} (h : RD0 s) : op s = 0 ∧ cdI s = 0 ∧ enI s = 0 ∧ trI s = 0 ∧ caI s = 0 ∧ goI s = 0 ∧ deI s = 0 ∧ waI s = 0 ∧ peI s = 0 := by
  obtain ⟨-, -, -, -, ⟨a1, a2, a3, a4, a5, a6, a7, a8, a9⟩, -⟩ := h
  refine ⟨?_, ?_, ?_, ?_, ?_, ?_, ?_, ?_, ?_⟩
  · unfold op; rw [a1]; exact z_t0
  · unfold cdI; rw [a2]; exact z_t0
  · unfold enI; rw [a3]; exact z_t0
  · unfold trI; rw [a4]; exact z_t0
  · unfold caI; rw [a5]; exact z_t0
  · unfold goI; rw [a6]; exact z_t0
  · unfold deI; rw [a7]; exact z_t0
  · unfold waI; rw [a8]; exact z_t0
  · unfold peI; rw [a9]; exact z_t0
theorem RD0.inv {s : RS} (h : RD0 s) : INV s := by
  obtain ⟨n1, n2, n3, n4, n5, n6, n7, n8, n9⟩ := h.n
  obtain ⟨b1, b2, b3, b4, b5, ⟨b6, b7⟩, b8, b9⟩ := h
  have f0 := b1.f0
  refine ⟨b1, b2, b3, ⟨⟨fun γ b hγ => by omega, fun γ γ' b b' L L' x hγ => by omega, fun p hp => by omega, fun w w' _ hw => by omega, fun p w hp => by omega⟩, fun j hj => by omega, fun j hj => by omega, fun j hj => by omega, fun x hx => ?_, fun j hj => by omega, fun γ hγ => by omega, fun k hk => by omega, fun w hw => by omega, b4⟩, ?_⟩
  · obtain ⟨c1, c2, c3⟩ := b8 x (by omega)
    refine ⟨c1, by omega, ⟨fun q => ?_, fun q => absurd c3 q⟩⟩
    obtain ⟨j, j1, -⟩ := q
    omega
  · unfold NUM
    omega
theorem RD0.prl {s : RS} (h : RD0 s) : PRL s := by
  obtain ⟨n1, n2, n3, n4, n5, n6, n7, n8, n9⟩ := h.n
  exact ⟨fun γ hγ => by have := hγ.1; omega, fun γ hγ => by have := hγ.1; omega⟩
/-- the code of a text that was read is typed -/
theorem WT.read {s u : RS} (h : RD0 s) (hu : PS 0 s u) (h18 : ¬ 0 ≤ u.i 18) : ∃ g : Gh, WT u g := by
  obtain ⟨n1, n2, n3, n4, n5, n6, n7, n8, n9⟩ := h.n
  obtain ⟨b1, b2, b3, b4, b5, ⟨b6, b7⟩, b8, b9⟩ := h
  obtain ⟨a1, a2, a3, a4, a5, a6, a7, a8, a9⟩ := hu
  have f0 := b1.f0
  have fu := a1.1.f0
  have ts := a9 h18
  have gu : goI u = 0 := a4.go.trans n6
  have kh := a3.2.2.2.2.1
  obtain ⟨C, hC⟩ : ∃ C : Nat → Bool, ∀ x : Nat, C x = true ↔ ∃ j : Nat, (j : Int) < caI u ∧ gv u 36 j = x := ⟨fun x => @decide (∃ j : Nat, (j : Int) < caI u ∧ gv u 36 j = x) (Classical.propDecidable _), fun x => @decide_eq_true_iff _ (Classical.propDecidable _)⟩
  have c2 : ∀ x : Nat, x < 2 → C x = false := fun x hx => by
    by_cases q : C x = true
    · obtain ⟨j, j1, j2⟩ := (hC x).mp q
      have := (kh.2.2.2.2.2 j (by omega) j1).1
      omega
    · exact Bool.eq_false_iff.mpr q
  have hCX : CX s 0 0 0 [] := ⟨by show ((0 : Nat) : Int) = deI s; omega, by omega, by omega, by omega, by show 2 * (((0 : Nat)) : Int) ≤ fr s; omega, rfl, f0.2, by omega⟩
  obtain ⟨S, hS⟩ := ts u C (AG0.kp (KP.rf 0 u)) (fun x _ _ => by
    rw [hC x]
    constructor
    · rintro ⟨j, j1, j2⟩; exact ⟨j, by omega, j1, j2⟩
    · rintro ⟨j, _, j1, j2⟩; exact ⟨j, j1, j2⟩) 0 0 0 [] hCX (fun γ hγ => by omega)
  obtain ⟨g, hg⟩ : ∃ g : Gh, g = (S, C) := ⟨_, rfl⟩
  have gC : g.isC = C := by rw [hg]; rfl
  have gT : ∀ k c, S k c → g.T k c := fun k c q => by rw [hg]; exact q
  have gT' : ∀ k c, g.T k c → S k c := fun k c q => by rw [hg] at q; exact q
  clear hg
  have nm := a1.2.2.2.2
  have cu := a1.cd
  obtain ⟨w1, w2⟩ := hS g gC gT ⟨⟨fun _ _ => True.intro, fun x hx => by
    obtain ⟨e1, e2, e3⟩ := b8 x (by omega)
    rw [gC]
    have := c2 (gv s 40 x).toNat (by omega)
    constructor
    · intro q; rw [this] at q; exact absurd q (by decide)
    · intro q; exact absurd e3 q⟩, fun _ => ⟨cu.1, Int.le_refl _, fun q => by omega⟩, fun γ b k hγ => by have := hγ.1; omega⟩
  rw [n2] at w1
  have tb := a1.2.2.2.1
  refine ⟨g, ⟨cu.1, by omega⟩, ⟨nm.2.2.2.1.1, by have := nm.2.2.2.1.2; have := nm.1; show trI u ≤ 200; omega⟩, ⟨nm.2.2.2.2.1.1, by have := nm.2.2.2.2.1.2; show caI u ≤ 400; omega⟩, ⟨nm.2.2.1.1, by have := nm.2.2.1.2; show enI u ≤ 500; omega⟩, tb.2.2.1, tb.2.2.2.1, tb.2.1, fun q => ?_, fun k c _ q => w2 k c (gT' k c q), by rw [gC]; exact c2 0 (by omega), by rw [gC]; exact c2 1 (by omega)⟩
  obtain ⟨c, q1, q2, q3, q4, q5, q6⟩ := w1.2.2 q
  exact ⟨c, q1, q2, q4, q5⟩
def PU (s : RS) : RS := RS.setA (RS.setA (RS.setI (RS.setI s 63 (-1)) 63 0) 64 0 1) 65 0 0
theorem PU.rd {s : RS} (h : RD0 s) : RD0 (PU s) := by
  obtain ⟨b1, b2, b3, b4, b5, b6, b8, b9⟩ := h
  have hi : ∀ j : Nat, j ≠ 63 → (PU s).i j = s.i j := fun j hj => (if_neg hj).trans (if_neg hj)
  have ha : ∀ k : Nat, k ≠ 64 → k ≠ 65 → (PU s).a k = s.a k := fun k q1 q2 => (if_neg q2).trans (if_neg q1)
  have hb : (PU s).b = s.b := rfl
  generalize PU s = p at *
  refine ⟨b1.of (hi 2 (by decide)) (hi 10 (by decide)) (hi 11 (by decide)) (hi 12 (by decide)) (hi 14 (by decide)) (by rw [hb]), RB.of (hi 2 (by decide)) (hi 3 (by decide)) (ha 4 (by decide) (by decide)) (ha 6 (by decide) (by decide)) (ha 7 (by decide) (by decide)) b2, (hi 15 (by decide)).trans b3, by rw [hi 75 (by decide)]; exact b4, ?_, ?_, fun x hx => ?_, ?_⟩
  · rw [hi 19 (by decide), hi 20 (by decide), hi 24 (by decide), hi 29 (by decide), hi 33 (by decide), hi 43 (by decide), hi 52 (by decide), hi 56 (by decide), hi 59 (by decide)]; exact b5
  · unfold seI slI at *; rw [hi 38 (by decide), hi 42 (by decide)]; exact b6
  · unfold gv at *; rw [ha 40 (by decide) (by decide), ha 41 (by decide) (by decide)]; exact b8 x hx
  · unfold tkI fr at *; rw [hi 17 (by decide), hi 11 (by decide)]; exact b9
theorem p_parse {N : Nat} (hN : 40000 ≤ N) {s : RS} (h : RD0 s) : ok (f_X12_parse N s) (fun R => K1 s R ∧ (R.i 75 = 0 ∨ R.i 75 = 1) ∧ (R.i 15 = 0 → ¬ 0 ≤ R.i 18 → ∃ g : Gh, WT R g)) := by
  unfold f_X12_parse
  have e : f_X12_push N (RS.setI s 63 (-1)) 1 = some (PU s) := by
    have e0 : ((RS.setI s 63 (-1)).i 63) + 1 = (0 : Int32) := by show (-1 : Int32) + 1 = 0; decide
    unfold f_X12_push
    rw [e0, if_pos (show ib (0 : Int32) 1000 from ⟨by decide, by decide⟩)]
    rfl
  rw [e]
  show ok (f_X12_parse_10 N N (PU s)) _
  have hp := PU.rd h
  have kk : K1 s (PU s) := ⟨fun j hj => (if_neg (by omega)).trans (if_neg (by omega)), fun k hk => (if_neg (by omega)).trans (if_neg (by omega)), rfl⟩
  have f0 := hp.1.f0
  have n := hp.n
  refine (run_all (N := N) (by omega) 900).2.2.2.2.2.2.2.1 N (PU s) 0 _ hp.inv hp.prl (by show (0 : Int32).toInt = ((0 : Nat) : Int); decide) rfl rfl (by omega) (by omega) (by omega) (fun u hu => ?_) (fun m u hu hu2 hm => ?_)
  · exact ⟨kk.tr hu.2.1, hu.2.2, fun q => absurd q hu.1⟩
  · have fu := hu.1.1.f0
    obtain ⟨m', rfl⟩ : ∃ m', m = m' + 1 := ⟨m - 1, by omega⟩
    have tp : tpI u = -1 := by have := hu.2.1; omega
    show ok (b_X12_parse_10 N (f_X12_parse_10 N m') u) _
    unfold b_X12_parse_10
    have e1 : u.i 63 < 0 := Int32.lt_iff_toInt_lt.mpr (by rw [z_t0]; show tpI u < 0; omega)
    rw [if_pos e1]
    exact ok_some ⟨kk.tr hu.2.2.1.1.1, hu.1.r, fun _ q => WT.read hp hu q⟩
