/-! both readers: int NAME = EXPR; -/
def RTE (S R : CS) : Prop := (R.i 21).toInt + 2 * (S.i 44).toInt ≤ (S.i 21).toInt + 2 * (R.i 44).toInt ∧ (R.i 54).toInt + (S.i 44).toInt ≤ (S.i 54).toInt + (R.i 44).toInt ∧ 6 * (R.i 55).toInt + (S.i 44).toInt ≤ 6 * (S.i 55).toInt + (R.i 44).toInt
/-- what stays but the names -/
def NMO (s u : RS) : Prop := u.i 2 = s.i 2 ∧ u.i 3 = s.i 3 ∧ u.i 8 = s.i 8 ∧ u.i 43 = s.i 43 ∧ u.i 2 = s.i 2 ∧ u.i 56 = s.i 56 ∧ u.a 1 = s.a 1 ∧ u.a 4 = s.a 4 ∧ u.b 9 = s.b 9
/-- a statement is done in both -/
def DON (d : Int32) (t : Nat) (S : CS) (s : RS) (R : CS) (u : RS) : Prop := ENV d R u ∧ tpI u = (t : Int) - 1 ∧ FRB t s u ∧ TBR s u ∧ CDK (s.i 20).toInt s u ∧ NMO s u ∧ CKZ S R ∧ (R.i 38 = S.i 38 ∧ R.i 53 = S.i 53 ∧ R.i 56 = S.i 56) ∧ RTE S R ∧ ((s.i 11).toInt + 1 ≤ (u.i 11).toInt ∧ phI s + 1 ≤ phI u ∧ (s.i 17).toInt + 1 ≤ (u.i 17).toInt ∧ u.i 19 = s.i 19) ∧ (u.i 75 = R.i 36 ∧ (R.i 36 = 0 ∨ R.i 36 = 1)) ∧ (8 * ((s.i 38).toInt - 2) ≤ (s.i 11).toInt → 8 * ((u.i 38).toInt - 2) ≤ (u.i 11).toInt) ∧ (s.i 38).toInt ≤ (u.i 38).toInt
theorem XO.don {d : Int32} {t : Nat} {S R : CS} {s u : RS} (x : XO d t S s (CS.setI R 36 1) u) (h75 : u.i 75 = R.i 36 ∧ (R.i 36 = 0 ∨ R.i 36 = 1)) : DON d t S s R u ∧ u.i 38 = s.i 38 := by
  obtain ⟨w1, w2, w3, w4, w5, w6, w7, w8, w9⟩ := x
  obtain ⟨⟨t1, t2, t3, t4, t5, t6, t7, t8, t9, t10⟩, tr⟩ := w4.1
  obtain ⟨⟨a1, -, a3, a4, a5, a6⟩, b1, b2, b3, b4, b5, b6, b7, b8⟩ := w5
  obtain ⟨⟨h1, h2, h3, h4, h5, h6, h7, h8⟩, n, o, c, l, k, ⟨r1, r2, r3, r4, r5, r6, r7, r8, r9, r10, r11⟩⟩ := w1
  have ev : ENV d R u := ⟨⟨h1, h2, h3, h4, h5, h6, h7, h8⟩, n, o, c, l, k, ⟨r1, r2, r3, r4, r5, r6, r7, r8.mv rfl rfl rfl rfl ⟨rfl, rfl, rfl⟩ r8.2.2.2.2.2.2 (Int.le_refl _), r9, r10, r11⟩⟩
  exact ⟨⟨ev, w2, w3, tr, w4.2, ⟨t1, t2, t3, t5, t6, t7, t8, t9, t10⟩, ⟨a1, b1, b2, b3, b4, b5, b6, b7⟩, ⟨a3, a5, a6⟩, b8, ⟨w6, w7, w8, w9⟩, h75, fun q => by rw [t4]; omega, by rw [t4]; exact Int.le_refl _⟩, t4⟩
theorem TBR.tr {s u w : RS} (h : TBR s u) (g : TBR u w) (h38 : (s.i 38).toInt ≤ (u.i 38).toInt) (h43 : (s.i 43).toInt ≤ (u.i 43).toInt) (h56 : (s.i 56).toInt ≤ (u.i 56).toInt) : TBR s w := by
  obtain ⟨p0, p1, p2, ⟨p3a, p3b⟩, p4, p5, p6, p7, p8, p9, p10⟩ := h
  obtain ⟨q0, q1, q2, ⟨q3a, q3b⟩, q4, q5, q6, q7, q8, q9, q10⟩ := g
  refine ⟨fun j hj => ?_, fun j hj => ?_, fun j hj => ?_, ⟨by omega, fun j h1 h2 => ?_⟩, fun j hj => ?_, by omega, fun j hj => (q6 j (by omega)).trans (p6 j hj), by omega, fun j hj => ?_, by omega, fun j hj => ?_⟩
  · obtain ⟨x1, x2, x3⟩ := p0 j hj
    obtain ⟨y1, y2, y3⟩ := q0 j (by omega)
    exact ⟨y1.trans x1, y2.trans x2, y3.trans x3⟩
  · obtain ⟨x1, x2, x3, x4, x5, x6, x7, x8⟩ := p1 j hj
    obtain ⟨y1, y2, y3, y4, y5, y6, y7, y8⟩ := q1 j (by omega)
    exact ⟨y1.trans x1, y2.trans x2, y3.trans x3, y4.trans x4, y5.trans x5, y6.trans x6, y7.trans x7, y8.trans x8⟩
  · obtain ⟨x1, x2⟩ := p2 j hj
    obtain ⟨y1, y2⟩ := q2 j (by omega)
    exact ⟨y1.trans x1, y2.trans x2⟩
  · by_cases c : (j : Int) < (u.i 59).toInt
    · rw [(q4 j c).2.2]
      exact p3b j h1 c
    · exact q3b j (by omega) h2
  · obtain ⟨x1, x2, x3⟩ := p4 j hj
    obtain ⟨y1, y2, y3⟩ := q4 j (by omega)
    exact ⟨y1.trans x1, y2.trans x2, y3.trans x3⟩
  · obtain ⟨x1, x2⟩ := p8 j hj
    obtain ⟨y1, y2⟩ := q8 j (by omega)
    exact ⟨y1.trans x1, y2.trans x2⟩
  · obtain ⟨x1, x2, x3⟩ := p10 j hj
    obtain ⟨y1, y2, y3⟩ := q10 j (by omega)
    exact ⟨y1.trans x1, y2.trans x2, y3.trans x3⟩
/-- a name more in the reference -/
theorem y_see {N : Nat} {s : RS} {l : Int64} {y : Int32} {z : Int32 × RS} (g : f_X12_see N s l y = some z) : (0 ≤ (s.i 38).toInt ∧ (s.i 38).toInt < 460) ∧ z.2.i 38 = s.i 38 + 1 ∧ (∀ k : Nat, k ≠ 38 → k ≠ 42 → z.2.i k = s.i k) ∧ (∀ k : Nat, k ≠ 40 → k ≠ 41 → z.2.a k = s.a k) ∧ (∀ k : Nat, k ≠ 39 → z.2.b k = s.b k) ∧ z.2.l = s.l ∧ (∀ j : Nat, (j : Int) < (s.i 38).toInt → z.2.b 39 j = s.b 39 j ∧ z.2.a 40 j = s.a 40 j ∧ z.2.a 41 j = s.a 41 j) := by
  unfold f_X12_see at g
  obtain ⟨i1, g⟩ := hf_ite g
  cases g
  have ck := clampI i1.1
  refine ⟨⟨i1.1, i1.2⟩, rfl, fun k h1 h2 => (if_neg h2).trans (if_neg h1), fun k h1 h2 => (if_neg h2).trans (if_neg h1), fun k h => if_neg h, rfl, fun j hj => ⟨if_neg (by omega), if_neg (by omega), if_neg (by omega)⟩⟩
theorem see_tbr {N : Nat} {s : RS} {l : Int64} {y : Int32} {z : Int32 × RS} (g : f_X12_see N s l y = some z) : TBR s z.2 ∧ CDK (s.i 20).toInt s z.2 ∧ NMO s z.2 ∧ (∀ r : Nat, FRB r s z.2) ∧ phI z.2 = phI s ∧ (z.2.i 38).toInt = (s.i 38).toInt + 1 := by
  obtain ⟨⟨g0, g9⟩, g1, gi, ga, gb, gl, gr⟩ := y_see g
  have i2 : ∀ k : Nat, k ≠ 38 → k ≠ 42 → z.2.i k = s.i k := gi
  refine ⟨⟨gr, fun j _ => ⟨by rw [ga 44 (by decide) (by decide)], by rw [gb 45 (by decide)], by rw [ga 46 (by decide) (by decide)], by rw [ga 47 (by decide) (by decide)], by rw [ga 50 (by decide) (by decide)], by rw [ga 51 (by decide) (by decide)], by rw [ga 48 (by decide) (by decide)], by rw [ga 49 (by decide) (by decide)]⟩, fun j _ => ⟨by rw [ga 57 (by decide) (by decide)], by rw [ga 58 (by decide) (by decide)]⟩, ⟨by rw [i2 59 (by decide) (by decide)]; exact Int.le_refl _, fun j k1 k2 => by rw [i2 59 (by decide) (by decide)] at k2; omega⟩, fun j _ => ⟨by rw [ga 60 (by decide) (by decide)], by rw [ga 61 (by decide) (by decide)], by rw [ga 62 (by decide) (by decide)]⟩, by rw [i2 29 (by decide) (by decide)]; exact Int.le_refl _, fun j _ => by rw [ga 30 (by decide) (by decide)], by rw [i2 33 (by decide) (by decide)]; exact Int.le_refl _, fun j _ => ⟨by rw [ga 34 (by decide) (by decide)], by rw [ga 37 (by decide) (by decide)]⟩, by rw [i2 24 (by decide) (by decide)]; exact Int.le_refl _, fun j _ => ⟨by rw [ga 25 (by decide) (by decide)], by rw [ga 27 (by decide) (by decide)], by rw [ga 28 (by decide) (by decide)]⟩⟩, ⟨by rw [i2 20 (by decide) (by decide)]; exact Int.le_refl _, fun j _ => by rw [ga 22 (by decide) (by decide)]⟩, ⟨i2 2 (by decide) (by decide), i2 3 (by decide) (by decide), i2 8 (by decide) (by decide), i2 43 (by decide) (by decide), i2 2 (by decide) (by decide), i2 56 (by decide) (by decide), ga 1 (by decide) (by decide), ga 4 (by decide) (by decide), gb 9 (by decide)⟩, fun r j _ => ⟨by rw [ga 64 (by decide) (by decide)], by rw [ga 65 (by decide) (by decide)], by rw [ga 66 (by decide) (by decide)], by rw [ga 67 (by decide) (by decide)], by rw [ga 68 (by decide) (by decide)], by rw [ga 69 (by decide) (by decide)], by rw [ga 70 (by decide) (by decide)], by rw [ga 71 (by decide) (by decide)], by rw [ga 72 (by decide) (by decide)], by rw [ga 73 (by decide) (by decide)], by rw [gb 74 (by decide)]⟩, ?_, by rw [g1]; exact ad1 g0 (by omega)⟩
  unfold phI
  rw [i2 17 (by decide) (by decide), i2 20 (by decide) (by decide)]
