/-! both readers: what the numbers of a choice keep -/
theorem CKX.of2 {S R : CS} (h : pj R = pj S) (e22 : R.i 22 = S.i 22) (e18 : ∀ k : Nat, (k : Int) < (S.i 22).toInt → R.a 18 k = S.a 18 k) (h44 : (S.i 44).toInt ≤ (R.i 44).toInt) : CKX S R := by
  obtain ⟨-, -, -, -, -, -, -, -, -, -, i36, -, i38, i50, i53, i54, i55, i56, -, -, -, -, a52, er, eo, eol, -⟩ := pj_eq h
  refine ⟨⟨e22, i36, i38, i50, i53, i56⟩, fun k _ => by rw [er], fun k a _ _ => ⟨by rw [eo], by rw [eol]⟩, e18, by rw [i54]; exact Int.le_refl _, by rw [i55]; exact Int.le_refl _, fun k _ => by rw [a52], fun k h1 h2 => ?_, by rw [pj_21 h]; omega, by rw [i54]; omega, by rw [i55]; omega⟩
  rw [i55] at h2
  omega
/-- since S0, cases aside -/
def CKN (S0 R : CS) : Prop := CKX S0 (CS.setI R 22 (S0.i 22)) ∧ (S0.i 22).toInt ≤ (R.i 22).toInt
theorem CKN.rf (S : CS) : CKN S S := ⟨CKX.of2 rfl (ci_at _ _ _) (fun _ _ => rfl) (Int.le_refl _), Int.le_refl _⟩
theorem CKN.num {S0 S R : CS} (h : CKN S0 S) (hp : pj R = pj S) (h22 : (S.i 22).toInt ≤ (R.i 22).toInt) (h18 : ∀ k : Nat, (k : Int) < (S.i 22).toInt → R.a 18 k = S.a 18 k) (h44 : (S.i 44).toInt ≤ (R.i 44).toInt) : CKN S0 R := by
  obtain ⟨h, h0⟩ := h
  refine ⟨h.tr (CKX.of2 (show pj R = pj S from hp) ((ci_at _ _ _).trans (ci_at _ _ _).symm) (fun k hk => ?_) h44), by omega⟩
  rw [ci_at] at hk
  exact h18 k (by omega)
theorem CKN.exp {S0 S R : CS} (h : CKN S0 S) (g : CKX S R) : CKN S0 R := by
  obtain ⟨⟨⟨-, a2, a3, a4, a5, a6⟩, b1, b2, b3, b4, b5, b6, b7, b8, b9, b10⟩, h0⟩ := h
  obtain ⟨⟨c1, c2, c3, c4, c5, c6⟩, d1, d2, d3, d4, d5, d6, d7, d8, d9, d10⟩ := g
  have a2 : S.i 36 = S0.i 36 := a2
  have a3 : S.i 38 = S0.i 38 := a3
  have a4 : S.i 50 = S0.i 50 := a4
  have a5 : S.i 53 = S0.i 53 := a5
  have a6 : S.i 56 = S0.i 56 := a6
  have b1 : ∀ k : Nat, (k : Int) < (S0.i 53).toInt → S.r 51 k = S0.r 51 k := b1
  have b2 : ∀ k a : Nat, (k : Int) < (S0.i 53).toInt → S0.r 51 k = some a → S.o a = S0.o a ∧ S.ol a = S0.ol a := b2
  have b3 : ∀ k : Nat, (k : Int) < (S0.i 22).toInt → S.a 18 k = S0.a 18 k := b3
  have b4 : (S0.i 54).toInt ≤ (S.i 54).toInt := b4
  have b5 : (S0.i 55).toInt ≤ (S.i 55).toInt := b5
  have b6 : ∀ k : Nat, (k : Int) < (S0.i 55).toInt → S.a 52 k = S0.a 52 k := b6
  have b7 : ∀ k : Nat, (S0.i 55).toInt ≤ (k : Int) → (k : Int) < (S.i 55).toInt → S.a 52 k = 0 ∨ (2 * (S0.i 54).toInt + 1 < (S.a 52 k).toInt ∧ (S.a 52 k).toInt ≤ 2 * (S.i 54).toInt + 1) := b7
  have b8 : (S.i 21).toInt + 2 * (S0.i 44).toInt ≤ (S0.i 21).toInt + 2 * (S.i 44).toInt := b8
  have b9 : (S.i 54).toInt + (S0.i 44).toInt ≤ (S0.i 54).toInt + (S.i 44).toInt := b9
  have b10 : 6 * (S.i 55).toInt + (S0.i 44).toInt ≤ 6 * (S0.i 55).toInt + (S.i 44).toInt := b10
  refine ⟨⟨⟨ci_at _ _ _, c2.trans a2, c3.trans a3, c4.trans a4, c5.trans a5, c6.trans a6⟩, fun k hk => ?_, fun k a hk ha => ?_, fun k hk => ?_, Int.le_trans b4 d4, Int.le_trans b5 d5, fun k hk => ?_, fun k h1 h2 => ?_, (show (R.i 21).toInt + 2 * (S0.i 44).toInt ≤ (S0.i 21).toInt + 2 * (R.i 44).toInt by omega), (show (R.i 54).toInt + (S0.i 44).toInt ≤ (S0.i 54).toInt + (R.i 44).toInt by omega), (show 6 * (R.i 55).toInt + (S0.i 44).toInt ≤ 6 * (S0.i 55).toInt + (R.i 44).toInt by omega)⟩, by rw [c1]; exact h0⟩
  · exact (d1 k (by rw [a5]; exact hk)).trans (b1 k hk)
  · have e := b2 k a hk ha
    have f := d2 k a (by rw [a5]; exact hk) ((b1 k hk).trans ha)
    exact ⟨f.1.trans e.1, f.2.trans e.2⟩
  · exact (d3 k (by omega)).trans (b3 k hk)
  · exact (d6 k (by omega)).trans (b6 k hk)
  · have h2 : (k : Int) < (R.i 55).toInt := h2
    show R.a 52 k = 0 ∨ (2 * (S0.i 54).toInt + 1 < (R.a 52 k).toInt ∧ (R.a 52 k).toInt ≤ 2 * (R.i 54).toInt + 1)
    by_cases c : (k : Int) < (S.i 55).toInt
    · rw [d6 k c]
      rcases b7 k h1 c with z | z
      · exact Or.inl z
      · exact Or.inr ⟨z.1, by omega⟩
    · rcases d7 k (by omega) h2 with z | z
      · exact Or.inl z
      · exact Or.inr ⟨by omega, z.2⟩
theorem CKN.sum {S0 S : CS} (h : CKN S0 S) (w : RWI S0) : SGS S (cnI S).toNat = SGS S0 (cnI S0).toNat ∧ WCS S (cnI S).toNat = WCS S0 (cnI S0).toNat := by
  have h0 := w.2.2.2.1
  refine sum_eq h0.2 (fun i hi => ?_) (show S.i 53 = S0.i 53 from h.1.1.2.2.2.2.1)
  have hi' : (i : Int) < (S0.i 53).toInt := by
    have : cnI S0 = (S0.i 53).toInt := rfl
    omega
  exact ⟨(show S.r 51 i = S0.r 51 i from h.1.2.1 i hi'), fun a ha => (show S.o a = S0.o a ∧ S.ol a = S0.ol a from h.1.2.2.1 i a hi' ha)⟩
/-- tables kept, code kept below c -/
def TBC (c : Int) (s u : RS) : Prop := TBZ s u ∧ CDK c s u
/-- the reference, over a number -/
theorem CNX9.fr {d : Int32} {t : Nat} {f : Int32} {L : List Nat} {S R S0 : CS} {s u s0 : RS} {c : Int} (h : CNX9 d t f L S s R u) (hK : CKN S0 S) (hT : TBC c s0 s) (hL : ∀ j ∈ L, (s0.i 24).toInt ≤ (j : Int)) (h66 : c ≤ (s.a 66 t).toInt) (h44 : (S.i 44).toInt ≤ (R.i 44).toInt) : CKN S0 R ∧ TBC c s0 u ∧ FRB t s u ∧ u.i 63 = s.i 63 ∧ u.i 19 = s.i 19 ∧ phI s + 3 ≤ phI u ∧ (s.i 17).toInt + 1 ≤ (u.i 17).toInt ∧ (s.i 11).toInt + 1 ≤ (u.i 11).toInt ∧ (∀ k : Nat, k ≠ 22 → k ≠ 25 → k ≠ 26 → k ≠ 27 → k ≠ 28 → k ≠ 67 → u.a k = s.a k) ∧ (∀ k : Nat, k ≠ 10 → k ≠ 11 → k ≠ 12 → k ≠ 14 → k ≠ 17 → k ≠ 24 → u.i k = s.i k) ∧ u.b = s.b ∧ ∃ e : Nat, CSE R u f (L ++ [e]) ∧ chn u (u.a 22 (u.a 66 t).toNatClampNeg) (L ++ [e]) ∧ FQL u t (L ++ [e]) ∧ (∀ j ∈ L ++ [e], (s0.i 24).toInt ≤ (j : Int)) := by
  obtain ⟨S1, s1, v, h1, ⟨ea, eb, ei⟩, ⟨ep, e22, e18⟩, ⟨b17, b11⟩, ⟨e, q1, q2, q3, q4, q5, q6, q7, q8, q9, q10, f1, f17, f20, f19, f63, f24, fa, f67, f25, f27, f22, fi, fb⟩, ln⟩ := h
  have ui : ∀ k : Nat, k ≠ 10 → k ≠ 11 → k ≠ 12 → k ≠ 14 → k ≠ 17 → k ≠ 24 → u.i k = s.i k := fun k a b c' d e f => (fi k a b c' d e f).trans (ei k a b c' d e)
  have ua : ∀ k : Nat, k ≠ 22 → k ≠ 25 → k ≠ 26 → k ≠ 27 → k ≠ 28 → k ≠ 67 → u.a k = s.a k := fun k a b c' d e f => (fa k a b c' d e f).trans (by rw [ea])
  have ub : u.b = s.b := fb.1.trans eb
  have e24 : s1.i 24 = s.i 24 := ei 24 (by decide) (by decide) (by decide) (by decide) (by decide)
  obtain ⟨⟨⟨t1, t2, t3, t4, t5, t6, t7, t8, t9, t10⟩, n, g43, g56, ⟨l59, m59⟩, b59, l29, m29, l33, m33, l24, m24⟩, l20, m20⟩ := hT
  have le : (s0.i 24).toInt ≤ (e : Int) := by
    rw [← q1, e24]
    exact l24
  have u20 : u.i 20 = s.i 20 := ui 20 (by decide) (by decide) (by decide) (by decide) (by decide) (by decide)
  refine ⟨hK.num (q5.trans ep) (by rw [q6, e22]; omega) (fun k hk => ?_) h44, ⟨⟨⟨(ui 2 (by decide) (by decide) (by decide) (by decide) (by decide) (by decide)).trans t1, (ui 3 (by decide) (by decide) (by decide) (by decide) (by decide) (by decide)).trans t2, (ui 8 (by decide) (by decide) (by decide) (by decide) (by decide) (by decide)).trans t3, (ui 38 (by decide) (by decide) (by decide) (by decide) (by decide) (by decide)).trans t4, (ui 43 (by decide) (by decide) (by decide) (by decide) (by decide) (by decide)).trans t5, (ui 2 (by decide) (by decide) (by decide) (by decide) (by decide) (by decide)).trans t6, (ui 56 (by decide) (by decide) (by decide) (by decide) (by decide) (by decide)).trans t7, (ua 1 (by decide) (by decide) (by decide) (by decide) (by decide) (by decide)).trans t8, (ua 4 (by decide) (by decide) (by decide) (by decide) (by decide) (by decide)).trans t9, by rw [ub]; exact t10⟩, fun j hj => ?_, fun j hj => ?_, fun j hj => ?_, ⟨?_, fun j k1 k2 => ?_⟩, fun j hj => ?_, ?_, fun j hj => ?_, ?_, fun j hj => ?_, ?_, fun j hj => ?_⟩, ?_, fun j hj => ?_⟩, fun j hj => ?_, ui 63 (by decide) (by decide) (by decide) (by decide) (by decide) (by decide), ui 19 (by decide) (by decide) (by decide) (by decide) (by decide) (by decide), ?_, by omega, by omega, ua, ui, ub, e, q2, q3, q4, fun j hj => ?_⟩
  · rw [q7 k (by rw [e22]; exact hk), e18]
  · rw [ub, ua 40 (by decide) (by decide) (by decide) (by decide) (by decide) (by decide), ua 41 (by decide) (by decide) (by decide) (by decide) (by decide) (by decide)]
    exact n j hj
  · rw [ub, ua 44 (by decide) (by decide) (by decide) (by decide) (by decide) (by decide), ua 46 (by decide) (by decide) (by decide) (by decide) (by decide) (by decide), ua 47 (by decide) (by decide) (by decide) (by decide) (by decide) (by decide), ua 50 (by decide) (by decide) (by decide) (by decide) (by decide) (by decide), ua 51 (by decide) (by decide) (by decide) (by decide) (by decide) (by decide), ua 48 (by decide) (by decide) (by decide) (by decide) (by decide) (by decide), ua 49 (by decide) (by decide) (by decide) (by decide) (by decide) (by decide)]
    exact g43 j hj
  · rw [ua 57 (by decide) (by decide) (by decide) (by decide) (by decide) (by decide), ua 58 (by decide) (by decide) (by decide) (by decide) (by decide) (by decide)]
    exact g56 j hj
  · rw [ui 59 (by decide) (by decide) (by decide) (by decide) (by decide) (by decide)]
    exact l59
  · rw [ui 59 (by decide) (by decide) (by decide) (by decide) (by decide) (by decide)] at k2
    rw [ua 62 (by decide) (by decide) (by decide) (by decide) (by decide) (by decide)]
    exact m59 j k1 k2
  · rw [ua 60 (by decide) (by decide) (by decide) (by decide) (by decide) (by decide), ua 61 (by decide) (by decide) (by decide) (by decide) (by decide) (by decide), ua 62 (by decide) (by decide) (by decide) (by decide) (by decide) (by decide)]
    exact b59 j hj
  · rw [ui 29 (by decide) (by decide) (by decide) (by decide) (by decide) (by decide)]
    exact l29
  · rw [ua 30 (by decide) (by decide) (by decide) (by decide) (by decide) (by decide)]
    exact m29 j hj
  · rw [ui 33 (by decide) (by decide) (by decide) (by decide) (by decide) (by decide)]
    exact l33
  · rw [ua 34 (by decide) (by decide) (by decide) (by decide) (by decide) (by decide), ua 37 (by decide) (by decide) (by decide) (by decide) (by decide) (by decide)]
    exact m33 j hj
  · rw [f24, e24]
    omega
  · have a := f25 j (by omega)
    have b := f27 j (by omega) (fun z => by have := hL j z; omega)
    rw [ea] at a b
    rw [a.1, a.2, b]
    exact m24 j hj
  · rw [u20]
    exact l20
  · rw [f22 j (by rw [ea]; intro z; have : ((s.a 66 t).toNatClampNeg : Int) = (s.a 66 t).toInt := clampI (by omega); omega), ea]
    exact m20 j hj
  · exact ⟨by rw [ua 64 (by decide) (by decide) (by decide) (by decide) (by decide) (by decide)], by rw [ua 65 (by decide) (by decide) (by decide) (by decide) (by decide) (by decide)], by rw [ua 66 (by decide) (by decide) (by decide) (by decide) (by decide) (by decide)], (f67 j (by omega)).trans (by rw [ea]), by rw [ua 68 (by decide) (by decide) (by decide) (by decide) (by decide) (by decide)], by rw [ua 69 (by decide) (by decide) (by decide) (by decide) (by decide) (by decide)], by rw [ua 70 (by decide) (by decide) (by decide) (by decide) (by decide) (by decide)], by rw [ua 71 (by decide) (by decide) (by decide) (by decide) (by decide) (by decide)], by rw [ua 72 (by decide) (by decide) (by decide) (by decide) (by decide) (by decide)], by rw [ua 73 (by decide) (by decide) (by decide) (by decide) (by decide) (by decide)], by rw [ub]⟩
  · unfold phI
    rw [u20]
    omega
  · rcases List.mem_append.mp hj with z | z
    · exact hL j z
    · rcases List.mem_cons.mp z with rfl | z
      · exact le
      · exact absurd z List.not_mem_nil
