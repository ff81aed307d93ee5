/-! both readers: a statement in a row -/
theorem wid1 (v : Int32) : 1 ≤ wid v := by
  unfold wid
  by_cases c1 : v = 301 ∨ v = 302 ∨ v = 218
  · rw [if_pos c1]; decide
  · rw [if_neg c1]
    by_cases c2 : v = 212 ∨ v = 213 ∨ v = 215 ∨ v = 216
    · rw [if_pos c2]; decide
    · rw [if_neg c2]; exact Nat.le_refl _
theorem qj_44 {s u : RS} (h : qj u = qj s) : u.a 44 = s.a 44 := by
  obtain ⟨-, -, -, -, -, -, -, -, -, -, -, -, -, -, -, -, -, -, -, -, -, -, -, -, -, -, -, -, -, a44, -⟩ := qj_eq h
  exact a44
theorem qj_p {s u : RS} (h : qj u = qj s) : u.i 59 = s.i 59 ∧ u.a 60 = s.a 60 ∧ u.a 61 = s.a 61 ∧ u.a 62 = s.a 62 ∧ u.i 29 = s.i 29 := by
  obtain ⟨-, -, -, -, -, i29, -, -, -, i43, -, -, -, -, i56, i59, -, -, -, -, -, -, -, -, -, -, -, -, -, -, -, -, -, -, -, -, -, a58, a60, a61, a62, -⟩ := qj_eq h
  exact ⟨i59, a60, a61, a62, i29⟩
/-- a statement is to begin in row c: its frame T stands on top -/
def STO (c : CEL) (T : Nat) (S : CS) (s : RS) : Prop := TOP S s c ∧ LOW S s c ∧ T = ceT c + wid (S.o c.2.1 0) ∧ tpI s = (T : Int) ∧ s.a 64 T = 2 ∧ s.a 65 T = 0
theorem LOW.mv {S R : CS} {s u : RS} {c : CEL} {T : Nat} (h : LOW S s c) (eo : R.o c.2.1 = S.o c.2.1) (f : FRB T s u) (hT : ceT c + wid (S.o c.2.1 0) ≤ T) : LOW R u c := by
  obtain ⟨b1, b2, b3, b4⟩ := h
  have w1 := wid1 (S.o c.2.1 0)
  unfold LOW
  rw [eo]
  refine ⟨b1, fun q => ?_, fun q => ?_, b4⟩
  · have w2 : wid (S.o c.2.1 0) = 2 := by
      unfold wid
      rw [if_pos (Or.inr (Or.inr q))]
    obtain ⟨x1, x2⟩ := b2 q
    exact ⟨(f (ceT c) (by omega)).2.1.trans x1, (f (ceT c + 1) (by omega)).1.trans x2⟩
  · have z := f (ceT c + wid (S.o c.2.1 0) - 1) (by omega)
    exact ⟨z.2.1.trans (b3 q).1, z.1.trans (b3 q).2⟩
theorem TOP.mv {S R : CS} {s u : RS} {c : CEL} (h : TOP S s c) (eo : R.o c.2.1 = S.o c.2.1) (e53 : R.i 53 = S.i 53) (e43 : u.i 43 = s.i 43) (e56 : u.i 56 = s.i 56) : TOP R u c := by
  unfold TOP at *
  rw [eo, e53, e43, e56]
  exact h
theorem COR.inl {d : Int32} {B : CS} {b : RS} {t0 T : Nat} {L : List CEL} {x : Int} {S : CS} {s : RS} {c : CEL} (h : COR d B b t0 (c :: L) x S s) (ht : TOP S s c) (hT : T = ceT c + wid (S.o c.2.1 0)) : INL S s T (c :: L) := by
  rw [hT]
  exact STK.inl L c _ _ _ h.2.1 (by have := ht.1; omega) (by have := ht.2.1; omega) (by have := ht.2.2; omega)
/-- the statement is done: the row goes on -/
theorem st_done {d : Int32} {B : CS} {b : RS} {t0 T : Nat} {L : List CEL} {x : Int} {S S1 R : CS} {s s1 u : RS} {c : CEL} (hC : COR d B b t0 (c :: L) x S s) (hS : STO c T S s) (hT : t0 ≤ T) (f1 : FRB T s s1) (k1 : TBK s s1) (z1 : CKZ S S1) (j1 : S1.i 38 = S.i 38 ∧ S1.i 53 = S.i 53 ∧ S1.i 56 = S.i 56) (r1 : RTE S S1) (l1 : (s.i 11).toInt ≤ (s1.i 11).toInt ∧ (s.i 17).toInt ≤ (s1.i 17).toInt ∧ s1.i 19 = s.i 19 ∧ phI s ≤ phI s1 + 1) (h : DON d T S1 s1 R u) : COR d B b t0 (c :: L) x R u ∧ TOP R u c ∧ LOW R u c ∧ tpI u = (T : Int) - 1 ∧ (u.i 75 = R.i 36 ∧ (R.i 36 = 0 ∨ R.i 36 = 1)) ∧ T = ceT c + wid (R.o c.2.1 0) := by
  obtain ⟨h1, h2, h3, h4, h5, h6, h7, h8, h9, ⟨h10, h11, h12, h13⟩, h14, h15, h16⟩ := h
  obtain ⟨q1, q2, q3, q4, q5, q6⟩ := hS
  have hin := hC.inl q1 q3
  obtain ⟨t1, t2, t3, t4, t5, t6, t7, t8, t9, t10⟩ := k1.1.1
  obtain ⟨m1, m2, m3, m4, m5, m6, m7, m8, m9⟩ := h6
  have tb : TBR s u := k1.1.r.tr h4 (by rw [t4]; exact Int.le_refl _) (by rw [t5]; exact Int.le_refl _) (by rw [t7]; exact Int.le_refl _)
  have cd : CDK (s.i 20).toInt s u := k1.2.tr (h5.wk k1.2.1)
  have ck : CKZ S R := by
    obtain ⟨c1, c2, c3, c4, c5, c6, c7, c8⟩ := z1
    obtain ⟨d1, d2, d3, d4, d5, d6, d7, d8⟩ := h7
    have e53 := j1.2.1
    refine ⟨d1.trans c1, fun k hk => (d2 k (by rw [e53]; exact hk)).trans (c2 k hk), fun k a hk ha => ?_, fun k hk => (d4 k (by rw [c1]; exact hk)).trans (c4 k hk), by omega, by omega, fun k hk => (d7 k (by omega)).trans (c7 k hk), fun k k1 k2 => ?_⟩
    · have e := c3 k a hk ha
      have g := d3 k a (by rw [e53]; exact hk) ((c2 k hk).trans ha)
      exact ⟨g.1.trans e.1, g.2.trans e.2⟩
    · by_cases z : (k : Int) < (S1.i 55).toInt
      · rw [d7 k z]
        rcases c8 k k1 z with y | y
        · exact Or.inl y
        · exact Or.inr ⟨y.1, by omega⟩
      · rcases d8 k (by omega) k2 with y | y
        · exact Or.inl y
        · exact Or.inr ⟨by omega, y.2⟩
  have rt : RTE S R := by
    unfold RTE at *
    omega
  have f : FRB T s u := f1.tr h3
  have n8 := hC.2.2.2.2.2.2.2.2.1.2.1
  have eo := (hin.o ck c List.mem_cons_self).1
  have w := q3
  refine ⟨hC.mv hin hT h1 f tb cd ⟨m1.trans t1, m2.trans t2, m3.trans t3, m4.trans t5, m5.trans t6, m6.trans t7, m7.trans t8, m8.trans t9, m9.trans t10⟩ ck ⟨h8.1.trans j1.1, h8.2.1.trans j1.2.1, h8.2.2.trans j1.2.2⟩ rt ⟨by omega, by omega, by omega, by rw [h13, l1.2.2.1]⟩ (h15 (by rw [t4]; omega)) (by rw [t4] at h16; exact h16), q1.mv eo (h8.2.1.trans j1.2.1) (m4.trans t5) (m6.trans t7), q2.mv eo f (by omega), h2, h14, by rw [eo]; exact w⟩
/-- the class, before a statement: alive, one more -/
theorem stm_z (S : CS) (v : Int32) : CKZ S (CS.setI (CS.setI S 36 1) 24 v) ∧ RTE S (CS.setI (CS.setI S 36 1) 24 v) := ⟨⟨rfl, fun _ _ => rfl, fun _ _ _ _ => ⟨rfl, rfl⟩, fun _ _ => rfl, Int.le_refl _, Int.le_refl _, fun _ _ => rfl, fun k h1 h2 => absurd (show (k : Int) < (S.i 55).toInt from h2) (by omega)⟩, ⟨Int.le_refl _, Int.le_refl _, Int.le_refl _⟩⟩
theorem stm_r {s : RS} {t : Nat} {v K : Int32} : FRB t s (RS.setA (RS.setI s 53 v) 64 t K) ∧ TBK s (RS.setA (RS.setI s 53 v) 64 t K) := by
  refine ⟨fun j hj => ⟨setA_ne (by omega), rfl, rfl, rfl, rfl, rfl, rfl, rfl, rfl, rfl, rfl⟩, ⟨⟨rfl, rfl, rfl, rfl, rfl, rfl, rfl, rfl, rfl, rfl⟩, fun _ _ => ⟨rfl, rfl, rfl⟩, fun _ _ => ⟨rfl, rfl, rfl, rfl, rfl, rfl, rfl, rfl⟩, fun _ _ => ⟨rfl, rfl⟩, ⟨Int.le_refl _, fun j h1 h2 => absurd (show (j : Int) < (s.i 59).toInt from h2) (by omega)⟩, fun _ _ => ⟨rfl, rfl, rfl⟩, Int.le_refl _, fun _ _ => rfl, Int.le_refl _, fun _ _ => ⟨rfl, rfl⟩, Int.le_refl _, fun _ _ => ⟨rfl, rfl, rfl⟩⟩, Int.le_refl _, fun _ _ => rfl⟩
