/-! both readers: the tokens, side by side -/
def tm (x : Int32) : Int32 := if x.toInt < 128 then x else if x.toInt < 200 then x + 172 else x + 210
theorem tm_0 : tm 0 = 0 := by decide
theorem tm_1 : tm 1 = 1 := by decide
theorem tm_2 : tm 2 = 2 := by decide
theorem tm_6 : tm 6 = 6 := by decide
def tyR (x : Int32) : Prop := (0 ≤ x.toInt ∧ x.toInt ≤ 135) ∨ (200 ≤ x.toInt ∧ x.toInt ≤ 224)
theorem ty_0 : tyR 0 := Or.inl ⟨by decide, by decide⟩
theorem ty_1 : tyR 1 := Or.inl ⟨by decide, by decide⟩
theorem ty_2 : tyR 2 := Or.inl ⟨by decide, by decide⟩
theorem ty_6 : tyR 6 := Or.inl ⟨by decide, by decide⟩
theorem tm_int {x : Int32} (h : tyR x) : (x.toInt < 128 ∧ (tm x).toInt = x.toInt) ∨ ((128 ≤ x.toInt ∧ x.toInt < 200) ∧ (tm x).toInt = x.toInt + 172) ∨ (200 ≤ x.toInt ∧ (tm x).toInt = x.toInt + 210) := by
  have e1 : (172 : Int32).toInt = 172 := by decide
  have e2 : (210 : Int32).toInt = 210 := by decide
  unfold tyR at h
  unfold tm
  by_cases c : x.toInt < 128
  · rw [if_pos c]
    exact Or.inl ⟨c, rfl⟩
  · rw [if_neg c]
    by_cases d : x.toInt < 200
    · rw [if_pos d]
      refine Or.inr (Or.inl ⟨⟨by omega, d⟩, ?_⟩)
      rw [toInt_add] <;> rw [e1] <;> omega
    · rw [if_neg d]
      refine Or.inr (Or.inr ⟨by omega, ?_⟩)
      rw [toInt_add] <;> rw [e2] <;> omega
theorem tm_inj {x y : Int32} (hx : tyR x) (hy : tyR y) (h : tm x = tm y) : x = y := by
  have e : (tm x).toInt = (tm y).toInt := by rw [h]
  have a := tm_int hx
  have b := tm_int hy
  refine Int32.toInt_inj.mp ?_
  unfold tyR at hx hy
  omega
/-- the tapes and the words are the same -/
def TPR (S : CS) (s : RS) : Prop := S.i 41 = s.i 2 ∧ (0 ≤ (s.i 2).toInt ∧ (s.i 2).toInt ≤ 900) ∧ (∀ k : Nat, (k : Int) < (s.i 2).toInt → S.a 0 k = s.a 1 k) ∧ (∀ k : Nat, k < 25 → S.b 40 k = s.b 9 k)
theorem TPR.of {S R : CS} {s u : RS} (h : TPR S s) (hc : TKC S R) (hr : TU s u) : TPR R u := by
  obtain ⟨h1, h2, h3, h4⟩ := h
  have e1 : R.i 41 = S.i 41 := hc.2 41 (by decide) (by decide) (by decide) (by decide)
  have e2 : u.i 2 = s.i 2 := hr.taped
  have e3 : R.a = S.a := hc.1.2.2.2.2.2.2.2.2.2.2
  have e4 : R.b = S.b := hc.1.2.2.2.2.2.2.2.2.2.1
  refine ⟨by rw [e1, e2]; exact h1, by rw [e2]; exact h2, fun k hk => ?_, fun k hk => ?_⟩
  · rw [e2] at hk
    rw [e3, hr.2.1]
    exact h3 k hk
  · rw [e4, hr.2.2]
    exact h4 k hk
theorem by_lo {S : CS} {s : RS} (h : TPR S s) {x : Int32} (h0 : 0 ≤ x.toInt) (h1 : x.toInt < (s.i 2).toInt) : BY S x = bt s x := by
  obtain ⟨a1, a2, a3, a4⟩ := h
  unfold BY bt
  rw [if_pos ⟨⟨h0, by omega⟩, by rw [a1, Int32.lt_iff_toInt_lt]; exact h1⟩, if_neg (fun q => by have := le_int q; omega)]
  have := clampI h0
  exact a3 _ (by omega)
theorem by_hi {S : CS} {s : RS} (h : TPR S s) {x : Int32} (h1 : (s.i 2).toInt ≤ x.toInt) : BY S x = -1 ∧ bt s x = 0 := by
  obtain ⟨a1, a2, a3, a4⟩ := h
  unfold BY bt
  exact ⟨if_neg (fun q => by have := lt_int q.2; rw [a1] at this; omega), if_pos (Int32.le_iff_toInt_le.mpr h1)⟩
/-- the bytes there: the same, or behind the end -/
theorem by_bt {S : CS} {s : RS} (h : TPR S s) {x : Int32} (h0 : 0 ≤ x.toInt) : (x.toInt < (s.i 2).toInt ∧ BY S x = bt s x) ∨ ((s.i 2).toInt ≤ x.toInt ∧ BY S x = -1 ∧ bt s x = 0) := by
  rcases Int.lt_or_le x.toInt (s.i 2).toInt with c | c
  · exact Or.inl ⟨c, by_lo h h0 c⟩
  · exact Or.inr ⟨c, by_hi h c⟩
theorem by_eq {S : CS} {s : RS} (h : TPR S s) {x v : Int32} (h0 : 0 ≤ x.toInt) (hv : ¬ v = -1 ∧ ¬ v = 0) : BY S x = v ↔ bt s x = v := by
  rcases by_bt h h0 with ⟨-, e⟩ | ⟨-, e1, e2⟩
  · rw [e]
  · rw [e1, e2]
    exact ⟨fun q => absurd q.symm hv.1, fun q => absurd q.symm hv.2⟩
theorem dg_iff {x : Int32} : isDg x ↔ (48 ≤ x ∧ x ≤ 57) := by
  unfold isDg
  rw [Int32.le_iff_toInt_le, Int32.le_iff_toInt_le]
  exact Iff.rfl
theorem lt_iff9 {x : Int32} : isLt x ↔ (97 ≤ x ∧ x ≤ 122) := by
  unfold isLt
  rw [Int32.le_iff_toInt_le, Int32.le_iff_toInt_le]
  exact Iff.rfl
theorem by_dg {S : CS} {s : RS} (h : TPR S s) {x : Int32} (h0 : 0 ≤ x.toInt) : isDg (BY S x) ↔ isDg (bt s x) := by
  rcases by_bt h h0 with ⟨-, e⟩ | ⟨-, e1, e2⟩
  · rw [e]
  · rw [e1, e2]
    have em : (-1 : Int32).toInt = -1 := by decide
    unfold isDg
    rw [em, z_t0]
    omega
theorem by_lt {S : CS} {s : RS} (h : TPR S s) {x : Int32} (h0 : 0 ≤ x.toInt) : isLt (BY S x) ↔ isLt (bt s x) := by
  rcases by_bt h h0 with ⟨-, e⟩ | ⟨-, e1, e2⟩
  · rw [e]
  · rw [e1, e2]
    have em : (-1 : Int32).toInt = -1 := by decide
    unfold isLt
    rw [em, z_t0]
    omega
/-- what the class's tokens ask, as equations -/
theorem e_by {N : Nat} {S : CS} {x : Int32} : f_X9_byteAt N S x = some (BY S x, S) := by
  obtain ⟨R, e, h1, h2⟩ := q_by (N := N) (s := S) x
  rw [e, ← h2, ← h1]
theorem e_dg1 {N : Nat} {S : CS} {x : Int32} (h : isDg x) : f_X9_isDigit N S x = some (1, S) := by
  unfold f_X9_isDigit
  have g := dg_iff.mp h
  exact (if_neg (Int32.not_lt.mpr g.1)).trans (if_neg (Int32.not_lt.mpr g.2))
theorem e_dg0 {N : Nat} {S : CS} {x : Int32} (h : ¬ isDg x) : f_X9_isDigit N S x = some (0, S) := by
  obtain ⟨R, e, h1, h2, h3⟩ := q_dg (N := N) (s := S) x
  rw [e]
  have z : R.1 = 0 := Classical.byContradiction (fun q => h (h2 q))
  rw [← h1, ← z]
theorem e_lt1 {N : Nat} {S : CS} {x : Int32} (h : isLt x) : f_X9_isLetter N S x = some (1, S) := by
  unfold f_X9_isLetter
  have g := lt_iff9.mp h
  exact (if_neg (Int32.not_lt.mpr g.1)).trans (if_neg (Int32.not_lt.mpr g.2))
theorem e_lt0 {N : Nat} {S : CS} {x : Int32} (h : ¬ isLt x) : f_X9_isLetter N S x = some (0, S) := by
  obtain ⟨R, e, h1, h2, h3⟩ := q_lt (N := N) (s := S) x
  rw [e]
  have z : R.1 = 0 := Classical.byContradiction (fun q => h (h2 q))
  rw [← h1, ← z]
theorem r_dg1 {N : Nat} {s : RS} {x : Int32} (h : isDg x) : f_X12_isDigit N s x = some (1, s) := by rw [e_isDigit, if_pos (dg_iff.mp h)]
theorem r_dg0 {N : Nat} {s : RS} {x : Int32} (h : ¬ isDg x) : f_X12_isDigit N s x = some (0, s) := by rw [e_isDigit, if_neg (fun q => h (dg_iff.mpr q))]
theorem r_lt1 {N : Nat} {s : RS} {x : Int32} (h : isLt x) : f_X12_isLetter N s x = some (1, s) := by rw [e_isLetter, if_pos (lt_iff9.mp h)]
theorem r_lt0 {N : Nat} {s : RS} {x : Int32} (h : ¬ isLt x) : f_X12_isLetter N s x = some (0, s) := by rw [e_isLetter, if_neg (fun q => h (lt_iff9.mpr q))]
/-- what the tokens are: the same, in the words of each -/
def TKR (S : CS) (s : RS) : Prop := S.i 44 = s.i 11 ∧ S.i 42 = s.i 12 ∧ s.i 10 = tm (S.i 43) ∧ tyR (S.i 43) ∧ (S.i 43 = 2 → S.l = s.l) ∧ (S.i 43 = 1 ∨ S.i 43 = 3 ∨ S.i 43 = 4 ∨ S.i 43 = 5 → S.i 45 = s.i 14)
theorem TKR.is {S : CS} {s : RS} (h : TKR S s) {c d : Int32} (hc : tyR c) (e : tm c = d) : S.i 43 = c ↔ s.i 10 = d := by
  rw [h.2.2.1, ← e]
  exact ⟨fun q => by rw [q], fun q => tm_inj h.2.2.2.1 hc q⟩
/-- the place where both stand -/
def POS (S : CS) (s : RS) : Prop := S.i 42 = s.i 12 ∧ 0 ≤ (s.i 12).toInt ∧ (s.i 12).toInt ≤ (s.i 2).toInt
/-- digits -/
theorem y_num {N : Nat} : ∀ (n1 n2 : Nat) (S : CS) (s : RS) (x1 : Int32) (m : Nat) (R : Unit × CS) (u : RS), TPR S s → POS S s → S.i 44 = s.i 11 → 0 ≤ (s.i 11).toInt → (s.i 12).toInt = (s.i 11).toInt + m → x1.toInt = (m : Int) → (m ≤ 9 → S.i 45 = s.i 14) → f_X9_takeNumber_7 N n1 S x1 = some R → f_X12_next_116 N n2 s = some u → TKR R.2 u
  | 0, _, _, _, _, _, _, _, _, _, _, _, _, _, _, e, _ => by cases e
  | n1 + 1, 0, _, _, _, _, _, _, _, _, _, _, _, _, _, _, g => by cases g
  | n1 + 1, n2 + 1, S, s, x1, m, R, u, hT, hP, h44, h0, hm, hx, hv, e, g => by
    have e' : b_X9_takeNumber_7 N (f_X9_takeNumber_7 N n1) S x1 = some R := e
    have g' : b_X12_next_116 N (f_X12_next_116 N n2) s = some u := g
    unfold b_X9_takeNumber_7 f_X9_takeNumber_67 at e'
    unfold b_X12_next_116 f_X12_next_211 at g'
    obtain ⟨p1, p2, p3⟩ := hP
    obtain ⟨t1, t2, t3, t4⟩ := id hT
    have e9 : (9 : Int32).toInt = 9 := by decide
    have e900 : (900 : Int32).toInt = 900 := by decide
    have i12 : 0 ≤ s.i 12 := by rw [Int32.le_iff_toInt_le, z_t0]; exact p2
    have i2 : s.i 2 ≤ 900 := by rw [Int32.le_iff_toInt_le, e900]; exact t2.2
    have es : (s.i 12 - s.i 11).toInt = (m : Int) := by rw [toInt_sub] <;> omega
    have eS : S.i 42 - S.i 44 = s.i 12 - s.i 11 := by rw [p1, h44]
    rw [e_at i12 i2, ob_some] at g'
    have fin : ¬ isDg (bt s (s.i 12)) → TKR R.2 u := fun d => by
      have dC : ¬ isDg (BY S (S.i 42)) := by rw [p1, by_dg hT p2]; exact d
      have e2 : (if S.i 42 - S.i 44 ≤ 9 then some ((), CS.setI S 43 1) else some ((), CS.setI S 43 6)) = some R := by
        by_cases c : (900 : Int32) ≤ x1
        · rw [if_pos c] at e'; exact e'
        · rw [if_neg c, e_by, ob_some, e_dg0 dC, ob_some, if_pos rfl] at e'; exact e'
      have g2 : (if s.i 12 - s.i 11 ≤ 9 then some (RS.setI s 10 1) else some (RS.setI s 10 6)) = some u := by
        rw [r_dg0 d, ob_some, if_pos rfl] at g'; exact g'
      rw [eS] at e2
      by_cases c : s.i 12 - s.i 11 ≤ 9
      · rw [if_pos c] at e2 g2
        cases e2
        cases g2
        have c' := le_int c
        exact ⟨h44, p1, tm_1.symm, ty_1, fun q => absurd (show (1 : Int32) = 2 from q) (by decide), fun _ => hv (by omega)⟩
      · rw [if_neg c] at e2 g2
        cases e2
        cases g2
        exact ⟨h44, p1, tm_6.symm, ty_6, fun q => absurd (show (6 : Int32) = 2 from q) (by decide), fun q => absurd (show (6 : Int32) = 1 ∨ (6 : Int32) = 3 ∨ (6 : Int32) = 4 ∨ (6 : Int32) = 5 from q) (by decide)⟩
    by_cases d : isDg (bt s (s.i 12))
    · have dC : isDg (BY S (S.i 42)) := by rw [p1, by_dg hT p2]; exact d
      have inr : (s.i 12).toInt < (s.i 2).toInt := by
        have := BY.dg (Or.inl dC)
        rw [p1, t1] at this
        exact this.2.2
      have eb : BY S (S.i 42) = bt s (s.i 12) := by rw [p1]; exact by_lo hT p2 inr
      have c9 : ¬ (900 : Int32) ≤ x1 := fun q => by
        have := le_int q
        omega
      have e12 : (s.i 12 + 1).toInt = (s.i 12).toInt + 1 := ad1 p2 (by omega)
      have ex1 : (x1 + 1).toInt = ((m + 1 : Nat) : Int) := by rw [ad1 (by omega) (by omega)]; omega
      rw [if_neg c9, e_by, ob_some, e_dg1 dC, ob_some, if_neg n10, e_by, ob_some] at e'
      rw [r_dg1 d, ob_some, if_neg n10] at g'
      by_cases c : (9 : Int32) ≤ s.i 12 - s.i 11
      · have c' := le_int c
        have g2 : f_X12_next_116 N n2 (RS.setI (RS.setI s 14 (s.i 14)) 12 (s.i 12 + 1)) = some u := by rw [if_pos c] at g'; exact g'
        refine y_num n1 n2 _ _ (x1 + 1) (m + 1) R u (hT.of (((TKC.rf S).i 45 _ (by omega)).i 42 _ (by omega)) ((TU.i14 s _).tr (TU.i12 _ _))) ⟨?_, ?_, ?_⟩ h44 h0 ?_ ex1 (fun q => by omega) e' g2
        · show S.i 42 + 1 = s.i 12 + 1
          rw [p1]
        · show 0 ≤ (s.i 12 + 1).toInt
          omega
        · show (s.i 12 + 1).toInt ≤ (s.i 2).toInt
          omega
        · show (s.i 12 + 1).toInt = (s.i 11).toInt + ((m + 1 : Nat) : Int)
          omega
      · have c' := lt_int (Int32.not_le.mp c)
        have g2 : f_X12_next_116 N n2 (RS.setI (RS.setI s 14 (((10 * (s.i 14)) + bt s (s.i 12)) - 48)) 12 (s.i 12 + 1)) = some u := by
          rw [if_neg c, e_at i12 i2, ob_some] at g'; exact g'
        refine y_num n1 n2 _ _ (x1 + 1) (m + 1) R u (hT.of (((TKC.rf S).i 45 _ (by omega)).i 42 _ (by omega)) ((TU.i14 s _).tr (TU.i12 _ _))) ⟨?_, ?_, ?_⟩ h44 h0 ?_ ex1 (fun q => ?_) e' g2
        · show S.i 42 + 1 = s.i 12 + 1
          rw [p1]
        · show 0 ≤ (s.i 12 + 1).toInt
          omega
        · show (s.i 12 + 1).toInt ≤ (s.i 2).toInt
          omega
        · show (s.i 12 + 1).toInt = (s.i 11).toInt + ((m + 1 : Nat) : Int)
          omega
        · show S.i 45 * 10 + BY S (S.i 42) - 48 = 10 * s.i 14 + bt s (s.i 12) - 48
          rw [hv (by omega), eb, Int32.mul_comm]
    · exact fin d
