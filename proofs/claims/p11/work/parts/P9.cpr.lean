/-! the class's reading: the price of a row more -/
theorem rowA.of {s : CS} {n a : Nat} (h : s.r 51 n = some a) : rowA s n = a := by unfold rowA; rw [h]; rfl
theorem RCH.len {s : CS} {DT : Nat → List Nat} {KT : Nat → Prop} {n : Nat} {c : List Nat} {lim : List Int} (h : RCH s DT KT n c lim) (ht : ∀ (m a : Nat), n = m + 1 → s.r 51 m = some a → ¬ s.o a 0 = 305) : (c.length : Int) ≤ SGS s n := by
  cases n with
  | zero =>
    have e : c = [] := h.1
    rw [e]
    show (0 : Int) ≤ 0
    omega
  | succ n =>
    obtain ⟨a, c0, lim', h1, h2, ⟨h3, h4, h5⟩, h6⟩ := h
    have ne := ht n a rfl h1
    have er := rowA.of h1
    show (c.length : Int) ≤ SGS s n + sgn s (rowA s n)
    rw [er]
    have sg0 : 0 ≤ sgn s a := by
      unfold sgn
      by_cases q : s.o a 0 = 302
      · rw [if_pos q]; decide
      · rw [if_neg q]
        by_cases q2 : s.o a 0 = 301 ∨ s.o a 0 = 212 ∨ s.o a 0 = 218 ∨ s.o a 0 = 213 ∨ s.o a 0 = 215 ∨ s.o a 0 = 216
        · rw [if_pos q2]; decide
        · rw [if_neg q2]; decide
    have ax : arx s a ≤ sgn s a := by
      unfold arx
      by_cases q : s.o a 0 = 302
      · rw [if_pos q]; unfold sgn; rw [if_pos q]; decide
      · rw [if_neg q]; exact sg0
    have ax0 : ¬ s.o a 0 = 302 → arx s a = 0 := fun q => by unfold arx; rw [if_neg q]
    have one : ∀ v : Int32, (v = 212 ∨ v = 213 ∨ v = 215 ∨ v = 216) → s.o a 0 = v → sgn s a = 1 := fun v hv e => by
      unfold sgn
      rw [e]
      rcases hv with z | z | z | z <;> rw [z] <;> rfl
    have cons : ∀ p : Nat, c = p :: c0 → sgn s a = 1 → (c.length : Int) ≤ SGS s n + sgn s a := fun p e q => by
      have q0 := ax0 (fun w => by unfold sgn at q; rw [if_pos w] at q; exact absurd q (by decide))
      rw [e, q]
      have : (p :: c0).length = c0.length + 1 := rfl
      omega
    rcases h5 with ⟨-, e, -⟩ | ⟨-, e, -⟩ | ⟨-, e, -⟩ | ⟨-, e, -⟩ | ⟨-, e, -⟩ | ⟨-, e, -⟩ | ⟨-, e, -⟩ | ⟨q, e, -⟩ | ⟨q, e, -⟩ | ⟨q, e, -⟩ | ⟨q, e, -⟩ | ⟨q, e, -⟩
    · rw [e]; omega
    · rw [e]; omega
    · rw [e]; omega
    · rw [e]; omega
    · rw [e]; omega
    · rw [e]; omega
    · rw [e]; omega
    · exact cons 0 e (one 212 (by decide) q)
    · exact cons 1 e (one 213 (by decide) q)
    · exact cons 2 e (one 215 (by decide) q)
    · exact absurd q ne
    · exact cons 3 e (one 216 (by decide) q)
theorem RSQ.put {s R : CS} {n a : Nat} (hs : RSQ s R n) (nr : NR s n) (ha : R.r 51 n = some a) : WCS R (n + 1) = WCS s n + cost R a ∧ SGS R (n + 1) = SGS s n + sgn R a ∧ BLS R (n + 1) = BLS s n + (if R.o a 0 = 301 then 1 else 0) ∧ AMS R (n + 1) = AMS s n + (if R.o a 0 = 302 then 1 else 0) ∧ KLS R (n + 1) = (if R.o a 0 = 302 then fun _ => false else if R.o a 0 = 303 ∧ 97 ≤ (R.ol a).toInt ∧ (R.ol a).toInt ≤ 122 then fun v : Nat => (v : Int) = (R.ol a).toInt - 97 || KLS s n v else KLS s n) := by
  obtain ⟨i1, i2, i3, i4, i5⟩ := hs.sums nr
  have er := rowA.of ha
  refine ⟨?_, ?_, ?_, ?_, ?_⟩
  · show WCS R n + cost R (rowA R n) = _
    rw [i1, er]
  · show SGS R n + sgn R (rowA R n) = _
    rw [i2, er]
  · show BLS R n + _ = _
    rw [i3, er]
  · show AMS R n + _ = _
    rw [i4, er]
  · show (if R.o (rowA R n) 0 = 302 then fun _ => false else if R.o (rowA R n) 0 = 303 ∧ 97 ≤ (R.ol (rowA R n)).toInt ∧ (R.ol (rowA R n)).toInt ≤ 122 then fun v : Nat => (v : Int) = (R.ol (rowA R n)).toInt - 97 || KLS R n v else KLS R n) = _
    rw [i5, er]
theorem IQ.put {s R : CS} {n a : Nat} (h : IQ s n) (hs : RSQ s R n) (nr : NR s n) (ha : R.r 51 n = some a) (hp : cnt (KLS s n) 26 + 3 ≤ cost R a + 3 * (if R.o a 0 = 301 then 1 else 0) + 20 * (if R.o a 0 = 302 then 1 else 0) + cnt (KLS R (n + 1)) 26) : IQ R (n + 1) := fun m hm => by
  by_cases c : m ≤ n
  · exact (h.of hs nr) m c
  · have e : m = n + 1 := by omega
    have h0 := h n (Nat.le_refl n)
    obtain ⟨p1, p2, p3, p4, p5⟩ := hs.put nr ha
    rw [e, p1, p3, p4]
    omega
/-- a row that is no block, arm or short label -/
theorem IQ.plain {s R : CS} {n a : Nat} (h : IQ s n) (hs : RSQ s R n) (nr : NR s n) (ha : R.r 51 n = some a) (h0 : ¬ R.o a 0 = 300 ∧ ¬ R.o a 0 = 301 ∧ ¬ R.o a 0 = 302 ∧ ¬ (R.o a 0 = 303 ∧ 97 ≤ (R.ol a).toInt ∧ (R.ol a).toInt ≤ 122)) : IQ R (n + 1) ∧ WCS R (n + 1) = WCS s n + 3 := by
  obtain ⟨p1, p2, p3, p4, p5⟩ := hs.put nr ha
  obtain ⟨q1, q2, q3, q4⟩ := h0
  have ec : cost R a = 3 := by
    unfold cost
    rw [if_neg (fun z => z.elim q1 q2), if_neg q3, if_neg q4]
  refine ⟨h.put hs nr ha ?_, by rw [p1, ec]⟩
  rw [p5, if_neg q3, if_neg q4, ec, if_neg q2, if_neg q3]
  omega
theorem IQ.block {s R : CS} {n a : Nat} (h : IQ s n) (hs : RSQ s R n) (nr : NR s n) (ha : R.r 51 n = some a) (h0 : R.o a 0 = 301) : IQ R (n + 1) ∧ WCS R (n + 1) = WCS s n := by
  obtain ⟨p1, p2, p3, p4, p5⟩ := hs.put nr ha
  have q3 : ¬ R.o a 0 = 302 := by rw [h0]; decide
  have q4 : ¬ (R.o a 0 = 303 ∧ 97 ≤ (R.ol a).toInt ∧ (R.ol a).toInt ≤ 122) := fun z => by
    have := z.1
    rw [h0] at this
    exact absurd this (by decide)
  have ec : cost R a = 0 := by
    unfold cost
    rw [if_pos (Or.inr h0)]
  refine ⟨h.put hs nr ha ?_, by rw [p1, ec]; omega⟩
  rw [p5, if_neg q3, if_neg q4, ec, if_pos h0, if_neg q3]
  omega
theorem IQ.arm {s R : CS} {n a : Nat} (h : IQ s n) (hs : RSQ s R n) (nr : NR s n) (ha : R.r 51 n = some a) (h0 : R.o a 0 = 302) : IQ R (n + 1) ∧ WCS R (n + 1) = WCS s n + 9 := by
  obtain ⟨p1, p2, p3, p4, p5⟩ := hs.put nr ha
  have q1 : ¬ (R.o a 0 = 300 ∨ R.o a 0 = 301) := by rw [h0]; decide
  have q2 : ¬ R.o a 0 = 301 := by rw [h0]; decide
  have ec : cost R a = 9 := by
    unfold cost
    rw [if_neg q1, if_pos h0]
  refine ⟨h.put hs nr ha ?_, by rw [p1, ec]⟩
  rw [ec, if_neg q2, if_pos h0]
  have l := (cnt.le (KLS s n) 26).2
  have l2 := (cnt.le (KLS R (n + 1)) 26).1
  omega
/-- a label of one letter that is new -/
theorem IQ.label {s R : CS} {n a : Nat} (h : IQ s n) (hs : RSQ s R n) (nr : NR s n) (ha : R.r 51 n = some a) (h0 : R.o a 0 = 303 ∧ 97 ≤ (R.ol a).toInt ∧ (R.ol a).toInt ≤ 122) (hn : KLS s n ((R.ol a).toInt - 97).toNat = false) : IQ R (n + 1) ∧ WCS R (n + 1) = WCS s n + 2 := by
  obtain ⟨p1, p2, p3, p4, p5⟩ := hs.put nr ha
  have q1 : ¬ (R.o a 0 = 300 ∨ R.o a 0 = 301) := by rw [h0.1]; decide
  have q2 : ¬ R.o a 0 = 301 := by rw [h0.1]; decide
  have q3 : ¬ R.o a 0 = 302 := by rw [h0.1]; decide
  have ec : cost R a = 2 := by
    unfold cost
    rw [if_neg q1, if_neg q3, if_pos h0]
  refine ⟨h.put hs nr ha ?_, by rw [p1, ec]⟩
  have ev : ((((R.ol a).toInt - 97).toNat : Nat) : Int) = (R.ol a).toInt - 97 := Int.toNat_of_nonneg (by omega)
  have k : cnt (KLS R (n + 1)) 26 = cnt (KLS s n) 26 + 1 := by
    refine cnt.put (v := ((R.ol a).toInt - 97).toNat) hn ?_ (fun i hi => ?_) (by omega)
    · rw [p5, if_neg q3, if_pos h0]
      show (decide (((((R.ol a).toInt - 97).toNat : Nat) : Int) = (R.ol a).toInt - 97) || _) = true
      rw [decide_eq_true ev]; rfl
    · rw [p5, if_neg q3, if_pos h0]
      show (decide ((i : Int) = (R.ol a).toInt - 97) || KLS s n i) = KLS s n i
      rw [decide_eq_false (by omega)]; rfl
  rw [k, ec, if_neg q2, if_neg q3]
  omega
