/-! the class's reading: a plain row more -/
theorem q_pop6 (N : Nat) (s : CS) (h : 1 ≤ cnI s ∧ cnI s ≤ 400) : ok (f_X6_pop N s) (fun R => R.2 = CS.setI s 53 (s.i 53 - 1) ∧ (s.i 53 - 1).toInt = cnI s - 1) := by
  unfold f_X6_pop
  have e1 : (1 : Int32).toInt = 1 := by decide
  have h' : 1 ≤ (s.i 53).toInt ∧ (s.i 53).toInt ≤ 400 := h
  have e : (s.i 53 - 1).toInt = cnI s - 1 := by
    show _ = (s.i 53).toInt - 1
    rw [toInt_sub] <;> rw [e1] <;> omega
  refine ok_some ⟨?_, e⟩
  show CS.setI s 53 (if 0 < s.i 53 - 1 then s.i 53 - 1 else 0) = _
  by_cases c : 0 < s.i 53 - 1
  · rw [if_pos c]
  · rw [if_neg c]
    have l := le_int (Int32.not_lt.mp c)
    rw [z_t0] at l
    have : s.i 53 - 1 = 0 := Int32.toInt_inj.mp (by rw [z_t0]; omega)
    rw [this]
theorem JJ.row {H : Nat} {x y : Int} {c : List Nat} {X : List (Nat × List Nat)} {P P' : List Nat} {lim lim' : List Int} {s R : CS} {a m : Nat} (h : JJ H x y c X P lim s) (nf : s.i 32 = 0) (hb : CBS H R) (hm : (m : Int) = cnI s) (m4 : m < 400) (hs : SCD s R) (hc : cnI R = (m : Int) + 1) (ha : R.r 51 m = some a) (hr : RSQ s R m) (hl : (c.length : Int) ≤ SGS s m) (hR : ∀ (DT : Nat → List Nat) (KT : Nat → Prop), (∀ q ∈ X, (q.1 : Int) < tcI s ∧ DT q.1 = q.2 ∧ ¬ KT q.1) → (∀ n : Nat, (n : Int) < nmI s → NMT (s.a 49 n) c) → ROW1 R DT KT a c c lim' lim) (hP : ∀ k ∈ P, k ∈ P' ∨ OWS R a k) (hi : lmh lim' ≤ ccI s) (h30 : (R.o a 3).toInt = nmI s) (hj : R.i 34 = s.i 34 ∧ R.i 38 = s.i 38 ∧ R.i 43 = s.i 43 ∧ R.i 44 = s.i 44) (hq : IQ R (m + 1)) (hw : WCS R (m + 1) ≤ eI s) (hg : SGS R (m + 1) ≤ sgI s) (h56 : R.i 56 = s.i 56 ∨ (R.i 56).toInt = (m : Int) ∧ R.o a 0 = 302) : JJ H (x + 50) y c X P' lim' R := by
  obtain ⟨g, n⟩ := h.2 nf
  refine ⟨hb, fun _ => ⟨g.row hm m4 hs hc ha hr hl hR hP (fun _ z => z) hi h30, ?_⟩⟩
  obtain ⟨c1, c2, c3, c4, c5, c6, c7, c8, c9⟩ := n
  obtain ⟨-, ⟨e6, e7, e8, e9⟩⟩ := hs
  have etc : tcI R = tcI s := by unfold tcI; rw [e7]
  have esz : szI R = szI s := by unfold szI; rw [e6]
  have ecc : ccI R = ccI s := by unfold ccI; rw [e9]
  have esg : sgI R = sgI s := by unfold sgI; rw [hj.1]
  have eds : dsI R = dsI s := by unfold dsI; rw [hj.2.1]
  have epl : plI R = plI s := by unfold plI; rw [hj.2.2.2]
  have ee : eI R = eI s := by unfold eI; rw [epl, hj.2.2.1]
  have ecn : (cnI R).toNat = m + 1 := by omega
  refine ⟨by omega, by omega, by omega, by rw [esg]; exact c4, by rw [ecn]; exact hq, by rw [ecn, ee]; exact hw, by rw [ecn, esg]; exact hg, by rw [eds]; exact c8, ?_⟩
  rcases h56 with e | ⟨e, e2⟩
  · rw [e]
    refine ⟨c9.1, by omega, fun b q1 q2 => ?_⟩
    have lt : (s.i 56).toInt.toNat < m := by have := c9.2.1; omega
    have q := hr _ lt
    have z : s.r 51 (s.i 56).toInt.toNat = some b := q.1.symm.trans q2
    rw [(q.2 b z).1]
    exact c9.2.2 b q1 z
  · refine ⟨by omega, by omega, fun b q1 q2 => ?_⟩
    have em : (R.i 56).toInt.toNat = m := by omega
    rw [em, ha] at q2
    cases q2
    exact e2
