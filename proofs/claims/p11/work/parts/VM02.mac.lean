/-! both machines: values, trace, steps, what is opened -/
theorem cl_nat {x : Int32} {n : Nat} (h : x.toInt = (n : Int)) : x.toNatClampNeg = n := by
  show x.toInt.toNat = n
  rw [h]
  exact Int.toNat_natCast _
theorem sub_n1 {x : Int32} {c : Nat} (h : x.toInt = (c : Int) + 1) : (x - 1).toInt = (c : Int) := by
  have e1 : (1 : Int32).toInt = 1 := by decide
  have hi := Int32.toInt_lt x
  rw [toInt_sub] <;> rw [e1] <;> omega
/-- so many values, the same ones -/
def MVS (s : CS) (r : RS) (h : Nat) : Prop := ((s.i 65).toInt = (h : Int) ∧ (r.i 93).toInt = (h : Int) ∧ h ≤ 600) ∧ ∀ k : Nat, k < h → s.a 60 k = r.a 94 k
theorem MVS.push {s : CS} {r : RS} {h : Nat} (m : MVS s r h) (hh : h < 600) (v : Int32) : MVS (CS.setI (CS.putA s 60 (gPut (s.a 60) 600 (s.i 65) v)) 65 (s.i 65 + 1)) (RS.setI (RS.setA r 94 (r.i 93).toNatClampNeg v) 93 (r.i 93 + 1)) (h + 1) := by
  obtain ⟨⟨m1, m2, -⟩, m4⟩ := m
  refine ⟨⟨?_, ?_, by omega⟩, fun k hk => ?_⟩
  · rw [ci_at, ad1 (by omega) (by omega), m1]
    rfl
  · rw [ri_at, ad1 (by omega) (by omega), m2]
    rfl
  · show gPut (s.a 60) 600 (s.i 65) v k = (RS.setA r 94 (r.i 93).toNatClampNeg v).a 94 k
    unfold gPut
    rw [if_pos ⟨by omega, by omega⟩, cl_nat m1, cl_nat m2]
    by_cases e : k = h
    · rw [e, setA_at]
      exact if_pos rfl
    · rw [setA_ne e]
      exact (if_neg e).trans (m4 k (by omega))
theorem MVS.top {s : CS} {r : RS} {h : Nat} (m : MVS s r (h + 1)) : gAt (s.a 60) 600 (s.i 65 - 1) = r.a 94 (r.i 93 - 1).toNatClampNeg ∧ (s.i 65 - 1).toInt = (h : Int) ∧ (r.i 93 - 1).toInt = (h : Int) := by
  obtain ⟨⟨m1, m2, m3⟩, m4⟩ := m
  have q1 : (s.i 65).toInt = (h : Int) + 1 := by omega
  have q2 : (r.i 93).toInt = (h : Int) + 1 := by omega
  have e1 : (s.i 65 - 1).toInt = (h : Int) := sub_n1 q1
  have e2 : (r.i 93 - 1).toInt = (h : Int) := sub_n1 q2
  refine ⟨?_, e1, e2⟩
  unfold gAt
  rw [if_pos ⟨by omega, by omega⟩, cl_nat e1, cl_nat e2]
  exact m4 h (by omega)
theorem MVS.pop {s : CS} {r : RS} {h : Nat} (m : MVS s r (h + 1)) : MVS (CS.setI s 65 (s.i 65 - 1)) (RS.setI r 93 (r.i 93 - 1)) h := by
  obtain ⟨-, e1, e2⟩ := m.top
  obtain ⟨⟨m1, m2, m3⟩, m4⟩ := m
  refine ⟨⟨?_, ?_, by omega⟩, fun k hk => ?_⟩
  · rw [ci_at]
    exact e1
  · rw [ri_at]
    exact e2
  · exact m4 k (by omega)
theorem MVS.of {s S : CS} {r R : RS} {h : Nat} (m : MVS s r h) (e65 : S.i 65 = s.i 65) (e60 : S.a 60 = s.a 60) (e93 : R.i 93 = r.i 93) (e94 : R.a 94 = r.a 94) : MVS S R h := by
  unfold MVS at *
  rw [e65, e60, e93, e94]
  exact m
/-- steps and trace -/
def MTR (s : CS) (r : RS) : Prop := (s.i 70 = r.i 80 ∧ 0 ≤ (r.i 80).toInt ∧ (r.i 80).toInt ≤ 1000) ∧ (s.i 69 = r.i 81 ∧ (0 ≤ (r.i 81).toInt ∧ (r.i 81).toInt ≤ 200)) ∧ ∀ k : Nat, (k : Int) < (r.i 81).toInt → s.a 64 (2 * k) = r.a 82 k ∧ s.a 64 (2 * k + 1) = r.a 83 k
theorem MTR.of {s S : CS} {r R : RS} (m : MTR s r) (e69 : S.i 69 = s.i 69) (e70 : S.i 70 = s.i 70) (e64 : S.a 64 = s.a 64) (e80 : R.i 80 = r.i 80) (e81 : R.i 81 = r.i 81) (e82 : R.a 82 = r.a 82) (e83 : R.a 83 = r.a 83) : MTR S R := by
  unfold MTR at *
  rw [e69, e70, e64, e80, e81, e82, e83]
  exact m
/-- a row of the trace, in both; nothing else changes -/
theorem MTR.note {N : Nat} {s : CS} {r : RS} (m : MTR s r) {x y : Int32} {R : Unit × CS} {V : RS} (e : f_X3_note N s x y = some R) (g : f_X12_row N r x y = some V) : MTR R.2 V ∧ (∀ j : Nat, j ≠ 69 → R.2.i j = s.i j) ∧ (∀ k : Nat, k ≠ 64 → R.2.a k = s.a k) ∧ (R.2.r = s.r ∧ R.2.w = s.w ∧ R.2.o = s.o ∧ R.2.ot = s.ot ∧ R.2.oa = s.oa) ∧ (∀ j : Nat, j ≠ 81 → V.i j = r.i j) ∧ (∀ k : Nat, k ≠ 82 → k ≠ 83 → V.a k = r.a k) := by
  obtain ⟨m1, ⟨m2, m3, m4⟩, m5⟩ := id m
  unfold f_X3_note at e
  unfold f_X12_row at g
  have e200 : (200 : Int32).toInt = 200 := by decide
  have e2 : (2 : Int32).toInt = 2 := by decide
  have e1 : (1 : Int32).toInt = 1 := by decide
  by_cases c : (200 : Int32) ≤ r.i 81
  · rw [if_pos (by rw [m2]; exact c)] at e
    rw [if_pos c] at g
    rw [← Option.some.inj e, ← Option.some.inj g]
    exact ⟨m, fun _ _ => rfl, fun _ _ => rfl, ⟨rfl, rfl, rfl, rfl, rfl⟩, fun _ _ => rfl, fun _ _ _ => rfl⟩
  · have l := lt_int (Int32.not_le.mp c)
    rw [if_neg (by rw [m2]; exact c)] at e
    rw [if_neg c] at g
    obtain ⟨-, g⟩ := hf_ite g
    obtain ⟨n, hn⟩ : ∃ n : Nat, (r.i 81).toInt = (n : Int) := ⟨(r.i 81).toInt.toNat, by omega⟩
    rw [cl_nat hn] at g
    have hs : (s.i 69).toInt = (n : Int) := by rw [m2]; exact hn
    have mu : (2 * s.i 69).toInt = 2 * (n : Int) := by
      rw [toInt_ml, e2, hs] <;> rw [e2, hs] <;> omega
    have mv : (2 * s.i 69 + 1).toInt = ((2 * n + 1 : Nat) : Int) := by
      rw [ad1 (by omega) (by omega), mu]
      omega
    have mu' : (2 * s.i 69).toInt = ((2 * n : Nat) : Int) := by omega
    have gp1 : gPut (s.a 64) 400 (2 * s.i 69) x = upd (s.a 64) (2 * n) x := by
      unfold gPut
      rw [if_pos ⟨by omega, by omega⟩, cl_nat mu']
    have gp2 : ∀ f : Nat → Int32, gPut f 400 (2 * s.i 69 + 1) y = upd f (2 * n + 1) y := fun f => by
      unfold gPut
      rw [if_pos ⟨by omega, by omega⟩, cl_nat mv]
    have eR : R.2 = CS.setI (CS.putA (CS.putA s 64 (upd (s.a 64) (2 * n) x)) 64 (upd (upd (s.a 64) (2 * n) x) (2 * n + 1) y)) 69 (s.i 69 + 1) := by
      rw [← Option.some.inj e, gp1, gp2]
      rfl
    have eV := (Option.some.inj g).symm
    have R64 : ∀ k : Nat, R.2.a 64 k = if k = 2 * n + 1 then y else if k = 2 * n then x else s.a 64 k := fun k => by
      rw [eR]
      rfl
    refine ⟨⟨?_, ⟨?_, ?_, ?_⟩, fun k hk => ?_⟩, fun j hj => ?_, fun k hk => ?_, ?_, fun j hj => ?_, fun k h1 h2 => ?_⟩
    · rw [eR, eV, ci_ne _ _ _ (by decide), ri_ne (by decide)]
      exact m1
    · rw [eR, eV, ci_at, ri_at, m2]
    · rw [eV, ri_at, ad1 (by omega) (by omega)]
      omega
    · rw [eV, ri_at, ad1 (by omega) (by omega)]
      omega
    · rw [R64, R64]
      have V82 : V.a 82 k = if k = n then x else r.a 82 k := by
        rw [eV]
        show (RS.setA (RS.setA r 82 n x) 83 n y).a 82 k = _
        rw [setA_nk (by decide)]
        by_cases z : k = n
        · rw [if_pos z, z, setA_at]
        · rw [if_neg z, setA_ne z]
      have V83 : V.a 83 k = if k = n then y else r.a 83 k := by
        rw [eV]
        show (RS.setA (RS.setA r 82 n x) 83 n y).a 83 k = _
        by_cases z : k = n
        · rw [if_pos z, z, setA_at]
        · rw [if_neg z, setA_ne z, setA_nk (by decide)]
      rw [V82, V83]
      by_cases z : k = n
      · rw [if_neg (show ¬ 2 * k = 2 * n + 1 by omega), if_pos (show 2 * k = 2 * n by omega), if_pos (show 2 * k + 1 = 2 * n + 1 by omega), if_pos z, if_pos z]
        exact ⟨rfl, rfl⟩
      · have hk' : (k : Int) < (r.i 81).toInt := by
          rw [eV, ri_at, ad1 (by omega) (by omega)] at hk
          omega
        rw [if_neg (show ¬ 2 * k = 2 * n + 1 by omega), if_neg (show ¬ 2 * k = 2 * n by omega), if_neg (show ¬ 2 * k + 1 = 2 * n + 1 by omega), if_neg (show ¬ 2 * k + 1 = 2 * n by omega), if_neg z, if_neg z]
        exact m5 k hk'
    · rw [eR, ci_ne _ _ _ hj]
      rfl
    · rw [eR]
      show (CS.putA (CS.putA s 64 (upd (s.a 64) (2 * n) x)) 64 (upd (upd (s.a 64) (2 * n) x) (2 * n + 1) y)).a k = s.a k
      exact (if_neg hk).trans (if_neg hk)
    · rw [eR]
      exact ⟨rfl, rfl, rfl, rfl, rfl⟩
    · rw [eV, ri_ne hj]
      rfl
    · rw [eV]
      show (RS.setA (RS.setA r 82 n x) 83 n y).a k = r.a k
      rw [setA_nk h2, setA_nk h1]
/-- a step, in both -/
theorem MTR.step {N : Nat} {s : CS} {r : RS} (m : MTR s r) {R : Unit × CS} {V : RS} (e : f_X3_step N s = some R) (g : f_X12_step N r = some V) : (R.2 = CS.setI s 72 3 ∧ V = RS.setI (RS.setI r 115 5) 92 (-1)) ∨ ((R.2 = CS.setI s 70 (s.i 70 + 1) ∧ V = RS.setI r 80 (r.i 80 + 1)) ∧ MTR R.2 V ∧ (V.i 80).toInt = (r.i 80).toInt + 1) := by
  obtain ⟨⟨m1, m2, m3⟩, m4, m5⟩ := id m
  unfold f_X3_step at e
  unfold f_X12_step at g
  have e1000 : (1000 : Int32).toInt = 1000 := by decide
  by_cases c : r.i 80 = 1000
  · left
    rw [if_neg (by rw [m1, c]; decide)] at e
    rw [if_pos c] at g
    exact ⟨by rw [← Option.some.inj e], (Option.some.inj g).symm⟩
  · right
    have l : (r.i 80).toInt < 1000 := by
      rcases Int.lt_or_eq_of_le m3 with z | z
      · exact z
      · exact absurd (Int32.toInt_inj.mp (z.trans e1000.symm)) c
    rw [if_pos (by rw [m1, Int32.lt_iff_toInt_lt, e1000]; exact l)] at e
    rw [if_neg c] at g
    have eR : R.2 = CS.setI s 70 (s.i 70 + 1) := by rw [← Option.some.inj e]
    have eV : V = RS.setI r 80 (r.i 80 + 1) := (Option.some.inj g).symm
    have a1 : (r.i 80 + 1).toInt = (r.i 80).toInt + 1 := ad1 (by omega) (by omega)
    refine ⟨⟨eR, eV⟩, ⟨⟨?_, ?_, ?_⟩, ?_, ?_⟩, ?_⟩
    · rw [eR, eV, ci_at, ri_at, m1]
    · rw [eV, ri_at, a1]
      omega
    · rw [eV, ri_at, a1]
      omega
    · rw [eR, eV, ci_ne _ _ _ (by decide), ri_ne (by decide)]
      exact m4
    · rw [eV, ri_ne (by decide), eR]
      exact m5
    · rw [eV, ri_at]
      exact a1
