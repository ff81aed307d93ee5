/-! the class's reading: the rows with one more, with one less -/
/-- code, targets, cases and names are the same -/
def SCD (s R : CS) : Prop := (R.a 15 = s.a 15 ∧ R.a 16 = s.a 16 ∧ R.a 17 = s.a 17 ∧ R.a 19 = s.a 19 ∧ R.a 49 = s.a 49) ∧ (R.i 20 = s.i 20 ∧ R.i 21 = s.i 21 ∧ R.i 50 = s.i 50 ∧ R.i 22 = s.i 22)
theorem GW.row {cD c c' : List Nat} {X : List (Nat × List Nat)} {P P' : List Nat} {lim lim' : List Int} {s R : CS} {a m : Nat} (h : GW cD c X P lim s) (hm : (m : Int) = cnI s) (m4 : m < 400) (hs : SCD s R) (hc : cnI R = (m : Int) + 1) (ha : R.r 51 m = some a) (hr : RSQ s R m) (hl : (c.length : Int) ≤ SGS s m + arx R a) (hR : ∀ (DT : Nat → List Nat) (KT : Nat → Prop), (∀ q ∈ X, (q.1 : Int) < tcI s ∧ DT q.1 = q.2 ∧ ¬ KT q.1) → (∀ n : Nat, (n : Int) < nmI s → NMT (s.a 49 n) c) → ROW1 R DT KT a c c' lim' lim) (hP : ∀ k ∈ P, k ∈ P' ∨ OWS R a k) (hN : ∀ x : Int32, NMT x c → NMT x c') (hi : lmh lim' ≤ ccI s) (h30 : (R.o a 3).toInt ≤ nmI s ∧ ∀ j b : Nat, (j : Int) < cnI s → s.r 51 j = some b → (s.o b 3).toInt ≤ (R.o a 3).toInt) : GW cD c' X P' lim' R := by
  obtain ⟨D, DT, KT, h1, h2, h3, h4, h5, ⟨n, n1, n2, n3⟩, h7, h8⟩ := h
  obtain ⟨⟨e1, e2, e3, e4, e5⟩, ⟨e6, e7, e8, e9⟩⟩ := hs
  have en : n = m := by omega
  rw [en] at n3
  have etc : tcI R = tcI s := by unfold tcI; rw [e7]
  have esz : szI R = szI s := by unfold szI; rw [e6]
  have enm : nmI R = nmI s := by unfold nmI; rw [e8]
  have ecc : ccI R = ccI s := by unfold ccI; rw [e9]
  have nr := n3.nr
  refine ⟨D, DT, KT, ?_, ?_, fun t q1 q2 q3 => ?_, by rw [esz]; exact h4, by rw [etc]; exact h5, ⟨m + 1, by omega, by omega, a, c, lim, ha, ?_, hR DT KT h5 h7, ?_⟩, fun k hk => ?_, by rw [etc]; exact h8.1, by rw [ecc]; exact hi, fun i b hi' e => ?_⟩
  · unfold CDT at *; rw [e1, e2, etc, esz]; exact h1
  · unfold TGS at *; rw [e3, etc, esz]; exact h2
  · rw [etc] at q1
    rw [e3] at q3
    rcases h3 t q1 q2 q3 with z | z
    · rcases hP t z with w | w
      · exact Or.inl w
      · exact Or.inr ⟨m, a, by omega, ha, w⟩
    · exact Or.inr (z.of (by omega) (fun i b hi' e => by
        have q := hr i (by omega)
        exact ⟨q.1.trans e, (q.2 b e).1⟩))
  · rw [(hr.sums nr).2.1]; exact hl
  · exact n3.mono (by omega) (fun _ _ => ⟨rfl, Iff.rfl⟩) (fun t _ q => by rw [e3]; exact q) hr (fun k _ => by rw [e4]) (fun _ _ _ _ k _ => by rw [e5]) nr
  · rw [enm] at hk
    rw [e5]
    exact hN _ (h7 k hk)
  · have old : ∀ j d : Nat, j < m → R.r 51 j = some d → s.r 51 j = some d ∧ R.o d = s.o d := fun j d hj ej => by
      have q := hr j hj
      have z := q.1.symm.trans ej
      exact ⟨z, (q.2 d z).1⟩
    rw [enm]
    by_cases ci : i = m
    · rw [ci, ha] at e
      cases e
      exact ⟨h30.1, fun j d y1 y2 _ => by omega⟩
    · have q := old i b (by omega) e
      have z := h8.2.2 i b (by omega) q.1
      rw [q.2]
      refine ⟨z.1, fun j d y1 y2 y3 => ?_⟩
      by_cases cj : j = m
      · rw [cj, ha] at y3
        cases y3
        exact h30.2 i b (by omega) q.1
      · have w := old j d (by omega) y3
        rw [w.2]
        exact z.2 j d y1 (by omega) w.1
/-- the last row goes: what it would aim is aimed, or in P' -/
theorem GW.pop {cD c : List Nat} {X : List (Nat × List Nat)} {P P' : List Nat} {lim : List Int} {s R : CS} {m : Nat} (h : GW cD c X P lim s) (hm : (m : Int) + 1 = cnI s) (hs : SCD s R) (hc : cnI R = (m : Int)) (hr : RSQ s R m) (hP : ∀ k ∈ P, k ∈ P') (hO : ∀ a k : Nat, s.r 51 m = some a → (k : Int) < tcI s → (s.a 17 k).toInt = -1 → OWS s a k → k ∈ P') (hN : ∀ (c0 : List Nat) (lim0 : List Int) (a : Nat), s.r 51 m = some a → (∃ (DT : Nat → List Nat) (KT : Nat → Prop), ROW1 s DT KT a c0 c lim lim0) → ∀ n : Nat, (n : Int) < nmI s → NMT (s.a 49 n) c → NMT (s.a 49 n) c0) : ∃ (a : Nat) (c0 : List Nat) (lim0 : List Int), s.r 51 m = some a ∧ (∃ (DT : Nat → List Nat) (KT : Nat → Prop), ROW1 s DT KT a c0 c lim lim0 ∧ (∀ q ∈ X, (q.1 : Int) < tcI s ∧ DT q.1 = q.2 ∧ ¬ KT q.1)) ∧ lmh lim0 ≤ lmh lim ∧ GW cD c0 X P' lim0 R := by
  obtain ⟨D, DT, KT, h1, h2, h3, h4, h5, ⟨n, n1, n2, n3⟩, h7, h8⟩ := h
  obtain ⟨⟨e1, e2, e3, e4, e5⟩, ⟨e6, e7, e8, e9⟩⟩ := hs
  have en : n = m + 1 := by omega
  rw [en] at n3
  obtain ⟨a, c0, lim0, r1, r2, r3, r4⟩ := n3
  have etc : tcI R = tcI s := by unfold tcI; rw [e7]
  have esz : szI R = szI s := by unfold szI; rw [e6]
  have enm : nmI R = nmI s := by unfold nmI; rw [e8]
  have ecc : ccI R = ccI s := by unfold ccI; rw [e9]
  have ll := r3.lim
  refine ⟨a, c0, lim0, r1, ⟨DT, KT, r3, h5⟩, ll, D, DT, KT, ?_, ?_, fun t q1 q2 q3 => ?_, by rw [esz]; exact h4, by rw [etc]; exact h5, ⟨m, by omega, by omega, ?_⟩, fun k hk => ?_, by rw [etc]; exact h8.1, by rw [ecc]; have := h8.2.1; omega, fun i b hi' e => ?_⟩
  · unfold CDT at *; rw [e1, e2, etc, esz]; exact h1
  · unfold TGS at *; rw [e3, etc, esz]; exact h2
  · rw [etc] at q1
    rw [e3] at q3
    rcases h3 t q1 q2 q3 with z | ⟨i, b, z1, z2, z3⟩
    · exact Or.inl (hP t z)
    · by_cases ei : i = m
      · rw [ei] at z2
        exact Or.inl (hO b t z2 q1 q3 z3)
      · have q := hr i (by omega)
        exact Or.inr ⟨i, b, by omega, q.1.trans z2, by unfold OWS at *; rw [(q.2 b z2).1]; exact z3⟩
  · exact r4.mono (by omega) (fun _ _ => ⟨rfl, Iff.rfl⟩) (fun t _ q => by rw [e3]; exact q) hr (fun k _ => by rw [e4]) (fun _ _ _ _ k _ => by rw [e5]) r4.nr
  · rw [enm] at hk
    rw [e5]
    exact hN c0 lim0 a r1 ⟨DT, KT, r3⟩ k hk (h7 k hk)
  · have old : ∀ j d : Nat, j < m → R.r 51 j = some d → s.r 51 j = some d ∧ R.o d = s.o d := fun j d hj ej => by
      have q := hr j hj
      have z := q.1.symm.trans ej
      exact ⟨z, (q.2 d z).1⟩
    have q := old i b (by omega) e
    have z := h8.2.2 i b (by omega) q.1
    rw [enm, q.2]
    refine ⟨z.1, fun j d y1 y2 y3 => ?_⟩
    have w := old j d (by omega) y3
    rw [w.2]
    exact z.2 j d y1 (by omega) w.1
