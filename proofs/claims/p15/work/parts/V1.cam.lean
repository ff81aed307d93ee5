/-! the class's reading: an arm -/
/-- one frame more than signs, at most -/
theorem RCH.len1 {s : CS} {DT : Nat → List Nat} {KT : Nat → Prop} {n : Nat} {c : List Nat} {lim : List Int} (h : RCH s DT KT n c lim) : (c.length : Int) ≤ SGS s n + 1 := by
  by_cases q : ∃ m a : Nat, n = m + 1 ∧ s.r 51 m = some a ∧ s.o a 0 = 305
  · obtain ⟨m, a, e, ea, e5⟩ := q
    subst e
    obtain ⟨b, c0, L0, h1, h2, r, -⟩ := h
    have eb : b = a := Option.some.inj (h1.symm.trans ea)
    rw [eb] at r h2
    have ec := (r.cx.2.2.1 (Or.inr e5)).1
    have ax : arx s a = 0 := by unfold arx; rw [if_neg (by rw [e5]; decide)]
    have mo := (AMS.mono (s := s) m 1).2
    have : c.length = c0.length + 1 := by rw [ec]; rfl
    omega
  · have := h.len (fun m a e ea e5 => q ⟨m, a, e, ea, e5⟩)
    omega
theorem JK.len1 {H : HB} {x y : Int} {cD c d : List Nat} {X : List (Nat × List Nat)} {P : List Nat} {lim : List Int} {s : CS} (h : JK H x y cD c d X P lim s) (nf : s.i 32 = 0) : (c.length : Int) ≤ SGS s (cnI s).toNat + 1 := by
  obtain ⟨D, DT, KT, -, -, -, -, -, ⟨n, n1, -, n3⟩, -⟩ := (h.2 nf).1
  have e : (cnI s).toNat = n := by omega
  rw [e]
  exact n3.len1
