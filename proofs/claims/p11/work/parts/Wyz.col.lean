/-! both readers: the reference's instructions that wait for their aim -/
/-- an instruction of the row that is aimed at its end -/
def PLF (S : CS) (s : RS) (c : CEL) (k : Int) : Prop := ((S.o c.2.1 0 = 203 ∨ S.o c.2.1 0 = 304) ∧ k = (s.a 66 (ceT c)).toInt) ∨ (S.o c.2.1 0 = 204 ∧ k = (s.a 68 (ceT c)).toInt) ∨ ((S.o c.2.1 0 = 205 ∨ S.o c.2.1 0 = 207) ∧ k = (s.a 67 (ceT c)).toInt)
/-- the jumps to a goal lie on its chain: col says to which one each belongs (true: breaks) -/
def COL (S : CS) (s : RS) (L : List CEL) (col : Nat → Option (Nat × Bool)) (b20 : Int) : Prop :=
  (∀ (k : Nat) (x : Nat × Bool), col k = some x → b20 ≤ (k : Int) ∧ (k : Int) < (s.i 20).toInt) ∧
  (∀ (k : Nat) (x : Nat × Bool), col k = some x → (s.a 22 k).toInt < 0 ∨ ∃ j : Nat, (s.a 22 k).toInt = (j : Int) ∧ j < k ∧ col j = some x) ∧
  (∀ c ∈ L, isGo (S.o c.2.1 0) → ((s.a 48 (ceG c)).toInt < 0 ∨ ∃ j : Nat, (s.a 48 (ceG c)).toInt = (j : Int) ∧ col j = some (ceG c, true)) ∧ ((s.a 49 (ceG c)).toInt < 0 ∨ ∃ j : Nat, (s.a 49 (ceG c)).toInt = (j : Int) ∧ col j = some (ceG c, false))) ∧
  (∀ (k g : Nat) (e : Bool), col k = some (g, e) → ∃ c ∈ L, isGo (S.o c.2.1 0) ∧ ceG c = g) ∧
  (∀ c ∈ L, S.o c.2.1 0 = 218 → b20 ≤ (s.a 66 (ceT c)).toInt ∧ (s.a 66 (ceT c)).toInt < (s.i 20).toInt ∧ col (s.a 66 (ceT c)).toInt.toNat = none) ∧
  (∀ c ∈ L, ∀ q ∈ L, S.o c.2.1 0 = 218 → S.o q.2.1 0 = 218 → c.1 < q.1 → (s.a 66 (ceT c)).toInt < (s.a 66 (ceT q)).toInt) ∧
  (∀ c ∈ L, ∀ k : Int, PLF S s c k → b20 ≤ k ∧ k < (s.i 20).toInt ∧ col k.toNat = none ∧ ∀ q ∈ L, S.o q.2.1 0 = 218 → ¬ k = (s.a 66 (ceT q)).toInt)
theorem COL.mv {S R : CS} {s u : RS} {T : Nat} {L : List CEL} {col : Nat → Option (Nat × Bool)} {b20 : Int} (h : COL S s L col b20) (h0 : 0 ≤ b20) (hin : INL S s T L) (ck : CKZ S R) (f : FRB T s u) (tb : TBR s u) (cd : CDK (s.i 20).toInt s u) : COL R u L col b20 := by
  obtain ⟨h1, h2, h3, h4, h5, h6, h7⟩ := h
  have eo := fun c hc => (hin.o ck c hc).1
  have w1 : ∀ v : Int32, 1 ≤ wid v := fun v => by
    unfold wid
    by_cases c1 : v = 301 ∨ v = 302 ∨ v = 218
    · rw [if_pos c1]; decide
    · rw [if_neg c1]
      by_cases c2 : v = 212 ∨ v = 213 ∨ v = 215 ∨ v = 216
      · rw [if_pos c2]; decide
      · rw [if_neg c2]; exact Nat.le_refl _
  have fr : ∀ c ∈ L, u.a 66 (ceT c) = s.a 66 (ceT c) ∧ u.a 67 (ceT c) = s.a 67 (ceT c) ∧ u.a 68 (ceT c) = s.a 68 (ceT c) := fun c hc => by
    have a := (hin c hc).2.2.1
    have b := w1 (S.o c.2.1 0)
    have z := f (ceT c) (by omega)
    exact ⟨z.2.2.1, z.2.2.2.1, z.2.2.2.2.1⟩
  have l20 := cd.1
  refine ⟨fun k x e => ?_, fun k x e => ?_, fun c hc q => ?_, fun k g e q => ?_, fun c hc q => ?_, fun c hc q hq t1 t2 l => ?_, fun c hc k p => ?_⟩
  · have := h1 k x e
    omega
  · rw [cd.2 k (h1 k x e).2]
    exact h2 k x e
  · rw [eo c hc] at q
    have z := tb.2.1 (ceG c) ((hin c hc).2.2.2.1 q)
    rw [z.2.2.2.2.2.2.1, z.2.2.2.2.2.2.2]
    exact h3 c hc q
  · obtain ⟨c, hc, g1, g2⟩ := h4 k g e q
    exact ⟨c, hc, by rw [eo c hc]; exact g1, g2⟩
  · rw [eo c hc] at q
    rw [(fr c hc).1]
    have z := h5 c hc q
    exact ⟨z.1, by omega, z.2.2⟩
  · rw [eo c hc] at t1
    rw [eo q hq] at t2
    rw [(fr c hc).1, (fr q hq).1]
    exact h6 c hc q hq t1 t2 l
  · have p' : PLF S s c k := by
      unfold PLF at *
      rw [eo c hc, (fr c hc).1, (fr c hc).2.1, (fr c hc).2.2] at p
      exact p
    obtain ⟨z1, z2, z3, z4⟩ := h7 c hc k p'
    exact ⟨z1, by omega, z3, fun q hq t => by rw [eo q hq] at t; rw [(fr q hq).1]; exact z4 q hq t⟩
/-- a row more that has no goal, is no switch and waits for nothing -/
theorem COL.add {S : CS} {s : RS} {L : List CEL} {c1 : CEL} {col : Nat → Option (Nat × Bool)} {b20 : Int} (h : COL S s L col b20) (ng : ¬ isGo (S.o c1.2.1 0)) (ns : ¬ S.o c1.2.1 0 = 218) (np : ∀ k : Int, ¬ PLF S s c1 k) : COL S s (c1 :: L) col b20 := by
  obtain ⟨h1, h2, h3, h4, h5, h6, h7⟩ := h
  refine ⟨h1, h2, fun c hc q => ?_, fun k g e q => ?_, fun c hc q => ?_, fun c hc q hq t1 t2 l => ?_, fun c hc k p => ?_⟩
  · rcases List.mem_cons.mp hc with rfl | hc
    · exact absurd q ng
    · exact h3 c hc q
  · obtain ⟨c, hc, g1, g2⟩ := h4 k g e q
    exact ⟨c, List.mem_cons_of_mem _ hc, g1, g2⟩
  · rcases List.mem_cons.mp hc with rfl | hc
    · exact absurd q ns
    · exact h5 c hc q
  · rcases List.mem_cons.mp hc with rfl | hc
    · exact absurd t1 ns
    · rcases List.mem_cons.mp hq with rfl | hq
      · exact absurd t2 ns
      · exact h6 c hc q hq t1 t2 l
  · rcases List.mem_cons.mp hc with rfl | hc
    · exact absurd p (np k)
    · obtain ⟨z1, z2, z3, z4⟩ := h7 c hc k p
      refine ⟨z1, z2, z3, fun q hq t => ?_⟩
      rcases List.mem_cons.mp hq with rfl | hq
      · exact absurd t ns
      · exact z4 q hq t
