/-! both readers: a row more: the jumps -/
theorem JMQ.push {S R : CS} {s u : RS} {T : Nat} {L : List CEL} {B59 B29 : Int} {c1 : CEL} (h : JMQ S s L B59 B29) (hin : INL S s T L) (eo : ∀ c ∈ L, R.o c.2.1 = S.o c.2.1) (e55 : R.i 55 = S.i 55) (e52 : R.a 52 = S.a 52) (e54 : (R.i 54).toInt = (S.i 54).toInt + 1) (f : FRB T s u) (hf : ∀ c ∈ L, isGo (S.o c.2.1 0) → ∀ b : Int, flg u (ceG c) b = flg s (ceG c) b) (e59 : u.i 59 = s.i 59) (e60 : u.a 60 = s.a 60) (e61 : u.a 61 = s.a 61) (e62 : u.a 62 = s.a 62) (h0 : 0 ≤ (S.i 54).toInt ∧ 0 ≤ (S.i 55).toInt) (s1 : (R.o c1.2.1 1).toInt = (S.i 54).toInt + 1) (s14 : R.o c1.2.1 14 = S.i 55) (hn : ∀ c ∈ L, c.1 < c1.1) (n216 : ¬ R.o c1.2.1 0 = 216) (hg : isGo (R.o c1.2.1 0) → ∀ b : Int, flg u (ceG c1) b = 0) (hy : isTy (R.o c1.2.1 0) → (u.a 66 (ceT c1)).toInt = (s.i 29).toInt) (hB : B29 ≤ (s.i 29).toInt) (hid : ∀ q ∈ L, isTy (S.o q.2.1 0) → (s.a 66 (ceT q)).toInt < (s.i 29).toInt) (hw : ∀ j : Nat, (j : Int) < (s.i 59).toInt → (s.a 62 j).toInt < (s.i 29).toInt) : JMQ R u (c1 :: L) B59 B29 := by
  obtain ⟨h1, h2, h3, h4, h5, h6, h7, h8⟩ := h
  have w1 : ∀ v : Int32, 1 ≤ wid v := fun v => by
    unfold wid
    by_cases c1 : v = 301 ∨ v = 302 ∨ v = 218
    · rw [if_pos c1]; decide
    · rw [if_neg c1]
      by_cases c2 : v = 212 ∨ v = 213 ∨ v = 215 ∨ v = 216
      · rw [if_pos c2]; decide
      · rw [if_neg c2]; exact Nat.le_refl _
  have e66 : ∀ c ∈ L, u.a 66 (ceT c) = s.a 66 (ceT c) := fun c hc => by
    have a := (hin c hc).2.2.1
    have b := w1 (S.o c.2.1 0)
    exact (f (ceT c) (by omega)).2.2.1
  have rc : ∀ c ∈ L, ∀ (b : Int) (i : Nat), RCD R c b i ↔ RCD S c b i := fun c hc b i => by
    unfold RCD
    rw [eo c hc, e55, e52]
  have rn : ∀ (b : Int) (i : Nat), b = 0 ∨ b = 1 → ¬ RCD R c1 b i := fun b i hb q => by
    obtain ⟨q1, -, q2⟩ := q
    rw [e55] at q1
    rw [s14] at q2
    omega
  have inr : ∀ q ∈ L, ∀ i : Nat, INR R q i ↔ INR S q i := fun q hq i => by
    unfold INR
    rw [eo q hq]
  have inn : ∀ i : Nat, (i : Int) < (S.i 55).toInt → ¬ INR R c1 i := fun i hi q => by
    have := q.1
    rw [s14] at this
    omega
  have saf : ∀ n i : Nat, (i : Int) < (S.i 55).toInt → SAF S L n i → SAF R (c1 :: L) n i := fun n i hi g q hq t l y => by
    rcases List.mem_cons.mp hq with rfl | hq
    · exact inn i hi y
    · exact g q hq (by rw [← eo q hq]; exact t) l ((inr q hq i).mp y)
  have pn : ∀ c q, q ∈ L → ∀ (b : Int) (k : Nat), PND s c q b k → PND u c q b k := fun c q hq b k g => by
    unfold PND at *
    rw [e59, e60, e61, e62, e66 q hq]
    exact g
  refine ⟨fun c hc q b hb i r => ?_, fun c hc q b hb r => ?_, fun k hk q hq t r => ?_, fun k k1 k2 => ?_, fun q hq t => ?_, fun q hq p hp t1 t2 l => ?_, fun c hc => ?_, ⟨fun i hi hg9 => ?_, fun c hc q b => ?_⟩⟩
  · rcases List.mem_cons.mp hc with rfl | hc
    · exact absurd r (rn b i hb)
    · rw [eo c hc] at q
      rcases h1 c hc q b hb i ((rc c hc b i).mp r) with z | ⟨k, p, hp, t, l, g, y⟩
      · exact Or.inl (by rw [hf c hc q]; exact z)
      · exact Or.inr ⟨k, p, List.mem_cons_of_mem _ hp, by rw [eo p hp]; exact t, l, pn c p hp b k g, (inr p hp i).mpr y⟩
  · rcases List.mem_cons.mp hc with rfl | hc
    · exact absurd r (by rw [hg q b]; decide)
    · rw [eo c hc] at q
      rw [hf c hc q] at r
      obtain ⟨i, i1, i2, i3⟩ := h2 c hc q b hb r
      exact ⟨i, (rc c hc b i).mpr i1, by rw [eo c hc]; exact i2, saf _ _ i1.1 i3⟩
  · rw [e59] at hk
    rw [e62] at r
    rcases List.mem_cons.mp hq with rfl | hq
    · exfalso
      have := hw k hk
      rw [r, hy t] at this
      omega
    · rw [eo q hq] at t
      rw [e66 q hq] at r
      obtain ⟨c, hc, g, l, b, hb, p, i, i1, i2, i3⟩ := h3 k hk q hq t r
      exact ⟨c, List.mem_cons_of_mem _ hc, by rw [eo c hc]; exact g, l, b, hb, pn c q hq b k p, i, (rc c hc b i).mpr i1, (inr q hq i).mpr i2, saf _ _ i1.1 i3⟩
  · rw [e59] at k2
    rw [e62]
    rcases h4 k k1 k2 with y | ⟨q, hq, t, r⟩
    · exact Or.inl y
    · exact Or.inr ⟨q, List.mem_cons_of_mem _ hq, by rw [eo q hq]; exact t, by rw [e66 q hq]; exact r⟩
  · rcases List.mem_cons.mp hq with rfl | hq
    · rw [hy t]
      exact hB
    · rw [eo q hq] at t
      rw [e66 q hq]
      exact h5 q hq t
  · rcases List.mem_cons.mp hp with rfl | hp2
    · rcases List.mem_cons.mp hq with rfl | hq
      · omega
      · rw [eo q hq] at t1
        rw [e66 q hq, hy t2]
        exact hid q hq t1
    · rcases List.mem_cons.mp hq with rfl | hq
      · have := hn p hp2
        omega
      · rw [eo q hq] at t1
        rw [eo p hp2] at t2
        rw [e66 q hq, e66 p hp2]
        exact h6 q hq p hp2 t1 t2 l
  · rcases List.mem_cons.mp hc with rfl | hc
    · exact ⟨by omega, by omega, by rw [s14]; exact h0.2, by rw [s14, e55]; exact Int.le_refl _, fun q => absurd q n216⟩
    · rw [eo c hc, e55]
      obtain ⟨g1, g2, g3, g4, g5⟩ := h7 c hc
      exact ⟨g1, by omega, g3, g4, g5⟩
  · rw [e55] at hi
    rw [e52]
    obtain ⟨c9, hc9, hl9⟩ := hg9
    rcases List.mem_cons.mp hc9 with z9 | hc9
    · rw [z9, s14] at hl9
      omega
    · rw [eo c9 hc9] at hl9
      have := h8.1 i hi ⟨c9, hc9, hl9⟩
      omega
  · rcases List.mem_cons.mp hc with rfl | hc
    · exact Or.inl (hg q b)
    · rw [eo c hc] at q
      rw [hf c hc q]
      exact h8.2 c hc q b
