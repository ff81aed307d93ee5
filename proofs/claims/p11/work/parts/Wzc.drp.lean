/-! both readers: a row less -/
theorem JMQ.drop {S : CS} {s : RS} {L : List CEL} {B59 B29 : Int} {c1 : CEL} (h : JMQ S s (c1 :: L) B59 B29) (nt : ¬ isTy (S.o c1.2.1 0)) (hn : ∀ c ∈ L, c.1 < c1.1) : JMQ S s L B59 B29 := by
  obtain ⟨h1, h2, h3, h4, h5, h6, h7, h8⟩ := h
  have nq : ∀ q ∈ c1 :: L, isTy (S.o q.2.1 0) → q ∈ L := fun q hq t => by
    rcases List.mem_cons.mp hq with rfl | hq
    · exact absurd t nt
    · exact hq
  have saf : ∀ n i : Nat, SAF S (c1 :: L) n i → SAF S L n i := fun n i g q hq => g q (List.mem_cons_of_mem _ hq)
  refine ⟨fun c hc q b hb i r => ?_, fun c hc q b hb r => ?_, fun k hk q hq t r => ?_, fun k k1 k2 => ?_, fun q hq t => h5 q (List.mem_cons_of_mem _ hq) t, fun q hq p hp => h6 q (List.mem_cons_of_mem _ hq) p (List.mem_cons_of_mem _ hp), fun c hc => h7 c (List.mem_cons_of_mem _ hc), ⟨fun i hi hg9 => h8.1 i hi (hg9.elim fun c9 h9 => ⟨c9, List.mem_cons_of_mem _ h9.1, h9.2⟩), fun c hc => h8.2 c (List.mem_cons_of_mem _ hc)⟩⟩
  · rcases h1 c (List.mem_cons_of_mem _ hc) q b hb i r with z | ⟨k, p, hp, t, l, g, y⟩
    · exact Or.inl z
    · exact Or.inr ⟨k, p, nq p hp t, t, l, g, y⟩
  · obtain ⟨i, i1, i2, i3⟩ := h2 c (List.mem_cons_of_mem _ hc) q b hb r
    exact ⟨i, i1, i2, saf _ _ i3⟩
  · obtain ⟨c, hc, g, l, b, hb, p, i, i1, i2, i3⟩ := h3 k hk q (List.mem_cons_of_mem _ hq) t r
    have hc' : c ∈ L := by
      rcases List.mem_cons.mp hc with rfl | hc
      · have := hn q hq
        omega
      · exact hc
    exact ⟨c, hc', g, l, b, hb, p, i, i1, i2, saf _ _ i3⟩
  · rcases h4 k k1 k2 with y | ⟨q, hq, t, r⟩
    · exact Or.inl y
    · exact Or.inr ⟨q, nq q hq t, t, r⟩
theorem LBC.any {S : CS} {s : RS} : ∀ (L : List CEL) (x : Int), LBC S s L x → LBC S s L (-9)
  | [], _, _ => trivial
  | c :: L, x, h => by
    unfold LBC at h ⊢
    by_cases c1 : S.o c.2.1 0 = 303
    · rw [if_pos c1] at h ⊢
      refine ⟨Or.inl rfl, ?_⟩
      rw [if_neg (by decide)]
      exact LBC.any L _ h.2
    · rw [if_neg c1] at h ⊢
      exact h
/-- at a row that is no label it is no matter what is asked -/
theorem LBC.no {S : CS} {s : RS} {c : CEL} {L : List CEL} {x y : Int} (h : LBC S s (c :: L) x) (n : ¬ S.o c.2.1 0 = 303) : LBC S s (c :: L) y := by
  unfold LBC at h ⊢
  rw [if_neg n] at h ⊢
  exact h
theorem LBC.drop {S : CS} {s : RS} {c : CEL} {L : List CEL} {x : Int} (h : LBC S s (c :: L) x) : LBC S s L (-9) := by
  unfold LBC at h
  by_cases c1 : S.o c.2.1 0 = 303
  · rw [if_pos c1] at h
    exact LBC.any L _ h.2
  · rw [if_neg c1] at h
    by_cases c2 : S.o c.2.1 0 = 205 ∨ S.o c.2.1 0 = 206 ∨ S.o c.2.1 0 = 207 ∨ S.o c.2.1 0 = 304
    · rw [if_pos c2] at h
      exact LBC.any L _ h
    · rw [if_neg c2] at h
      exact LBC.any L _ h
/-- the rows below, with what the row above leaves of cases, entries, catches -/
theorem STK.drop {S : CS} {s : RS} {c : CEL} {L : List CEL} {m e k : Int} (h : STK S s (c :: L) m e k) : STK S s L (if S.o c.2.1 0 = 218 then (S.o c.2.1 13).toInt else m) e k := by
  obtain ⟨m', e', k', ⟨q1, q2, q3, q4, q5, q6, q7⟩, h2, h3⟩ := h
  by_cases c1 : S.o c.2.1 0 = 218
  · rw [if_pos c1]
    obtain ⟨x1, x2, -⟩ := q5 c1
    rw [← x1]
    refine h3.hi x2 ?_
    by_cases c2 : isTy (S.o c.2.1 0)
    · exact (q7 c2).1
    · rw [q6 c2]; exact Int.le_refl _
  · rw [if_neg c1]
    obtain ⟨x1, x2⟩ := q4 c1
    rw [← x1]
    refine h3.hi (by rw [x2]; exact Int.le_refl _) ?_
    by_cases c2 : isTy (S.o c.2.1 0)
    · exact (q7 c2).1
    · rw [q6 c2]; exact Int.le_refl _
/-- rows are in order -/
theorem STK.ord {S : CS} {s : RS} : ∀ (L : List CEL) (c : CEL) (m e k : Int), STK S s (c :: L) m e k → ∀ x ∈ L, x.1 < c.1
  | [], _, _, _, _, _, x, hx => absurd hx List.not_mem_nil
  | c0 :: L, c, m, e, k, h, x, hx => by
    obtain ⟨m', e', k', -, h2, h3⟩ := h
    obtain ⟨l1, -⟩ := h2 c0 rfl
    have := l1.1
    rcases List.mem_cons.mp hx with rfl | hx
    · omega
    · have := STK.ord L c0 m' e' k' h3 x hx
      omega
/-- a row more -/
theorem STK.push {S : CS} {s : RS} {c1 c : CEL} {L : List CEL} {m e k m' e' k' : Int} (h : STK S s (c :: L) m' e' k') (q : CST S s c1 m e k m' e' k') (l : LNK S c1 c) (w : LOW S s c) : STK S s (c1 :: c :: L) m e k := ⟨m', e', k', q, fun c0 hc0 => by
  cases hc0
  exact ⟨l, w⟩, h⟩
