/-! both readers: the row on top changes its sort -/
theorem RWI.srt {S R : CS} {n a : Nat} (h : RWI S) (n4 : n < 400) (hn : cnI S = (n : Int) + 1) (ha : S.r 51 n = some a) (er : R.r = S.r) (eo : ∀ b : Nat, b ≠ a → R.o b = S.o b) (eol : R.ol = S.ol) (e53 : R.i 53 = S.i 53) (ehk : R.hs = S.hs ∧ R.L = S.L ∧ R.k = S.k) (p : ¬ S.o a 0 = 300 ∧ ¬ S.o a 0 = 301 ∧ ¬ S.o a 0 = 302 ∧ ¬ S.o a 0 = 303) (p' : ¬ R.o a 0 = 300 ∧ ¬ R.o a 0 = 301 ∧ ¬ R.o a 0 = 302 ∧ ¬ R.o a 0 = 303) (hs : SGS S n + sgn R a ≤ sgI R) (he : eI S ≤ eI R) : RWI R := by
  obtain ⟨h1, h2, h3, ⟨h4, h5⟩, h6, h7, h8⟩ := h
  have tn : (cnI S).toNat = n + 1 := by omega
  have ec : cnI R = cnI S := by
    unfold cnI
    rw [e53]
  rw [tn] at h5 h6 h7 h8
  have h5' : NR S n := fun i hi => h5 i (by omega)
  have rs : RSQ S R n := fun i hi => ⟨by rw [er], fun b hb => ⟨eo b (fun z => by
    rw [z] at hb
    have := h2 i n a (by omega) n4 hb ha
    omega), by rw [eol]⟩⟩
  have iq : IQ S n := fun m hm => h6 m (by omega)
  have ra : rowA S n = a := by
    unfold rowA
    rw [ha]
    rfl
  have e1 : WCS S (n + 1) = WCS S n + cost S (rowA S n) := rfl
  have c3 : cost S a = 3 := by
    unfold cost
    rw [if_neg (fun z => z.elim p.1 p.2.1), if_neg p.2.2.1, if_neg (fun z => p.2.2.2 z.1)]
  rw [ra, c3] at e1
  have haR : R.r 51 n = some a := by rw [er]; exact ha
  obtain ⟨q1, q2⟩ := iq.plain rs h5' haR ⟨p'.1, p'.2.1, p'.2.2.1, fun z => p'.2.2.2 z.1⟩
  have q3 := (rs.put h5' haR).2.1
  refine ⟨fun i b hi e => ?_, fun i j b hi hj e1 e2 => ?_, by rw [ehk.1, ehk.2.1]; exact h3, ⟨by omega, ?_⟩, ?_, ?_, ?_⟩
  · rw [er] at e
    have := h1 i b hi e
    unfold oK at *
    rw [ehk.2.1, ehk.2.2]
    exact this
  · rw [er] at e1 e2
    exact h2 i j b hi hj e1 e2
  · rw [ec, tn]
    exact fun i hi => by rw [er]; exact h5 i hi
  · rw [ec, tn]
    exact q1
  · rw [ec, tn, q2]
    omega
  · rw [ec, tn, q3]
    exact hs
theorem JMQ.chg {S R : CS} {s u : RS} {L : List CEL} {c1 : CEL} {B59 B29 : Int} (h : JMQ S s (c1 :: L) B59 B29) (hB : 0 ≤ B29) (eo : ∀ y ∈ L, R.o y.2.1 = S.o y.2.1) (e1 : R.o c1.2.1 1 = S.o c1.2.1 1) (e14 : R.o c1.2.1 14 = S.o c1.2.1 14) (e54 : R.i 54 = S.i 54) (e55 : R.i 55 = S.i 55) (e52 : R.a 52 = S.a 52) (g0 : ¬ isGo (S.o c1.2.1 0)) (g1 : ¬ isGo (R.o c1.2.1 0)) (ty : isTy (R.o c1.2.1 0) ↔ isTy (S.o c1.2.1 0)) (n216 : S.o c1.2.1 0 = 216 → R.o c1.2.1 0 = 216) (r216 : R.o c1.2.1 0 = 216 → (¬ S.o c1.2.1 0 = 216 ∧ R.o c1.2.1 15 = S.i 55) ∨ (S.o c1.2.1 0 = 216 ∧ R.o c1.2.1 15 = S.o c1.2.1 15)) (e66 : ∀ y ∈ c1 :: L, isTy (S.o y.2.1 0) → u.a 66 (ceT y) = s.a 66 (ceT y)) (efl : ∀ y ∈ L, isGo (S.o y.2.1 0) → ∀ b : Int, flg u (ceG y) b = flg s (ceG y) b) (tb : TBR s u) : JMQ R u (c1 :: L) B59 B29 := by
  obtain ⟨h1, h2, h3, h4, h5, h6, h7, h8⟩ := h
  have l59 := tb.2.2.2.1.1
  have n62 := tb.2.2.2.1.2
  have o59 := tb.2.2.2.2.1
  have em : (-1 : Int32).toInt = -1 := by decide
  have o1 : ∀ y ∈ c1 :: L, R.o y.2.1 1 = S.o y.2.1 1 ∧ R.o y.2.1 14 = S.o y.2.1 14 := fun y hy => by
    rcases List.mem_cons.mp hy with z | hy
    · rw [z]
      exact ⟨e1, e14⟩
    · rw [eo y hy]
      exact ⟨rfl, rfl⟩
  have gL : ∀ y ∈ c1 :: L, isGo (R.o y.2.1 0) → y ∈ L ∧ isGo (S.o y.2.1 0) := fun y hy g => by
    rcases List.mem_cons.mp hy with z | hy
    · rw [z] at g
      exact absurd g g1
    · rw [eo y hy] at g
      exact ⟨hy, g⟩
  have gR : ∀ y ∈ c1 :: L, isGo (S.o y.2.1 0) → isGo (R.o y.2.1 0) := fun y hy g => by
    rcases List.mem_cons.mp hy with z | hy
    · rw [z] at g
      exact absurd g g0
    · rw [eo y hy]
      exact g
  have tyQ : ∀ y ∈ c1 :: L, isTy (R.o y.2.1 0) ↔ isTy (S.o y.2.1 0) := fun y hy => by
    rcases List.mem_cons.mp hy with z | hy
    · rw [z]
      exact ty
    · rw [eo y hy]
  have rc : ∀ y ∈ c1 :: L, ∀ (b : Int) (i : Nat), RCD R y b i ↔ RCD S y b i := fun y hy b i => by
    unfold RCD
    rw [(o1 y hy).1, (o1 y hy).2, e55, e52]
  have inr1 : ∀ q ∈ c1 :: L, ∀ i : Nat, INR R q i → INR S q i := fun q hq i g => by
    rcases List.mem_cons.mp hq with z | hq2
    · rw [z] at g ⊢
      refine ⟨by have := g.1; rw [e14] at this; exact this, fun k => ?_⟩
      have k2 := n216 k
      rcases r216 k2 with w | w
      · exact absurd k w.1
      · rw [← w.2]
        exact g.2 k2
    · unfold INR at *
      rw [eo q hq2] at g
      exact g
  have inr2 : ∀ q ∈ c1 :: L, ∀ i : Nat, (i : Int) < (S.i 55).toInt → INR S q i → INR R q i := fun q hq i hi g => by
    rcases List.mem_cons.mp hq with z | hq2
    · rw [z] at g ⊢
      refine ⟨by rw [e14]; exact g.1, fun k => ?_⟩
      rcases r216 k with w | w
      · rw [w.2]
        exact hi
      · rw [w.2]
        exact g.2 w.1
    · unfold INR at *
      rw [eo q hq2]
      exact g
  have saf : ∀ n i : Nat, SAF S (c1 :: L) n i → SAF R (c1 :: L) n i := fun n i g q hq t l y => g q hq ((tyQ q hq).mp t) l (inr1 q hq i y)
  have pn : ∀ c q, q ∈ c1 :: L → isTy (S.o q.2.1 0) → ∀ (b : Int) (k : Nat), PND s c q b k → PND u c q b k := fun c q hq t b k g => by
    obtain ⟨g1, g2, g3, g4⟩ := g
    obtain ⟨y1, y2, y3⟩ := o59 k g1
    exact ⟨by omega, by rw [y1]; exact g2, by rw [y2]; exact g3, by rw [y3, e66 q hq t]; exact g4⟩
  refine ⟨fun c hc q b hb i r => ?_, fun c hc q b hb r => ?_, fun k hk q hq t r => ?_, fun k k1 k2 => ?_, fun q hq t => ?_, fun q hq p hp t1 t2 l => ?_, fun c hc => ?_, ⟨fun i hi hg9 => ?_, fun c hc q b => ?_⟩⟩
  · obtain ⟨hc2, q2⟩ := gL c hc q
    have r' := (rc c hc b i).mp r
    rcases h1 c hc q2 b hb i r' with z | ⟨k, p, hp, t, l, g, y⟩
    · exact Or.inl (by rw [efl c hc2 q2]; exact z)
    · exact Or.inr ⟨k, p, hp, (tyQ p hp).mpr t, l, pn c p hp t b k g, inr2 p hp i r'.1 y⟩
  · obtain ⟨hc2, q2⟩ := gL c hc q
    rw [efl c hc2 q2] at r
    obtain ⟨i, i1, i2, i3⟩ := h2 c hc q2 b hb r
    exact ⟨i, (rc c hc b i).mpr i1, by rw [(o1 c hc).2]; exact i2, saf _ _ i3⟩
  · have t' := (tyQ q hq).mp t
    rw [e66 q hq t'] at r
    by_cases z : (k : Int) < (s.i 59).toInt
    · rw [(o59 k z).2.2] at r
      obtain ⟨c, hc, g, l, b, hb, p, i, i1, i2, i3⟩ := h3 k z q hq t' r
      exact ⟨c, hc, gR c hc g, l, b, hb, pn c q hq t' b k p, i, (rc c hc b i).mpr i1, inr2 q hq i i1.1 i2, saf _ _ i3⟩
    · exfalso
      rw [n62 k (by omega) hk] at r
      have := h5 q hq t'
      rw [← r, em] at this
      omega
  · by_cases z : (k : Int) < (s.i 59).toInt
    · rw [(o59 k z).2.2]
      rcases h4 k k1 z with y | ⟨q, hq, t, r⟩
      · exact Or.inl y
      · exact Or.inr ⟨q, hq, (tyQ q hq).mpr t, by rw [e66 q hq t]; exact r⟩
    · exact Or.inl (n62 k (by omega) k2)
  · have t' := (tyQ q hq).mp t
    rw [e66 q hq t']
    exact h5 q hq t'
  · have t1' := (tyQ q hq).mp t1
    have t2' := (tyQ p hp).mp t2
    rw [e66 q hq t1', e66 p hp t2']
    exact h6 q hq p hp t1' t2' l
  · obtain ⟨g1', g2, g3, g4, g5⟩ := h7 c hc
    rw [(o1 c hc).1, (o1 c hc).2, e54, e55]
    refine ⟨g1', g2, g3, g4, fun q => ?_⟩
    rcases List.mem_cons.mp hc with z | hc2
    · rw [z] at q g4 g5 ⊢
      rcases r216 q with w | w
      · rw [w.2]
        exact ⟨g4, Int.le_refl _⟩
      · rw [w.2]
        exact g5 w.1
    · rw [eo c hc2] at q ⊢
      exact g5 q
  · rw [e55] at hi
    rw [e52, e54]
    obtain ⟨c9, hc9, hl9⟩ := hg9
    rw [(o1 c9 hc9).2] at hl9
    exact h8.1 i hi ⟨c9, hc9, hl9⟩
  · obtain ⟨hc2, q2⟩ := gL c hc q
    rw [efl c hc2 q2]
    exact h8.2 c hc q2 b
theorem STK.eo {S R : CS} {s : RS} (er : R.r = S.r) (e18 : R.a 18 = S.a 18) : ∀ (L : List CEL) (m e k : Int), (∀ y ∈ L, R.o y.2.1 = S.o y.2.1 ∧ R.ol y.2.1 = S.ol y.2.1) → STK S s L m e k → STK R s L m e k
  | [], _, _, _, _, _ => trivial
  | c :: L, m, e, k, h, g => by
    obtain ⟨m', e', k', g1, g2, g3⟩ := g
    obtain ⟨eo, eol⟩ := h c List.mem_cons_self
    refine ⟨m', e', k', ?_, fun c0 hc0 => ?_, STK.eo er e18 L m' e' k' (fun y hy => h y (List.mem_cons_of_mem _ hy)) g3⟩
    · unfold CST RFR CSM at g1 ⊢
      rw [er, eo, eol, e18]
      exact g1
    · obtain ⟨a1, a2⟩ := g2 c0 hc0
      have e0 := (h c0 (List.mem_cons_of_mem _ (List.mem_of_mem_head? hc0))).1
      unfold LNK LOW at *
      rw [eo, e0]
      exact ⟨a1, a2⟩
theorem COR.chg {d : Int32} {B : CS} {b : RS} {t0 : Nat} {L : List CEL} {x x' : Int} {S R : CS} {s u : RS} {c1 c : CEL} (h : COR d B b t0 (c1 :: c :: L) x S s) (tp : TOP S s c1) (hT : t0 ≤ ceT c1) (hb : (B.i 53).toInt ≤ (c1.1 : Int)) (ev : ENV d R u) (f : FRB (ceT c1) s u) (tb : TBR s u) (cd : CDK (s.i 20).toInt s u) (nm : u.i 2 = s.i 2 ∧ u.i 3 = s.i 3 ∧ u.i 8 = s.i 8 ∧ u.a 1 = s.a 1 ∧ u.a 4 = s.a 4 ∧ u.b 9 = s.b 9) (h38 : (b.i 38).toInt ≤ (u.i 38).toInt) (h43 : u.i 43 = s.i 43) (h56 : (b.i 56).toInt ≤ (u.i 56).toInt) (n8 : 8 * ((u.i 38).toInt - 2) ≤ (u.i 11).toInt)
    (er : R.r = S.r) (eo : ∀ a : Nat, a ≠ c1.2.1 → R.o a = S.o a ∧ R.ol a = S.ol a) (e1 : R.o c1.2.1 1 = S.o c1.2.1 1 ∧ R.o c1.2.1 3 = S.o c1.2.1 3 ∧ R.o c1.2.1 14 = S.o c1.2.1 14) (ei : R.i 22 = S.i 22 ∧ R.i 38 = S.i 38 ∧ R.i 53 = S.i 53 ∧ R.i 54 = S.i 54 ∧ R.i 55 = S.i 55 ∧ R.i 56 = S.i 56) (ea : R.a 18 = S.a 18 ∧ R.a 52 = S.a 52) (o50 : ∀ y ∈ c1 :: c :: L, (S.o y.2.1 3).toInt ≤ (R.i 50).toInt)
    (g0 : ¬ isGo (S.o c1.2.1 0)) (g1 : ¬ isGo (R.o c1.2.1 0)) (ty : isTy (R.o c1.2.1 0) ↔ isTy (S.o c1.2.1 0)) (dp : nDp (R.o c1.2.1 0) = nDp (S.o c1.2.1 0)) (db : dbt (R.o c1.2.1 0) = 0) (n216 : S.o c1.2.1 0 = 216 → R.o c1.2.1 0 = 216) (r216 : R.o c1.2.1 0 = 216 → (¬ S.o c1.2.1 0 = 216 ∧ R.o c1.2.1 15 = S.i 55) ∨ (S.o c1.2.1 0 = 216 ∧ R.o c1.2.1 15 = S.o c1.2.1 15)) (k12 : isTy (S.o c1.2.1 0) → R.o c1.2.1 12 = S.o c1.2.1 12 ∧ u.a 66 (ceT c1) = s.a 66 (ceT c1) ∧ u.a 72 (ceT c1) = s.a 72 (ceT c1)) (rfr : RFR R u c1.2.1 (ceT c1) (ceG c1) (ceW c1)) (hcol : ∃ col : Nat → Option (Nat × Bool), COL R u (c1 :: c :: L) col (b.i 20).toInt) (rt : RTE S R) (q : (s.i 11).toInt ≤ (u.i 11).toInt ∧ phI b + PDM S (c :: L) ≤ phI u ∧ (s.i 17).toInt ≤ (u.i 17).toInt ∧ (u.i 19).toInt + (nSg (S.o c1.2.1 0) : Int) = (s.i 19).toInt + (nSg (R.o c1.2.1 0) : Int)) (ks : isKS (R.o c1.2.1 0)) : COR d B b t0 (c1 :: c :: L) x' R u := by
  have hin0 := h.inl tp (T := ceT c1 + wid (S.o c1.2.1 0)) rfl
  obtain ⟨h1, h2, h3, h4, h5, ⟨h6, h7, h8, h9⟩, ⟨h10, h11, h12, hsg⟩, h13, ⟨h14, h15, h16⟩, h17, ⟨h18, h19, h20, -⟩⟩ := h
  have ord := STK.ord (c :: L) c1 _ _ _ h2
  have inj := (STK.inj (c1 :: c :: L) _ _ _ h2).1
  have adr : ∀ y ∈ c :: L, y.2.1 ≠ c1.2.1 := fun y hy z => by
    have w := h1.ri.2.1 y.1 c1.1 c1.2.1
    obtain ⟨m1, e1', k1, m2, e2, k2, cy⟩ := STK.mem _ _ _ _ h2 y (List.mem_cons_of_mem _ hy)
    obtain ⟨m3, e3, k3, m4, e4, k4, cz⟩ := STK.mem _ _ _ _ h2 c1 List.mem_cons_self
    have := w cy.2.1 cz.2.1 (by rw [← z]; exact cy.1) cz.1
    have := ord y hy
    omega
  have eoL : ∀ y ∈ c :: L, R.o y.2.1 = S.o y.2.1 := fun y hy => (eo y.2.1 (adr y hy)).1
  obtain ⟨d1, d2⟩ := DSM.eq (c :: L) eoL
  obtain ⟨m1, m2, m3, m7, m8, m9⟩ := nm
  obtain ⟨i22, i38, i53, i54, i55, i56⟩ := ei
  have k11 := h1.1.2.2.2.1.1
  have k11' := ev.1.2.2.2.1.1
  have rt' := rt
  unfold RTE at rt'
  rw [k11, k11'] at rt'
  obtain ⟨m', e', k', c1s, lkl, stl⟩ := id h2
  obtain ⟨lk, lw⟩ := lkl c rfl
  have n218 : ¬ S.o c1.2.1 0 = 218 := fun z => g0 (Or.inr (Or.inl z))
  have n218' : ¬ R.o c1.2.1 0 = 218 := fun z => g1 (Or.inr (Or.inl z))
  obtain ⟨s1, s2, s3, s4, s5, s6, s7⟩ := c1s
  obtain ⟨em, ee⟩ := s4 n218
  -- the rows below
  have hinL : INL S s (ceT c1) (c :: L) := fun y hy => by
    have z := STK.inl L c _ _ _ stl (by have := tp.1; have := lk.1; omega) (by have := tp.2.1; have := lk.2.2.1; omega) (by have := tp.2.2; have := lk.2.2.2.1; omega)
    rw [← lk.2.1] at z
    exact z y hy
  have stE : STK R s (c :: L) m' e' k' := STK.eo er ea.1 (c :: L) _ _ _ (fun y hy => eo y.2.1 (adr y hy)) stl
  have hinR : INL R s (ceT c1) (c :: L) := fun y hy => by
    obtain ⟨z1, z2, z3, z4, z5⟩ := hinL y hy
    rw [i53, er, eoL y hy]
    exact ⟨z1, z2, z3, z4, z5⟩
  have stR : STK R u (c :: L) m' e' k' := STK.mv (CKZ.rf R) f tb cd (c :: L) _ _ _ stE hinR (by rw [em, i22]; exact Int.le_refl _) (by rw [ee]; exact Int.le_refl _) (by
    by_cases z : isTy (S.o c1.2.1 0)
    · exact (s7 z).1
    · rw [s6 z]; exact Int.le_refl _)
  have efl : ∀ y ∈ c :: L, isGo (S.o y.2.1 0) → ∀ v : Int, flg u (ceG y) v = flg s (ceG y) v := fun y hy g v => by
    have z := tb.2.1 (ceG y) ((hinL y hy).2.2.2.1 g)
    unfold flg
    rw [z.2.2.2.2.1, z.2.2.2.2.2.1]
  have e66 : ∀ y ∈ c1 :: c :: L, isTy (S.o y.2.1 0) → u.a 66 (ceT y) = s.a 66 (ceT y) := fun y hy t => by
    rcases List.mem_cons.mp hy with z | hy
    · rw [z] at t ⊢
      exact (k12 t).2.1
    · have a := (hinL y hy).2.2.1
      have b := wid1 (S.o y.2.1 0)
      exact (f (ceT y) (by omega)).2.2.1
  have jq := h3.chg h18 eoL e1.1 e1.2.2 i54 i55 ea.2 g0 g1 ty n216 r216 e66 efl tb
  have lkR : LNK R c1 c := by
    unfold LNK at *
    rw [e1.1, e1.2.1, e1.2.2, eoL c List.mem_cons_self]
    obtain ⟨k1, k2, k3, k4, k5, k6, k7, k8, -⟩ := lk
    exact ⟨k1, k2, k3, k4, k5, k6, k7, k8, ks⟩
  have lwR : LOW R u c := lw.mv (eoL c List.mem_cons_self) f (by rw [lk.2.1]; exact Nat.le_refl _)
  have cstR : ∃ k2 : Int, CST R u c1 (R.i 22).toInt (u.i 24).toInt (u.i 33).toInt (R.i 22).toInt (u.i 24).toInt k2 ∧ k' ≤ k2 := by
    have l24 := tb.2.2.2.2.2.2.2.2.2.1
    have l33 := tb.2.2.2.2.2.2.2.1
    by_cases z : isTy (S.o c1.2.1 0)
    · obtain ⟨x1, Lk, x4, x5, x6, x7⟩ := s7 z
      obtain ⟨y12, y66, y72⟩ := k12 z
      have z66 := (s3.2.2.2.2.2.2.2.2.2.2.2.2 z).1.2.1
      have cl := clampI z66.1
      have jl := kch.lt Lk _ x4
      have e2 := tb.2.2.2.2.2.2.2.2.1
      refine ⟨k', ⟨by rw [er]; exact s1, s2, rfr, fun _ => ⟨rfl, rfl⟩, fun w => absurd w n218', fun w => absurd (ty.mpr z) w, fun _ => ⟨by omega, Lk, ?_, ⟨fun v hv => ?_, fun j hj => by rw [(e2 j (jl j hj)).1]; exact x5.2 j hj⟩, by rw [y72]; exact x6, fun j hj => by have := x7 j hj; omega⟩⟩, Int.le_refl _⟩
      · rw [y66, tb.2.2.2.2.2.2.1 _ (by omega)]
        exact kch.up l33 (fun j hj => (e2 j hj).2) _ _ x4
      · rw [y12, x5.1 v hv]
        constructor
        · intro ⟨j, j1, j2⟩
          exact ⟨j, j1, by rw [(e2 j (jl j j1)).1]; exact j2⟩
        · intro ⟨j, j1, j2⟩
          exact ⟨j, j1, by rw [(e2 j (jl j j1)).1] at j2; exact j2⟩
    · have ek := s6 z
      exact ⟨(u.i 33).toInt, ⟨by rw [er]; exact s1, s2, rfr, fun _ => ⟨rfl, rfl⟩, fun w => absurd w n218', fun _ => rfl, fun w => absurd (ty.mp w) z⟩, by omega⟩
  obtain ⟨k2, cst, k2l⟩ := cstR
  have l24 := tb.2.2.2.2.2.2.2.2.2.1
  have stf : STK R u (c :: L) (R.i 22).toInt (u.i 24).toInt k2 := by
    rw [em, ee] at stR
    rw [i22]
    exact stR.hi l24 k2l
  have cb : CBB B R := by
    obtain ⟨a1, a2, a3, a4, a5, a6, a7, a8, a9, a10, a11⟩ := h5
    refine ⟨fun k hk => by rw [er]; exact a1 k hk, fun k a hk ha => ?_, by rw [i53]; exact a3, by rw [i22]; exact a4, fun k hk => by rw [ea.1]; exact a5 k hk, by rw [i54]; exact a6, by rw [i55]; exact a7, fun k hk => by rw [ea.2]; exact a8 k hk, fun k q1 q2 => by rw [ea.2]; rw [i55] at q2; exact a9 k q1 q2, ?_, i56.trans a11⟩
    · have z := a2 k a hk ha
      have e := eo a (fun w => by
        rw [w] at ha
        have := h1.ri.2.1 k c1.1 c1.2.1 (by have := s2; omega) s2 ((a1 k hk).trans ha) s1
        omega)
      exact ⟨e.1.trans z.1, e.2.trans z.2⟩
    · unfold RTE at *
      omega
  have e6' : SSM R (c1 :: c :: L) = (nSg (R.o c1.2.1 0) : Int) + SSM R (c :: L) := rfl
  have e7' : SSM S (c1 :: c :: L) = (nSg (S.o c1.2.1 0) : Int) + SSM S (c :: L) := rfl
  have e1' : PDM R (c1 :: c :: L) = dbt (R.o c1.2.1 0) + PDM R (c :: L) := rfl
  have e2' : DSM R (c1 :: c :: L) = (nDp (R.o c1.2.1 0) : Int) + DSM R (c :: L) := rfl
  have e3' : DSM S (c1 :: c :: L) = (nDp (S.o c1.2.1 0) : Int) + DSM S (c :: L) := rfl
  refine ⟨ev, stf.push cst lkR lwR, jq, ?_, cb, ⟨h6.tr (f.mo hT), h7.mv tb h38 (by rw [h43]; exact h7.2.1) h56, h8.tr (cd.wk h8.1), ⟨m1.trans h9.1, m2.trans h9.2.1, m3.trans h9.2.2.1, m7.trans h9.2.2.2.1, m8.trans h9.2.2.2.2.1, m9.trans h9.2.2.2.2.2⟩⟩, ⟨by omega, by rw [e1', db, d2]; omega, by omega, by rw [e6', SSM.eo (c :: L) eoL]; rw [e7'] at hsg; omega⟩, ⟨?_, ?_, ?_, ?_, fun y hy => ⟨fun t z => ?_, fun t z => ?_⟩⟩, ⟨by omega, n8, by omega⟩, ?_, h18, h19, h20, hcol⟩
  · have n303 : ¬ S.o c1.2.1 0 = 303 := fun z => g0 (Or.inl z)
    have n303' : ¬ R.o c1.2.1 0 = 303 := fun z => g1 (Or.inl z)
    have nl : ∀ v : Int32, ¬ isGo v → ¬ (v = 205 ∨ v = 206 ∨ v = 207 ∨ v = 304) := fun v g z => g (by
      rcases z with z | z | z | z
      · exact Or.inr (Or.inr (Or.inl z))
      · exact Or.inr (Or.inr (Or.inr (Or.inl z)))
      · exact Or.inr (Or.inr (Or.inr (Or.inr (Or.inl z))))
      · exact Or.inr (Or.inr (Or.inr (Or.inr (Or.inr z)))))
    unfold LBC at h4 ⊢
    rw [if_neg n303, if_neg (nl _ g0)] at h4
    rw [if_neg n303', if_neg (nl _ g1)]
    exact LBC.mv (c :: L) _ h4 eoL (fun y hy w => (tb.2.1 (ceG y) ((hinL y hy).2.2.2.1 (Or.inl w))).2.2.1)
  · rw [e2', dp, d1, i38, h13.1, e3']
  · intro y hy
    rcases List.mem_cons.mp hy with z | hy2
    · have w := h13.2.1 c1 List.mem_cons_self
      rw [z, e1.2.1]
      exact ⟨w.1, o50 c1 List.mem_cons_self⟩
    · rw [eoL y hy2]
      exact ⟨(h13.2.1 y hy).1, o50 y hy⟩
  · intro y hy z hz l
    have o3 : ∀ w ∈ c1 :: c :: L, R.o w.2.1 3 = S.o w.2.1 3 := fun w hw => by
      rcases List.mem_cons.mp hw with k | hw
      · rw [k]
        exact e1.2.1
      · rw [eoL w hw]
    rw [o3 y hy, o3 z hz]
    exact h13.2.2.1 y hy z hz l
  · have z := h13.2.2.2.1
    have w1 : cfl S (c1 :: c :: L) (S.i 22).toInt = cfl S (c :: L) (if S.o c1.2.1 0 = 218 then (S.o c1.2.1 13).toInt else (S.i 22).toInt) := rfl
    have w2 : cfl R (c1 :: c :: L) (R.i 22).toInt = cfl R (c :: L) (if R.o c1.2.1 0 = 218 then (R.o c1.2.1 13).toInt else (R.i 22).toInt) := rfl
    rw [w1, if_neg n218] at z
    rw [w2, if_neg n218', cfl.eq (c :: L) _ eoL, i22]
    exact z
  · rcases List.mem_cons.mp hy with e0 | hy2
    · rw [e0] at t z ⊢
      have t' := ty.mp t
      rw [(k12 t').2.2] at z ⊢
      exact (h13.2.2.2.2 c1 List.mem_cons_self).1 t' z
    · rw [eoL y hy2] at t
      rw [(FRB72 hinL f y hy2).1] at z ⊢
      exact (h13.2.2.2.2 y hy).1 t z
  · rcases List.mem_cons.mp hy with e0 | hy2
    · rw [e0] at t
      exact absurd t n218'
    · rw [eoL y hy2] at t
      rw [(FRB72 hinL f y hy2).2] at z ⊢
      exact (h13.2.2.2.2 y hy).2 t z
  · obtain ⟨⟨a1, a2⟩, a3⟩ := h17
    unfold IAR
    rw [i56, i53, er, h43]
    refine ⟨⟨fun z => ?_, fun z => ?_⟩, a3⟩
    · obtain ⟨g, g1, g2⟩ := a1 z
      exact ⟨g, g1, (tb.2.1 g g1).1.trans g2⟩
    · obtain ⟨g, g1, g2⟩ := z
      exact a2 ⟨g, g1, (tb.2.1 g g1).1.symm.trans g2⟩
