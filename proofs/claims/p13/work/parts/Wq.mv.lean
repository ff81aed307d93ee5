section
/-! both readers: rows and frames over a piece -/
/-- the tables, counts aside -/
def TBR (s u : RS) : Prop := (∀ j : Nat, (j : Int) < (s.i 38).toInt → u.b 39 j = s.b 39 j ∧ u.a 40 j = s.a 40 j ∧ u.a 41 j = s.a 41 j) ∧ (∀ j : Nat, (j : Int) < (s.i 43).toInt → u.a 44 j = s.a 44 j ∧ u.b 45 j = s.b 45 j ∧ u.a 46 j = s.a 46 j ∧ u.a 47 j = s.a 47 j ∧ u.a 50 j = s.a 50 j ∧ u.a 51 j = s.a 51 j ∧ u.a 48 j = s.a 48 j ∧ u.a 49 j = s.a 49 j) ∧ (∀ j : Nat, (j : Int) < (s.i 56).toInt → u.a 57 j = s.a 57 j ∧ u.a 58 j = s.a 58 j) ∧ ((s.i 59).toInt ≤ (u.i 59).toInt ∧ (∀ j : Nat, (s.i 59).toInt ≤ (j : Int) → (j : Int) < (u.i 59).toInt → u.a 62 j = -1)) ∧ (∀ j : Nat, (j : Int) < (s.i 59).toInt → u.a 60 j = s.a 60 j ∧ u.a 61 j = s.a 61 j ∧ u.a 62 j = s.a 62 j) ∧ (s.i 29).toInt ≤ (u.i 29).toInt ∧ (∀ j : Nat, (j : Int) < (s.i 29).toInt → u.a 30 j = s.a 30 j) ∧ (s.i 33).toInt ≤ (u.i 33).toInt ∧ (∀ j : Nat, (j : Int) < (s.i 33).toInt → u.a 34 j = s.a 34 j ∧ u.a 37 j = s.a 37 j) ∧ (s.i 24).toInt ≤ (u.i 24).toInt ∧ (∀ j : Nat, (j : Int) < (s.i 24).toInt → u.a 25 j = s.a 25 j ∧ u.a 27 j = s.a 27 j ∧ u.a 28 j = s.a 28 j)
theorem TBZ.r {s u : RS} (h : TBZ s u) : TBR s u := h.2
/-- what a piece keeps of the class's rows, cases, jumps -/
def CKZ (S R : CS) : Prop := R.i 22 = S.i 22 ∧ (∀ k : Nat, (k : Int) < (S.i 53).toInt → R.r 51 k = S.r 51 k) ∧ (∀ k a : Nat, (k : Int) < (S.i 53).toInt → S.r 51 k = some a → R.o a = S.o a ∧ R.ol a = S.ol a) ∧ (∀ k : Nat, (k : Int) < (S.i 22).toInt → R.a 18 k = S.a 18 k) ∧ (S.i 54).toInt ≤ (R.i 54).toInt ∧ (S.i 55).toInt ≤ (R.i 55).toInt ∧ (∀ k : Nat, (k : Int) < (S.i 55).toInt → R.a 52 k = S.a 52 k) ∧ (∀ k : Nat, (S.i 55).toInt ≤ (k : Int) → (k : Int) < (R.i 55).toInt → R.a 52 k = 0 ∨ (2 * (S.i 54).toInt + 1 < (R.a 52 k).toInt ∧ (R.a 52 k).toInt ≤ 2 * (R.i 54).toInt + 1))
theorem CKX.z {S R : CS} (h : CKX S R) : CKZ S R := ⟨h.1.1, h.2.1, h.2.2.1, h.2.2.2.1, h.2.2.2.2.1, h.2.2.2.2.2.1, h.2.2.2.2.2.2.1, h.2.2.2.2.2.2.2.1⟩
theorem FBL.mv {s u : RS} {t T : Nat} (h : FBL s t) (f : FRB T s u) (ht : t + 2 ≤ T) : FBL u t := by
  obtain ⟨h1, h2, h3⟩ := h
  have a := f t (by omega)
  have b := f (t + 1) (by omega)
  exact ⟨a.1.trans h1, a.2.1.trans h2, b.1.trans h3⟩
theorem F301.mv {s u : RS} {t T : Nat} {v : Int32} (h : F301 s t v) (f : FRB T s u) (ht : t + 2 ≤ T) : F301 u t v := ⟨h.1.mv f ht, (f t (by omega)).2.2.1.trans h.2⟩
theorem RFR.mv {S R : CS} {s u : RS} {a t g w T : Nat} (h : RFR S s a t g w) (eo : R.o a = S.o a) (eol : R.ol a = S.ol a) (f : FRB T s u) (ht : t + wid (S.o a 0) ≤ T) (tb : TBR s u) (hg : isGo (S.o a 0) → (g : Int) < (s.i 43).toInt) (hw : isWl (S.o a 0) → (w : Int) < (s.i 56).toInt) : RFR R u a t g w := by
  have w1 : 1 ≤ wid (S.o a 0) := by
    unfold wid
    by_cases c : S.o a 0 = 301 ∨ S.o a 0 = 302 ∨ S.o a 0 = 218
    · rw [if_pos c]; decide
    · rw [if_neg c]
      by_cases c2 : S.o a 0 = 212 ∨ S.o a 0 = 213 ∨ S.o a 0 = 215 ∨ S.o a 0 = 216
      · rw [if_pos c2]; decide
      · rw [if_neg c2]; exact Nat.le_refl _
  have w2 : S.o a 0 = 301 ∨ S.o a 0 = 302 ∨ S.o a 0 = 218 → wid (S.o a 0) = 2 := fun c => by
    unfold wid
    rw [if_pos c]
  have w3 : S.o a 0 = 212 ∨ S.o a 0 = 213 ∨ S.o a 0 = 215 ∨ S.o a 0 = 216 → wid (S.o a 0) = 3 := fun c => by
    unfold wid
    rw [if_neg (by rintro (z | z | z) <;> rw [z] at c <;> revert c <;> decide), if_pos c]
  obtain ⟨f0, f1, f2, f3, f4, f5, f6, f7, f8, f9, f10⟩ := f t (by omega)
  obtain ⟨h1, h2, h3, h4, h5, h6, h7, h8, h9, h10, h11, h12, h13⟩ := h
  unfold RFR
  rw [eo, eol]
  have gg : isGo (S.o a 0) → u.a 44 g = s.a 44 g ∧ u.b 45 g = s.b 45 g := fun q => by
    have z := tb.2.1 g (hg q)
    exact ⟨z.1, z.2.1⟩
  refine ⟨fun q => f0.trans (h1 q), fun q => (h2 q).mv f (by have := w2 (Or.inl q); omega), fun q => ?_, fun q => ?_, fun q => ?_, fun q => ?_, fun q => ?_, fun q => ?_, fun q => ?_, fun q => ?_, fun q => ?_, fun q => ?_, fun q => ?_⟩
  · obtain ⟨z1, z2, z3, z4⟩ := h3 q
    have b := f (t + 1) (by have := w2 (Or.inr (Or.inl q)); omega)
    exact ⟨f0.trans z1, f1.trans z2, f7.trans z3, b.1.trans z4⟩
  · obtain ⟨z1, z2, z3, z4, z5⟩ := h4 q
    have y := gg (Or.inl q)
    exact ⟨f0.trans z1, f1.trans z2, by rw [f2]; exact z3, y.1.trans z4, y.2.trans z5⟩
  · exact ⟨f0.trans (h5 q).1, f1.trans (h5 q).2⟩
  · exact ⟨f0.trans (h6 q).1, f1.trans (h6 q).2.1, f3.trans (h6 q).2.2.1, (h6 q).2.2.2⟩
  · obtain ⟨z1, z2, z3, z4, z5⟩ := h7 q
    have y := gg (Or.inr (Or.inr (Or.inl q)))
    exact ⟨f0.trans z1, f1.trans z2, by rw [f4]; exact z3, f7.trans z4, y.1.trans z5⟩
  · obtain ⟨z1, z2, z3, z4⟩ := h8 q
    have y := gg (Or.inr (Or.inr (Or.inr (Or.inl q))))
    exact ⟨f0.trans z1, f1.trans z2, by rw [f4]; exact z3, y.1.trans z4⟩
  · obtain ⟨z1, z2, z3, z4, z5, z6⟩ := h9 q
    have y := gg (Or.inr (Or.inr (Or.inr (Or.inr (Or.inl q)))))
    exact ⟨f0.trans z1, f1.trans z2, by rw [f9]; exact z3, f7.trans z4, f8.trans z5, y.1.trans z6⟩
  · obtain ⟨⟨z1, z2, z3, z4, z5⟩, z6⟩ := h10 q
    have y := gg (Or.inr (Or.inr (Or.inr (Or.inr (Or.inr q)))))
    exact ⟨⟨f0.trans z1, f1.trans z2, by rw [f9]; exact z3, f7.trans z4, y.1.trans z5⟩, z6⟩
  · obtain ⟨z1, z2, z3⟩ := h11 q
    exact ⟨f0.trans z1, f1.trans z2, z3.mv f (by have := w3 (Or.inl q); omega)⟩
  · obtain ⟨z1, z2, z3, z4, z5, z6⟩ := h12 q
    have y := gg (Or.inr (Or.inl q))
    exact ⟨f0.trans z1, by rw [f8]; exact z2, f7.trans z3, y.1.trans z4, by rw [f4]; exact z5, by rw [f4]; exact z6⟩
  · obtain ⟨⟨z1, z2, z3, z4⟩, ⟨y1, y2, y3, y4, y5⟩⟩ := h13 q
    have l29 := tb.2.2.2.2.2.1
    refine ⟨⟨f0.trans z1, by rw [f2]; omega, by rw [f3, f8]; exact z3, fun p => ?_⟩, fun p => ?_, fun p => ?_, fun p => ?_, fun p => ?_, y5⟩
    · have y := tb.2.2.1 w (hw p)
      have z := z4 p
      exact ⟨by rw [y.1, f2]; exact z.1, by rw [y.2]; exact z.2⟩
    · obtain ⟨x1, x2, x3⟩ := y1 p
      exact ⟨f1.trans x1, x2.mv f (by have := w3 (Or.inr (Or.inl p)); omega), x3⟩
    · obtain ⟨x1, x2, x3, x4⟩ := y2 p
      exact ⟨f1.trans x1, x2.mv f (by have := w3 (Or.inr (Or.inr (Or.inl p))); omega), f7.trans x3, f4.trans x4⟩
    · exact ⟨f1.trans (y3 p).1, f4.trans (y3 p).2⟩
    · obtain ⟨x1, x2, x3⟩ := y4 p
      exact ⟨f1.trans x1, x2.mv f (by have := w3 (Or.inr (Or.inr (Or.inr p))); omega), f4.trans x3⟩
theorem kch.up {s u : RS} (h33 : (s.i 33).toInt ≤ (u.i 33).toInt) (h37 : ∀ j : Nat, (j : Int) < (s.i 33).toInt → u.a 37 j = s.a 37 j) : ∀ (L : List Nat) (k : Int32), kch s k L → kch u k L
  | [], _, h => h
  | j :: L, k, h => ⟨h.1, by have := h.2.1; omega, h.2.2.1, by rw [h37 j h.2.1]; exact kch.up h33 h37 L _ h.2.2.2⟩
theorem kch.lt {s : RS} : ∀ (L : List Nat) (k : Int32), kch s k L → ∀ j ∈ L, (j : Int) < (s.i 33).toInt
  | [], _, _, j, hj => absurd hj List.not_mem_nil
  | a :: L, k, h, j, hj => by
    rcases List.mem_cons.mp hj with rfl | hj
    · exact h.2.1
    · exact kch.lt L _ h.2.2.2 j hj
theorem CST.mv {S R : CS} {s u : RS} {c : CEL} {m e k m' e' k' : Int} {T : Nat} (h : CST S s c m e k m' e' k') (hc : (c.1 : Int) < (S.i 53).toInt) (ck : CKZ S R) (f : FRB T s u) (ht : ceT c + wid (S.o c.2.1 0) ≤ T) (tb : TBR s u) (cd : CDK (s.i 20).toInt s u) (hm : m ≤ (S.i 22).toInt) (he : e ≤ (s.i 24).toInt) (hk : k ≤ (s.i 33).toInt) (hg : isGo (S.o c.2.1 0) → (ceG c : Int) < (s.i 43).toInt) (hw : isWl (S.o c.2.1 0) → (ceW c : Int) < (s.i 56).toInt) : CST R u c m e k m' e' k' := by
  obtain ⟨h1, h2, h3, h4, h5, h6, h7⟩ := h
  obtain ⟨eo, eol⟩ := ck.2.2.1 c.1 c.2.1 hc h1
  have w1 : 1 ≤ wid (S.o c.2.1 0) := by
    unfold wid
    by_cases c1 : S.o c.2.1 0 = 301 ∨ S.o c.2.1 0 = 302 ∨ S.o c.2.1 0 = 218
    · rw [if_pos c1]; decide
    · rw [if_neg c1]
      by_cases c2 : S.o c.2.1 0 = 212 ∨ S.o c.2.1 0 = 213 ∨ S.o c.2.1 0 = 215 ∨ S.o c.2.1 0 = 216
      · rw [if_pos c2]; decide
      · rw [if_neg c2]; exact Nat.le_refl _
  obtain ⟨f0, f1, f2, f3, f4, f5, f6, f7, f8, f9, f10⟩ := f (ceT c) (by omega)
  refine ⟨(ck.2.1 c.1 hc).trans h1, h2, h3.mv eo eol f ht tb hg hw, by rw [eo]; exact h4, ?_, by rw [eo]; exact h6, ?_⟩
  · rw [eo]
    intro q
    obtain ⟨q1, q2, ⟨q3, q4⟩, L, l1, l2, l3, l4⟩ := h5 q
    have l20 := cd.1
    have cl := clampI q3
    have jl := chn.lt L _ l2
    have e2 := tb.2.2.2.2.2.2.2.2.2.2
    refine ⟨q1, q2, ⟨by rw [f2]; exact q3, by rw [f2]; omega⟩, L, ⟨l1.1, ⟨l1.2.1.1, by rw [nd.eq L (fun j hj => (e2 j (jl j hj)).2.2)]; exact l1.2.1.2.1, fun i j i1 i2 hj hz hv => ?_⟩, fun v => ?_⟩, ?_, ?_, l4⟩
    · have z := e2 j (jl j hj)
      rw [z.2.2] at hz
      rw [z.1, ck.2.2.2.1 i (by omega)] at hv
      rw [ndx.eq L (fun k hk => (e2 k (jl k hk)).2.2)]
      exact l1.2.1.2.2 i j i1 i2 hj hz hv
    · have r := l1.2.2 v
      constructor
      · intro ⟨i, i1, i2, i3⟩
        rw [ck.2.2.2.1 i (by omega)] at i3
        obtain ⟨j, j1, j2, j3⟩ := r.mp ⟨i, i1, i2, i3⟩
        have z := e2 j (jl j j1)
        exact ⟨j, j1, by rw [z.2.2]; exact j2, by rw [z.1]; exact j3⟩
      · intro ⟨j, j1, j2, j3⟩
        have z := e2 j (jl j j1)
        rw [z.2.2] at j2
        rw [z.1] at j3
        obtain ⟨i, i1, i2, i3⟩ := r.mpr ⟨j, j1, j2, j3⟩
        exact ⟨i, i1, i2, by rw [ck.2.2.2.1 i (by omega)]; exact i3⟩
    · rw [f2, cd.2 _ (by omega)]
      exact chn.up tb.2.2.2.2.2.2.2.2.2.1 (fun j hj => (e2 j hj).2.1) _ _ l2
    · unfold FQL at *
      rw [f3]
      exact l3
  · rw [eo]
    intro q
    obtain ⟨q1, L, l1, l2, l3, l4⟩ := h7 q
    have z := (h3.2.2.2.2.2.2.2.2.2.2.2.2 q).1.2.1
    have cl := clampI z.1
    have jl := kch.lt L _ l1
    have e2 := tb.2.2.2.2.2.2.2.2.1
    refine ⟨q1, L, ?_, ⟨fun v hv => ?_, fun j hj => by rw [(e2 j (jl j hj)).1]; exact l2.2 j hj⟩, by rw [f8]; exact l3, l4⟩
    · rw [f2, tb.2.2.2.2.2.2.1 _ (by omega)]
      exact kch.up tb.2.2.2.2.2.2.2.1 (fun j hj => (e2 j hj).2) _ _ l1
    · rw [l2.1 v hv]
      constructor
      · intro ⟨j, j1, j2⟩
        exact ⟨j, j1, by rw [(e2 j (jl j j1)).1]; exact j2⟩
      · intro ⟨j, j1, j2⟩
        exact ⟨j, j1, by rw [(e2 j (jl j j1)).1] at j2; exact j2⟩
/-- the rows of a list are there, their frames below T, their goals and walls told -/
def INL (S : CS) (s : RS) (T : Nat) (L : List CEL) : Prop := ∀ c ∈ L, (c.1 : Int) < (S.i 53).toInt ∧ S.r 51 c.1 = some c.2.1 ∧ ceT c + wid (S.o c.2.1 0) ≤ T ∧ (isGo (S.o c.2.1 0) → (ceG c : Int) < (s.i 43).toInt) ∧ (isWl (S.o c.2.1 0) → (ceW c : Int) < (s.i 56).toInt)
theorem INL.o {S R : CS} {s : RS} {T : Nat} {L : List CEL} (h : INL S s T L) (ck : CKZ S R) : ∀ c ∈ L, R.o c.2.1 = S.o c.2.1 ∧ R.ol c.2.1 = S.ol c.2.1 := fun c hc => ck.2.2.1 c.1 c.2.1 (h c hc).1 (h c hc).2.1
theorem STK.mv {S R : CS} {s u : RS} {T : Nat} (ck : CKZ S R) (f : FRB T s u) (tb : TBR s u) (cd : CDK (s.i 20).toInt s u) : ∀ (L : List CEL) (m e k : Int), STK S s L m e k → INL S s T L → m ≤ (S.i 22).toInt → e ≤ (s.i 24).toInt → k ≤ (s.i 33).toInt → STK R u L m e k
  | [], _, _, _, _, _, _, _, _ => trivial
  | c :: L, m, e, k, h, hin, hm, he, hk => by
    obtain ⟨m', e', k', h1, h2, h3⟩ := h
    obtain ⟨i1, i2, i3, i4, i5⟩ := hin c List.mem_cons_self
    have hin' : INL S s T L := fun d hd => hin d (List.mem_cons_of_mem _ hd)
    have l1 : m' ≤ m ∧ e' ≤ e ∧ k' ≤ k := by
      obtain ⟨-, -, -, q1, q2, q3, q4⟩ := h1
      refine ⟨?_, ?_, ?_⟩
      · by_cases z : S.o c.2.1 0 = 218
        · obtain ⟨-, -, -, L', l, -⟩ := q2 z
          exact l.2.1.1
        · rw [(q1 z).1]; exact Int.le_refl _
      · by_cases z : S.o c.2.1 0 = 218
        · exact (q2 z).2.1
        · rw [(q1 z).2]; exact Int.le_refl _
      · by_cases z : isTy (S.o c.2.1 0)
        · exact (q4 z).1
        · rw [q3 z]; exact Int.le_refl _
    refine ⟨m', e', k', h1.mv i1 ck f i3 tb cd hm he hk i4 i5, fun c0 hc0 => ?_, STK.mv ck f tb cd L m' e' k' h3 hin' (by omega) (by omega) (by omega)⟩
    have m0 : c0 ∈ L := List.mem_of_mem_head? hc0
    obtain ⟨j1, j2, j3, j4, j5⟩ := hin' c0 m0
    have eo := (ck.2.2.1 c.1 c.2.1 i1 i2).1
    have e0 := (ck.2.2.1 c0.1 c0.2.1 j1 j2).1
    obtain ⟨a1, a2⟩ := h2 c0 hc0
    refine ⟨?_, ?_⟩
    · unfold LNK at *
      rw [eo, e0]
      exact a1
    · unfold LOW at *
      rw [e0]
      obtain ⟨b1, b2, b3, b4⟩ := a2
      have w1 : 1 ≤ wid (S.o c0.2.1 0) := by
        unfold wid
        by_cases c1 : S.o c0.2.1 0 = 301 ∨ S.o c0.2.1 0 = 302 ∨ S.o c0.2.1 0 = 218
        · rw [if_pos c1]; decide
        · rw [if_neg c1]
          by_cases c2 : S.o c0.2.1 0 = 212 ∨ S.o c0.2.1 0 = 213 ∨ S.o c0.2.1 0 = 215 ∨ S.o c0.2.1 0 = 216
          · rw [if_pos c2]; decide
          · rw [if_neg c2]; exact Nat.le_refl _
      refine ⟨b1, fun q => ?_, fun q => ?_, b4⟩
      · have w2 : wid (S.o c0.2.1 0) = 2 := by
          unfold wid
          rw [if_pos (Or.inr (Or.inr q))]
        obtain ⟨x1, x2⟩ := b2 q
        exact ⟨(f (ceT c0) (by omega)).2.1.trans x1, (f (ceT c0 + 1) (by omega)).1.trans x2⟩
      · have z := f (ceT c0 + wid (S.o c0.2.1 0) - 1) (by omega)
        exact ⟨z.2.1.trans (b3 q).1, z.1.trans (b3 q).2⟩
theorem LBC.mv {S R : CS} {s u : RS} : ∀ (L : List CEL) (x : Int), LBC S s L x → (∀ c ∈ L, R.o c.2.1 = S.o c.2.1) → (∀ c ∈ L, S.o c.2.1 0 = 303 → u.a 46 (ceG c) = s.a 46 (ceG c)) → LBC R u L x
  | [], _, _, _, _ => trivial
  | c :: L, x, h, ho, hg => by
    have eo := ho c List.mem_cons_self
    have ho' : ∀ d ∈ L, R.o d.2.1 = S.o d.2.1 := fun d hd => ho d (List.mem_cons_of_mem _ hd)
    have hg' : ∀ d ∈ L, S.o d.2.1 0 = 303 → u.a 46 (ceG d) = s.a 46 (ceG d) := fun d hd => hg d (List.mem_cons_of_mem _ hd)
    unfold LBC at h ⊢
    rw [eo]
    by_cases c1 : S.o c.2.1 0 = 303
    · rw [if_pos c1] at h ⊢
      refine ⟨?_, LBC.mv L _ h.2 ho' hg'⟩
      rw [hg c List.mem_cons_self c1]
      exact h.1
    · rw [if_neg c1] at h ⊢
      by_cases c2 : S.o c.2.1 0 = 205 ∨ S.o c.2.1 0 = 206 ∨ S.o c.2.1 0 = 207 ∨ S.o c.2.1 0 = 304
      · rw [if_pos c2] at h ⊢
        exact LBC.mv L _ h ho' hg'
      · rw [if_neg c2] at h ⊢
        exact LBC.mv L _ h ho' hg'
theorem JMQ.mv {S R : CS} {s u : RS} {T : Nat} {L : List CEL} {B59 B29 : Int} (h : JMQ S s L B59 B29) (hB : 0 ≤ B29) (h54 : 0 ≤ (S.i 54).toInt) (hin : INL S s T L) (ck : CKZ S R) (f : FRB T s u) (tb : TBR s u) : JMQ R u L B59 B29 := by
  obtain ⟨h1, h2, h3, h4, h5, h6, h7, h8⟩ := h
  have eo := fun c hc => (hin.o ck c hc).1
  have w1 : ∀ v : Int32, 1 ≤ wid v := fun v => by
    unfold wid
    by_cases c1 : v = 301 ∨ v = 302 ∨ v = 218
    · rw [if_pos c1]; decide
    · rw [if_neg c1]
      by_cases c2 : v = 212 ∨ v = 213 ∨ v = 215 ∨ v = 216
      · rw [if_pos c2]; decide
      · rw [if_neg c2]; exact Nat.le_refl _
  have e66 : ∀ c ∈ L, u.a 66 (ceT c) = s.a 66 (ceT c) := fun c hc => by
    have a := (hin c hc).2.2.1
    have b := w1 (S.o c.2.1 0)
    exact (f (ceT c) (by omega)).2.2.1
  have efl : ∀ c ∈ L, isGo (S.o c.2.1 0) → ∀ b : Int, flg u (ceG c) b = flg s (ceG c) b := fun c hc q b => by
    have z := tb.2.1 (ceG c) ((hin c hc).2.2.2.1 q)
    unfold flg
    rw [z.2.2.2.2.1, z.2.2.2.2.2.1]
  have l54 := ck.2.2.2.2.1
  have l55 := ck.2.2.2.2.2.1
  have o52 := ck.2.2.2.2.2.2.1
  have n52 := ck.2.2.2.2.2.2.2
  have l59 := tb.2.2.2.1.1
  have n62 := tb.2.2.2.1.2
  have o59 := tb.2.2.2.2.1
  have z0 : (0 : Int32).toInt = 0 := z_t0
  have em : (-1 : Int32).toInt = -1 := by decide
  have rc : ∀ c ∈ L, ∀ b : Int, b = 0 ∨ b = 1 → ∀ i : Nat, RCD R c b i ↔ RCD S c b i := fun c hc b hb i => by
    have g := h7 c hc
    unfold RCD
    rw [eo c hc]
    constructor
    · intro ⟨q1, q2⟩
      by_cases z : (i : Int) < (S.i 55).toInt
      · rw [o52 i z] at q2
        exact ⟨z, q2⟩
      · exfalso
        rcases n52 i (by omega) q1 with y | y
        · rw [y, z0] at q2
          omega
        · omega
    · intro ⟨q1, q2⟩
      exact ⟨by omega, by rw [o52 i q1]; exact q2⟩
  have inr : ∀ q ∈ L, ∀ i : Nat, INR R q i ↔ INR S q i := fun q hq i => by
    unfold INR
    rw [eo q hq]
  have saf : ∀ n i : Nat, SAF S L n i → SAF R L n i := fun n i g q hq t l y => g q hq (by rw [← eo q hq]; exact t) l ((inr q hq i).mp y)
  have pn : ∀ c q, q ∈ L → ∀ (b : Int) (k : Nat), PND s c q b k → PND u c q b k := fun c q hq b k g => by
    obtain ⟨g1, g2, g3, g4⟩ := g
    obtain ⟨y1, y2, y3⟩ := o59 k g1
    exact ⟨by omega, by rw [y1]; exact g2, by rw [y2]; exact g3, by rw [y3, e66 q hq]; exact g4⟩
  refine ⟨fun c hc q b hb i r => ?_, fun c hc q b hb r => ?_, fun k hk q hq t r => ?_, fun k k1 k2 => ?_, fun q hq t => ?_, fun q hq p hp t1 t2 l => ?_, fun c hc => ?_, ⟨fun i hi hg9 => ?_, fun c hc q b => ?_⟩⟩
  · rw [eo c hc] at q
    rcases h1 c hc q b hb i ((rc c hc b hb i).mp r) with z | ⟨k, p, hp, t, l, g, y⟩
    · exact Or.inl (by rw [efl c hc q]; exact z)
    · exact Or.inr ⟨k, p, hp, by rw [eo p hp]; exact t, l, pn c p hp b k g, (inr p hp i).mpr y⟩
  · rw [eo c hc] at q
    rw [efl c hc q] at r
    obtain ⟨i, i1, i2, i3⟩ := h2 c hc q b hb r
    exact ⟨i, (rc c hc b hb i).mpr i1, by rw [eo c hc]; exact i2, saf _ _ i3⟩
  · rw [eo q hq] at t
    rw [e66 q hq] at r
    by_cases z : (k : Int) < (s.i 59).toInt
    · rw [(o59 k z).2.2] at r
      obtain ⟨c, hc, g, l, b, hb, p, i, i1, i2, i3⟩ := h3 k z q hq t r
      exact ⟨c, hc, by rw [eo c hc]; exact g, l, b, hb, pn c q hq b k p, i, (rc c hc b hb i).mpr i1, (inr q hq i).mpr i2, saf _ _ i3⟩
    · exfalso
      rw [n62 k (by omega) hk] at r
      have := h5 q hq t
      rw [← r, em] at this
      omega
  · by_cases z : (k : Int) < (s.i 59).toInt
    · rw [(o59 k z).2.2]
      rcases h4 k k1 z with y | ⟨q, hq, t, r⟩
      · exact Or.inl y
      · exact Or.inr ⟨q, hq, by rw [eo q hq]; exact t, by rw [e66 q hq]; exact r⟩
    · exact Or.inl (n62 k (by omega) k2)
  · rw [eo q hq] at t
    rw [e66 q hq]
    exact h5 q hq t
  · rw [eo q hq] at t1
    rw [eo p hp] at t2
    rw [e66 q hq, e66 p hp]
    exact h6 q hq p hp t1 t2 l
  · rw [eo c hc]
    obtain ⟨g1, g2, g3, g4, g5⟩ := h7 c hc
    exact ⟨g1, by omega, g3, by omega, fun q => by have := g5 q; omega⟩
  · by_cases z : (i : Int) < (S.i 55).toInt
    · rw [o52 i z]
      obtain ⟨c9, hc9, hl9⟩ := hg9
      rw [eo c9 hc9] at hl9
      have := h8.1 i z ⟨c9, hc9, hl9⟩
      omega
    · rcases n52 i (by omega) hi with y | y
      · rw [y, z0]
        omega
      · exact y.2
  · rw [eo c hc] at q
    rw [efl c hc q]
    exact h8.2 c hc q b
/-- more entries, more catches: nothing changes -/
theorem STK.hi {S : CS} {s : RS} {m e k e2 k2 : Int} : ∀ {L : List CEL}, STK S s L m e k → e ≤ e2 → k ≤ k2 → STK S s L m e2 k2
  | [], _, _, _ => trivial
  | c :: L, h, he, hk => by
    obtain ⟨m', e', k', ⟨q1, q2, q3, q4, q5, q6, q7⟩, h2, h3⟩ := h
    by_cases c1 : S.o c.2.1 0 = 218
    · obtain ⟨x1, x2, x3, l, x4, x5, x6, x7⟩ := q5 c1
      by_cases c2 : isTy (S.o c.2.1 0)
      · exfalso
        rcases c2 with z | z | z | z <;> rw [c1] at z <;> exact absurd z (by decide)
      · have ek := q6 c2
        subst ek
        exact ⟨m', e', k2, ⟨q1, q2, q3, fun z => absurd c1 z, fun _ => ⟨x1, by omega, x3, l, x4, x5, x6, fun j hj => by have := x7 j hj; omega⟩, fun _ => rfl, fun z => absurd z c2⟩, h2, STK.hi h3 (Int.le_refl _) hk⟩
    · obtain ⟨em, ee⟩ := q4 c1
      subst ee
      by_cases c2 : isTy (S.o c.2.1 0)
      · obtain ⟨x1, l, x4, x5, x6, x7⟩ := q7 c2
        exact ⟨m', e2, k', ⟨q1, q2, q3, fun _ => ⟨em, rfl⟩, fun z => absurd z c1, fun z => absurd c2 z, fun _ => ⟨by omega, l, x4, x5, x6, fun j hj => by have := x7 j hj; omega⟩⟩, h2, STK.hi h3 he (Int.le_refl _)⟩
      · have ek := q6 c2
        subst ek
        exact ⟨m', e2, k2, ⟨q1, q2, q3, fun _ => ⟨em, rfl⟩, fun z => absurd z c1, fun _ => rfl, fun z => absurd z c2⟩, h2, STK.hi h3 he hk⟩
end
section
/-! both readers: statements; what stands behind a formula in one -/
def EXO (d : Int32) (t : Nat) (st : Int32) (S : CS) (q : RS) (R : CS) (u : RS) : Prop := ENV d R u ∧ tpI u = (t : Int) ∧ (u.a 64 t = q.a 64 t ∧ u.a 65 t = st ∧ u.a 66 t = q.a 66 t ∧ u.a 67 t = q.a 67 t ∧ u.a 68 t = q.a 68 t ∧ u.a 69 t = q.a 69 t ∧ u.a 70 t = q.a 70 t ∧ u.a 71 t = q.a 71 t ∧ u.a 72 t = q.a 72 t ∧ u.a 73 t = q.a 73 t ∧ u.b 74 t = q.b 74 t) ∧ FRB t q u ∧ TBK q u ∧ CKX S R ∧ (q.i 11).toInt + 1 ≤ (u.i 11).toInt ∧ phI q + 1 ≤ phI u ∧ (q.i 17).toInt + 1 ≤ (u.i 17).toInt ∧ u.i 19 = q.i 19
theorem XO.ex {d : Int32} {t : Nat} {st k : Int32} {S R : CS} {q u : RS} (h : XO d (t + 1) S (TH q t st k) R u) : EXO d t st S q R u := by
  obtain ⟨w1, w2, w3, w4, w5, w6, w7, w8, w9⟩ := h
  obtain ⟨f0, f1, f2, f3, f4, f5, f6, f7, f8, f9, f10⟩ := w3 t (by omega)
  exact ⟨w1, by rw [w2]; omega, ⟨f0.trans (TH.fk0 (Nat.le_refl t)), f1.trans TH.st, f2, f3, f4, f5, f6, f7, f8, f9, f10⟩, TH.frb.tr (w3.mo (by omega)), TH.tbk.tr w4, w5, w6, w7, w8, w9⟩
/-- a formula, then one instruction, then a sign -/
def EUN (a : Int) (o x z zx : Int32) (U : RS) (S : CS) (s : RS) (R : CS) (u : RS) : Prop := CRB S → CD1 a (-1) S R ∧ CT7 0 (S.i 21).toInt S R ∧ CD2 (s.i 20).toInt s u ∧ ∃ Ψ : GPS, pcC S + 1 ≤ pcC R ∧ SAT Ψ S s R u ∧ ∀ (FC : Nat → Prop) (SF : CS) (nm : Nat → Nat → Prop) (X : Als) (c : List Ent) (h w W g0 : Nat), Ψ FC nm → FGC S R SF → FGR s u U → NMG nm c S s → HC0 nm h c → ((2 * h + 0 + msr c : Nat) : Int) ≤ (s.i 11).toInt → TYC SF U (GU FC SF U nm X) W c → W + 1 ≤ w → (∀ p q : Nat, PQX SF U p q → SF.a 15 p = o → SF.a 16 p = x → U.a 21 q = z → U.a 22 q = zx → U.a 23 q = u.a 23 q → p + 1 = pcC R → q + 1 = pcR u → GU FC SF U nm X p q (h + 1) w 0 c) → GU FC SF U nm X (pcC S) (pcR s) h (w + (pcC R - 1 - pcC S)) g0 c
theorem CDE.th {g : Nat} {U : RS} {S R : CS} {s u : RS} {t : Nat} {a b : Int32} (h : CDE g U S (TH s t a b) R u) (n50 : S.i 50 = s.i 38) : CDE g U S s R u := by
  intro cr
  obtain ⟨b1, b2, b3, Ψ, sat, b4⟩ := h cr
  have k : ∀ c : Int, CD2 c s (TH s t a b) := fun c => CD2.qe rfl
  refine ⟨b1, b2, (k _).tr b3, Ψ, sat.wd (MNO.of (CD1.rf S) (k 0)) (MNO.of (CD1.rf R) (CD2.rf 0 u)), ?_⟩
  intro FC SF nm X c h w W g0 ps fc fr ng hc hh ty hW hg z
  exact b4 FC SF nm X c h w W g0 ps fc (fr.sub (k 0) (CD2.rf 0 u) (fun _ _ _ => ⟨rfl, rfl, rfl⟩)) (ng.mv n50 (CD1.rf S) (k 0) rfl (fun _ _ => rfl) (Int.le_refl _)) hc hh ty hW hg z
theorem y_expr {N : Nat} (hN : 1000 ≤ N) {E1 : CS → Option (Unit × CS)} {E2 : CS → Option (Int32 × CS)} (hm1 : ∀ σ, Kf (CS.i σ 32) (E1 σ)) (hm2 : ∀ σ, Kf (CS.i σ 32) (E2 σ)) (hE : SXR N 18 E1) {d : Int32} {S : CS} {q V U : RS} {n t : Nat} {st : Int32} {p : Unit × CS} (hv : ENV d S q) (tq : tpI q = t) (h3 : 3 ≤ phI q) (e : f_X1_expression N E1 E2 S = some p) (hV : f_X12_then N q st 16 = some V) (g : f_X12_parse_10 N n V = some U) : (¬ p.2.i 32 = 0 ∧ ¬ U.i 15 = 0) ∨ ∃ (m : Nat) (u : RS), f_X12_parse_10 N m u = some U ∧ EXO d t st S q p.2 u ∧ CDE 0 U S q p.2 u := by
  obtain ⟨hV', t99⟩ := r_then tq hV
  rw [hV'] at g
  rcases sx_expression hN hm1 hm2 hE d S (TH q t st 16) U n (t + 1) p hv.th (TH.tp tq (by omega)) TH.fk TH.fs (show 3 ≤ phI q from h3) e g with z | ⟨m, u, g3, xo, xc⟩
  · exact Or.inl z
  · exact Or.inr ⟨m, u, g3, xo.ex, xc.th hv.2.1.1⟩
theorem y_cond {N : Nat} (hN : 1000 ≤ N) {E1 : CS → Option (Unit × CS)} {E2 : CS → Option (Int32 × CS)} (hm1 : ∀ σ, Kf (CS.i σ 32) (E1 σ)) (hm2 : ∀ σ, Kf (CS.i σ 32) (E2 σ)) (hE2 : SXN N 22 E2) {d : Int32} {S : CS} {q V U : RS} {n t : Nat} {st : Int32} {p : Int32 × CS} (hv : ENV d S q) (tq : tpI q = t) (h3 : 3 ≤ phI q) (e : f_X1_condition N E1 E2 S = some p) (hV : f_X12_then N q st 20 = some V) (g : f_X12_parse_10 N n V = some U) : (¬ p.2.i 32 = 0 ∧ ¬ U.i 15 = 0) ∨ ∃ (m : Nat) (u : RS), f_X12_parse_10 N m u = some U ∧ EXO d t st S q p.2 u ∧ (p.1 = 0 ∨ p.1 = 1) ∧ (p.1 = 1 ↔ (q.i 10 = 432 ∧ (u.i 17).toInt = (q.i 17).toInt + 1)) ∧ (CDE 2 U S q p.2 u ∧ (p.1 = 1 → CDE 4 U S q p.2 u)) := by
  obtain ⟨hV', t99⟩ := r_then tq hV
  rw [hV'] at g
  rcases sx_condition hN hm1 hm2 hE2 d S (TH q t st 20) U n (t + 1) p hv.th (TH.tp tq (by omega)) TH.fk TH.fs (show 3 ≤ phI q from h3) e g with z | ⟨m, u, g3, xo, x1, x2, xc⟩
  · exact Or.inl z
  · exact Or.inr ⟨m, u, g3, xo.ex, x1, x2, xc.1.th hv.2.1.1, fun z => (xc.2 z).th hv.2.1.1⟩
/-- a statement's frame is over -/
theorem y_over {N : Nat} {d : Int32} {S : CS} {s V : RS} {t : Nat} {x : Int32} (h : ENV d S s) (ht : tpI s = t) (t9 : t < 1000) (e : f_X12_over N s x = some V) : ENV d S V ∧ tpI V = (t : Int) - 1 ∧ (∀ r : Nat, FRB r s V) ∧ TBK s V ∧ V.i 75 = x ∧ (x = 0 ∨ x = 1) ∧ phI V = phI s ∧ V.i 11 = s.i 11 ∧ V.i 17 = s.i 17 ∧ V.i 19 = s.i 19 := by
  unfold f_X12_over at e
  obtain ⟨hx, e⟩ := hf_ite e
  cases e
  refine ⟨h.kq rfl rfl rfl rfl rfl rfl rfl rfl rfl rfl rfl rfl rfl rfl rfl rfl rfl rfl rfl rfl ⟨h.2.2.2.2.2.2.1, h.2.2.2.2.2.2.2.1⟩ (h.wp.of (Int.le_refl _) rfl rfl rfl rfl rfl), tp_sub ht t9, fun r _ _ => ⟨rfl, rfl, rfl, rfl, rfl, rfl, rfl, rfl, rfl, rfl, rfl⟩, ?_, rfl, hx, rfl, rfl, rfl, rfl⟩
  exact ⟨⟨⟨rfl, rfl, rfl, rfl, rfl, rfl, rfl, rfl, rfl, rfl⟩, fun _ _ => ⟨rfl, rfl, rfl⟩, fun _ _ => ⟨rfl, rfl, rfl, rfl, rfl, rfl, rfl, rfl⟩, fun _ _ => ⟨rfl, rfl⟩, ⟨Int.le_refl _, fun j h1 h2 => absurd (show (j : Int) < (s.i 59).toInt from h2) (by omega)⟩, fun _ _ => ⟨rfl, rfl, rfl⟩, Int.le_refl _, fun _ _ => rfl, Int.le_refl _, fun _ _ => ⟨rfl, rfl⟩, Int.le_refl _, fun _ _ => ⟨rfl, rfl, rfl⟩⟩, Int.le_refl _, fun _ _ => rfl⟩
/-- only the second operands differ -/
def EQ23 (s y : RS) : Prop := y.i = s.i ∧ y.b = s.b ∧ y.l = s.l ∧ (∀ k : Nat, k ≠ 23 → y.a k = s.a k)
theorem EQ23.env {d : Int32} {S : CS} {s y : RS} (h : EQ23 s y) (v : ENV d S s) : ENV d S y := by
  obtain ⟨h1, h2, h3, h4⟩ := h
  have p : phI y = phI s := by unfold phI; rw [h1]
  exact v.kq (by rw [h1]) (by rw [h1]) (by rw [h1]) (by rw [h1]) (by rw [h1]) (by rw [h1]) (by rw [h1]) (h4 1 (by decide)) (h4 4 (by decide)) (h4 41 (by decide)) (by rw [h2]) (by rw [h2]) (by rw [h1]) (by rw [h1]) (by rw [h1]) (by rw [h1]) (by rw [h1]) (by rw [h1]) (by rw [h1]) h3 ⟨by rw [h1]; exact v.2.2.2.2.2.2.1, by rw [p]; exact v.2.2.2.2.2.2.2.1⟩ (v.wp.of (by rw [h1]; exact Int.le_refl _) (by rw [h1]) (by rw [h1]) (by rw [h1]) (h4 58 (by decide)) (h4 62 (by decide)))
theorem EQ23.frb {s y : RS} {t : Nat} (h : EQ23 s y) : FRB t s y := by
  obtain ⟨h1, h2, h3, h4⟩ := h
  exact fun j _ => ⟨by rw [h4 64 (by decide)], by rw [h4 65 (by decide)], by rw [h4 66 (by decide)], by rw [h4 67 (by decide)], by rw [h4 68 (by decide)], by rw [h4 69 (by decide)], by rw [h4 70 (by decide)], by rw [h4 71 (by decide)], by rw [h4 72 (by decide)], by rw [h4 73 (by decide)], by rw [h2]⟩
theorem EQ23.tbk {s y : RS} (h : EQ23 s y) : TBK s y := by
  obtain ⟨h1, h2, h3, h4⟩ := h
  exact ⟨⟨⟨by rw [h1], by rw [h1], by rw [h1], by rw [h1], by rw [h1], by rw [h1], by rw [h1], h4 1 (by decide), h4 4 (by decide), by rw [h2]⟩, fun j _ => ⟨by rw [h2], by rw [h4 40 (by decide)], by rw [h4 41 (by decide)]⟩, fun j _ => ⟨by rw [h4 44 (by decide)], by rw [h2], by rw [h4 46 (by decide)], by rw [h4 47 (by decide)], by rw [h4 50 (by decide)], by rw [h4 51 (by decide)], by rw [h4 48 (by decide)], by rw [h4 49 (by decide)]⟩, fun j _ => ⟨by rw [h4 57 (by decide)], by rw [h4 58 (by decide)]⟩, ⟨by rw [h1]; exact Int.le_refl _, fun j k1 k2 => by rw [h1] at k2; omega⟩, fun j _ => ⟨by rw [h4 60 (by decide)], by rw [h4 61 (by decide)], by rw [h4 62 (by decide)]⟩, by rw [h1]; exact Int.le_refl _, fun j _ => by rw [h4 30 (by decide)], by rw [h1]; exact Int.le_refl _, fun j _ => ⟨by rw [h4 34 (by decide)], by rw [h4 37 (by decide)]⟩, by rw [h1]; exact Int.le_refl _, fun j _ => ⟨by rw [h4 25 (by decide)], by rw [h4 27 (by decide)], by rw [h4 28 (by decide)]⟩⟩, by rw [h1]; exact Int.le_refl _, fun j _ => by rw [h4 22 (by decide)]⟩
theorem eun_of {N : Nat} {d : Int32} {S : CS} {q u U y2 V : RS} {o x z zx : Int32} {p w r : Unit × CS} {y b : Int32 × RS} (hv : ENV d S q) (xc : CDE 0 U S q p.2 u) (w1 : ENV d p.2 u) (w5 : TBK q u) (w19 : u.i 19 = q.i 19) (e2 : f_X0_add N p.2 o x = some w) (hy : f_X12_emit N u z zx = some y) (q23 : EQ23 y.2 y2) (j23 : ∀ j : Nat, ¬ j = pcR u → y2.a 23 j = y.2.a 23 j) (ev : ENV d w.2 y2) (e3 : f_X1_expect N w.2 59 = some r) (hb : f_X12_need N y2 59 = some b) (o3 : ENV d r.2 b.2) (o5 : pj r.2 = pj w.2) (o7 : (y2.i 11).toInt + 1 ≤ (b.2.i 11).toInt) (qV : qe V = qe b.2) : EUN 0 o x z zx U S q r.2 V := by
  intro cr
  obtain ⟨f1, f2, f3, Ψ1, sat1, f4⟩ := xc cr
  have crp : CRB p.2 := cr.of f1 (by omega) (by omega)
  have p44 := w1.p44
  have p44' : (p.2.i 44).toInt = (u.i 11).toInt := by rw [p44.1]
  obtain ⟨d1, d2, ⟨d3, d3'⟩, d4, d5, d6⟩ := cd_add e2 crp.1.1 (by have := crp.1.2; omega)
  have p20 := w1.p20
  obtain ⟨m1, m2, m3, m4, m5, m6⟩ := cd_emit hy p20.1 (by omega)
  obtain ⟨j1, j2, j3, j4, j5, j6⟩ := tok_cd ev o3 o5 (ke_X1_expect N w.2 59 r e3) (kre_f_X12_need N y2 59 b hb) o7
  obtain ⟨qi, qb, ql, qa⟩ := q23
  have pu : ((pcR u : Nat) : Int) = (u.i 20).toInt := Int.toNat_of_nonneg p20.1
  have yy : ∀ c : Int, c ≤ (u.i 20).toInt → CD2 c y.2 y2 := fun c hc => ⟨⟨by rw [qi]; exact Int.le_refl _, by rw [qi]; exact Int.le_refl _, by rw [qi]; exact Int.le_refl _, by rw [qi]; exact Int.le_refl _, SLC.eq (by rw [qi]) (by rw [qi]; exact Int.le_refl _), by rw [qi]⟩, fun j hj => ⟨by rw [qa 21 (by decide)], by rw [qa 22 (by decide)], j23 j (by omega)⟩, fun j _ => ⟨by rw [qa 25 (by decide)], by rw [qa 26 (by decide)], by rw [qa 27 (by decide)], by rw [qa 28 (by decide)]⟩, fun j _ => ⟨by rw [qa 30 (by decide)], by rw [qa 31 (by decide)], by rw [qa 32 (by decide)]⟩, fun j _ => ⟨by rw [qa 34 (by decide)], by rw [qa 35 (by decide)], by rw [qa 36 (by decide)], by rw [qa 37 (by decide)]⟩⟩
  have uV : CD2 (u.i 20).toInt u V := ((m1.tr (yy _ (Int.le_refl _))).tr (j3 _)).tr (CD2.qe qV)
  have c1 : CD1 0 (-1) p.2 r.2 := (d1.tr j1).wk (by omega) (by omega)
  have t1 : ∀ a b : Int, CT7 a b p.2 r.2 := fun a b => (CT7.eq d4).tr (j2 a b)
  have l3 := f3.1.1
  refine ⟨(f1.tr c1).wk (by omega) (by omega), f2.tr (t1 _ _), f3.tr (uV.wk l3), Ψ1, ?_, sat1.wd (MNO.of (CD1.rf S) (CD2.rf 0 q)) (MNO.of c1 uV), ?_⟩
  · have pS : ((pcC S : Nat) : Int) = (S.i 20).toInt := Int.toNat_of_nonneg cr.1.1
    have lp := f1.1.1
    have pr : ((pcC r.2 : Nat) : Int) = (p.2.i 20).toInt + 1 := by
      unfold pcC
      rw [j4, d2]
      exact Int.toNat_of_nonneg (by have := crp.1.1; omega)
    omega
  intro FC SF nm X c h w0 W g0 ps fc fr ng hc hh ty hW last
  have pS : ((pcC S : Nat) : Int) = (S.i 20).toInt := Int.toNat_of_nonneg cr.1.1
  have pp : ((pcC p.2 : Nat) : Int) = (p.2.i 20).toInt := Int.toNat_of_nonneg crp.1.1
  have lp := f1.1.1
  have pr : pcC r.2 = pcC p.2 + 1 := by
    unfold pcC
    rw [j4, d2]
    have := crp.1.1
    omega
  have pV : pcR V = pcR u + 1 := by
    unfold pcR
    rw [(qe_eq qV).1.1, j6, qi, m3]
    have := p20.1
    omega
  have V20 : (V.i 20).toInt = (u.i 20).toInt + 1 := by rw [(qe_eq qV).1.1, j6, qi, m3]
  have f15 := fc.2.1 (pcC p.2) (by omega) (by rw [j4, d2]; omega)
  have k15 := j1.2.1 (pcC p.2) (by rw [d2]; omega)
  have u21 := fr.2.1 (pcR u) (by omega) (by omega)
  have a1 : V.a 21 (pcR u) = z ∧ V.a 22 (pcR u) = zx := by
    obtain ⟨-, v21, v22, -⟩ := qe_eq qV
    obtain ⟨-, b21, b22, -⟩ := qe_eq (kre_f_X12_need N y2 59 b hb)
    rw [v21, v22, b21, b22, qa 21 (by decide), qa 22 (by decide)]
    exact ⟨m4, m5⟩
  have frU := fr.1
  have z0 := last (pcC p.2) (pcR u) ⟨by have := crp.1.2; omega, by omega, frU.2.2⟩ (by rw [f15.1, k15.1]; exact d3) (by rw [f15.2, k15.2]; exact d3') (by rw [u21.1]; exact a1.1) (by rw [u21.2.1]; exact a1.2) u21.2.2 pr.symm pV.symm
  have z1 := f4 FC SF nm X c h w0 W g0 ps (fc.sub (CD1.rf S) c1 (t1 _ _)) (fr.sub (CD2.rf 0 q) uV (uV.c3 (Int.le_refl _))) ng hc hh ty hW True.intro z0
  rw [pr, show w0 + (pcC p.2 + 1 - 1 - pcC S) = w0 + (pcC p.2 - pcC S) by omega]
  exact z1
theorem y_e119 {N : Nat} {x1 x2 : Int32} : ∀ (n : Nat) (s : RS) (x3 : Int32) (V : RS), 0 ≤ x3.toInt → f_X12_ending_119 N n s x1 x2 x3 = some V → ∃ y : RS, EQ23 s y ∧ (∀ j : Nat, ¬ j = x2.toNatClampNeg → y.a 23 j = s.a 23 j) ∧ (∀ g : Nat, x3.toInt ≤ (g : Int) → (g : Int) < (s.i 43).toInt → s.a 44 g = 3 → (∀ g' : Nat, g < g' → (g' : Int) < (s.i 43).toInt → ¬ s.a 44 g' = 3) → y.a 23 x2.toNatClampNeg = s.a 47 g) ∧ ((∀ g : Nat, x3.toInt ≤ (g : Int) → (g : Int) < (s.i 43).toInt → ¬ s.a 44 g = 3) → y.a 23 x2.toNatClampNeg = s.a 23 x2.toNatClampNeg) ∧ ((f_X12_need N y 59).bind fun p8 => if ib x1 1000 then (if (p8.2.a 66 (x1.toNatClampNeg)) = 412 then (f_X12_over N p8.2 1).bind fun p14 => some p14 else (f_X12_over N p8.2 0).bind fun p12 => some p12) else none) = some V
  | 0, _, _, _, _, e => by cases e
  | n + 1, s, x3, V, x0, e => by
    have e' : b_X12_ending_119 N (f_X12_ending_119 N n) s x1 x2 x3 = some V := e
    unfold b_X12_ending_119 at e'
    by_cases c : s.i 43 ≤ x3
    · rw [if_pos c] at e'
      have lc := le_int c
      exact ⟨s, ⟨rfl, rfl, rfl, fun _ _ => rfl⟩, fun _ _ => rfl, fun g g1 g2 => by omega, fun _ => rfl, e'⟩
    · rw [if_neg c] at e'
      obtain ⟨ib4, e'⟩ := hf_ite e'
      have i46 := ib4.2
      have ck := clampI x0
      have lt := lt_int (Int32.not_le.mp c)
      have x31 : (x3 + 1).toInt = x3.toInt + 1 := ad1 x0 (by omega)
      have go : ∀ v : Int32, (s.a 44 x3.toNatClampNeg = 3 → v = s.a 47 x3.toNatClampNeg) → (¬ s.a 44 x3.toNatClampNeg = 3 → v = s.a 23 x2.toNatClampNeg) → f_X12_ending_119 N n (RS.setA s 23 (x2.toNatClampNeg) v) x1 x2 (x3 + 1) = some V → ∃ y : RS, EQ23 s y ∧ (∀ j : Nat, ¬ j = x2.toNatClampNeg → y.a 23 j = s.a 23 j) ∧ (∀ g : Nat, x3.toInt ≤ (g : Int) → (g : Int) < (s.i 43).toInt → s.a 44 g = 3 → (∀ g' : Nat, g < g' → (g' : Int) < (s.i 43).toInt → ¬ s.a 44 g' = 3) → y.a 23 x2.toNatClampNeg = s.a 47 g) ∧ ((∀ g : Nat, x3.toInt ≤ (g : Int) → (g : Int) < (s.i 43).toInt → ¬ s.a 44 g = 3) → y.a 23 x2.toNatClampNeg = s.a 23 x2.toNatClampNeg) ∧ ((f_X12_need N y 59).bind fun p8 => if ib x1 1000 then (if (p8.2.a 66 (x1.toNatClampNeg)) = 412 then (f_X12_over N p8.2 1).bind fun p14 => some p14 else (f_X12_over N p8.2 0).bind fun p12 => some p12) else none) = some V := fun v v1 v2 e => by
        obtain ⟨y, ⟨h1, h2, h3, h4⟩, h6, h7, h8, h5⟩ := y_e119 n _ (x3 + 1) V (by omega) e
        have at23 : (RS.setA s 23 x2.toNatClampNeg v).a 23 x2.toNatClampNeg = v := setA_at
        have n44 : (RS.setA s 23 x2.toNatClampNeg v).a 44 = s.a 44 := setA_nk (by decide)
        have n47 : (RS.setA s 23 x2.toNatClampNeg v).a 47 = s.a 47 := setA_nk (by decide)
        rw [n44] at h7 h8
        rw [n47] at h7
        rw [at23] at h8
        refine ⟨y, ⟨h1, h2, h3, fun k hk => (h4 k hk).trans (setA_nk hk)⟩, fun j hj => (h6 j hj).trans (setA_ne hj), fun g g1 g2 g3 g4 => ?_, fun g0 => ?_, h5⟩
        · by_cases z : (g : Int) = x3.toInt
          · have eg : g = x3.toNatClampNeg := by omega
            rw [eg] at g3 g4 ⊢
            rw [h8 (fun g' k1 k2 => g4 g' (by omega) k2)]
            exact v1 g3
          · exact h7 g (by omega) g2 g3 g4
        · rw [h8 (fun g' k1 k2 => g0 g' (by omega) k2)]
          exact v2 (g0 x3.toNatClampNeg (by omega) (by omega))
      by_cases c3 : s.a 44 (x3.toNatClampNeg) = 3
      · rw [if_pos c3] at e'
        obtain ⟨-, e'⟩ := hf_ite e'
        exact go _ (fun _ => rfl) (fun z => absurd c3 z) e'
      · rw [if_neg c3] at e'
        obtain ⟨-, e'⟩ := hf_ite e'
        exact go _ (fun z => absurd z c3) (fun _ => rfl) e'
/-- the last instruction's second word: the depth of the innermost arms -/
def YDP (q u : RS) : Prop := ∀ g : Nat, (g : Int) < (q.i 43).toInt → q.a 44 g = 3 → (∀ g' : Nat, g < g' → (g' : Int) < (q.i 43).toInt → ¬ q.a 44 g' = 3) → u.a 23 (pcR u - 1) = q.a 47 g
/-- log, return, yield: behind the first word -/
theorem y_end1 {N : Nat} (hN : 1000 ≤ N) {E1 : CS → Option (Unit × CS)} {E2 : CS → Option (Int32 × CS)} (hm1 : ∀ σ, Kf (CS.i σ 32) (E1 σ)) (hm2 : ∀ σ, Kf (CS.i σ 32) (E2 σ)) (hE : SXR N 18 E1) {d : Int32} {S : CS} {q V U : RS} {n t : Nat} {v o x0 : Int32} {p w r : Unit × CS} (hv : ENV d S q) (tq : tpI q = t) (hk : q.a 64 t = 6) (h66 : q.a 66 t = v) (hv3 : v = 412 ∨ v = 420 ∨ v = 431) (h3 : 3 ≤ phI q) (e1 : f_X1_expression N E1 E2 S = some p) (e2 : f_X0_add N p.2 o x0 = some w) (e3 : f_X1_expect N w.2 59 = some r) (hV : f_X12_then N q 1 16 = some V) (g : f_X12_parse_10 N n V = some U) : (¬ r.2.i 32 = 0 ∧ ¬ U.i 15 = 0) ∨ ∃ (m : Nat) (u : RS), f_X12_parse_10 N m u = some U ∧ XO d t S q r.2 u ∧ (u.i 75 = 1 ↔ v = 412) ∧ (u.i 75 = 0 ∨ u.i 75 = 1) ∧ EUN 0 o x0 (if v = 412 then 16 else if v = 420 then 17 else 18) 0 U S q r.2 u ∧ YDP q u := by
  rcases y_expr hN hm1 hm2 hE hv tq h3 e1 hV g with ⟨x1, x2⟩ | ⟨m, u, g2, ⟨w1, w2, ⟨f0, f1, f2, -⟩, w4, w5, w6, w7, w8, w9, w10⟩, xc⟩
  · refine Or.inl ⟨?_, x2⟩
    have z : ¬ w.2.i 32 = 0 := by rw [fst_add e2]; exact x1
    rw [kF_X1_expect N w.2 59 r e3 z]
    exact z
  · obtain ⟨m2, V2, hV2, g3⟩ := rl_6 g2 w2 w1.1.2.1 (f0.trans hk)
    unfold f_X12_ending at hV2
    obtain ⟨hib, hV2⟩ := hf_ite hV2
    have t9 : t < 1000 := by
      have h2 : (u.i 63).toInt = (t : Int) := w2
      have := hib.2
      omega
    rw [tp_nat w2, if_neg (show ¬ u.a 65 t = 0 by rw [f1]; decide)] at hV2
    have em : ∃ (z : Int32) (y : Int32 × RS), f_X12_emit N u z 0 = some y ∧ f_X12_ending_117 N y.2 (u.i 63) y.1 = some V2 ∧ z = (if v = 412 then 16 else if v = 420 then 17 else 18) := by
      have f66 : u.a 66 t = v := f2.trans h66
      by_cases c1 : u.a 66 t = 412
      · rw [if_pos c1] at hV2
        obtain ⟨y, hy, hV2⟩ := hf_bind hV2
        exact ⟨_, y, hy, hV2, (if_pos (f66.symm.trans c1)).symm⟩
      · rw [if_neg c1] at hV2
        by_cases c2 : u.a 66 t = 420
        · rw [if_pos c2] at hV2
          obtain ⟨y, hy, hV2⟩ := hf_bind hV2
          exact ⟨_, y, hy, hV2, by rw [if_neg (fun q => c1 (f66.trans q)), if_pos (f66.symm.trans c2)]⟩
        · rw [if_neg c2] at hV2
          obtain ⟨y, hy, hV2⟩ := hf_bind hV2
          exact ⟨_, y, hy, hV2, by rw [if_neg (fun q => c1 (f66.trans q)), if_neg (fun q => c2 (f66.trans q))]⟩
    obtain ⟨z, y, hy, hV3, ez⟩ := em
    obtain ⟨n1, n2, n3, n4, n5, n6⟩ := em_env w1 (by omega) hy
    obtain ⟨nq, -, y11, -, -, -, -, y17, y19, -⟩ := qj2_eq n3
    unfold f_X12_ending_117 at hV3
    obtain ⟨y2, hy2, hj2, hg2, hn2, hV4⟩ := y_e119 N y.2 0 V2 (by decide) hV3
    have ey1 : y.1.toNatClampNeg = pcR u := by
      have p20 := w1.p20
      have i3 : (u.i 20).toInt < 3000 := by omega
      rw [(cd_emit hy p20.1 i3).2.1]
      rfl
    rw [tp_nat w2] at hV4
    obtain ⟨b, hb, hV4⟩ := hf_bind hV4
    have ev := (hy2.env n1).kd (kd_X0_add N p.2 o x0 w e2)
    have ty : tpI y2 = t := by
      show (y2.i 63).toInt = (t : Int)
      rw [hy2.1]
      exact qj_63 nq w2
    rcases y_need hN ev (c := 59) (d := 59) (Or.inl ⟨by decide, by decide⟩) (by decide) (by decide) (by decide) e3 hb with ⟨o1, o2, o3⟩ | ⟨o1, o2, o3, o4, o5, o6, o7, o8, o9, o10, o11, o12⟩
    · refine Or.inl ⟨o2, u_flt g3 ?_⟩
      obtain ⟨-, hV4⟩ := hf_ite hV4
      by_cases c : b.2.a 66 t = 412
      · rw [if_pos c, ob_id] at hV4
        exact krf_f_X12_over N b.2 1 V2 hV4 o3
      · rw [if_neg c, ob_id] at hV4
        exact krf_f_X12_over N b.2 0 V2 hV4 o3
    · obtain ⟨-, hV4⟩ := hf_ite hV4
      have tb : tpI b.2 = t := qj_63 o4 ty
      have fb : FRB (t + 1) y2 b.2 := FRB.of o4
      have fy : FRB (t + 1) y.2 y2 := hy2.frb
      have fu : FRB (t + 1) u y.2 := FRB.of nq
      have b66 : b.2.a 66 t = v := by
        rw [(fb t (by omega)).2.2.1, (fy t (by omega)).2.2.1, (fu t (by omega)).2.2.1, f2]
        exact h66
      have t17 : (b.2.i 17).toInt = (u.i 17).toInt + 1 := by
        rw [o6, t17_up (N := N) ev, hy2.1, y17]
      have pb : phI b.2 = phI u + 2 := by
        have p1 : phI y2 = phI y.2 := by unfold phI; rw [hy2.1]
        have p2 : phI b.2 = phI y2 + 3 := by
          unfold phI
          rw [o8, o6, t17_up (N := N) ev]
          omega
        omega
      have b11 : (u.i 11).toInt + 1 ≤ (b.2.i 11).toInt := by
        rw [hy2.1, y11] at o7
        exact o7
      have b19 : b.2.i 19 = u.i 19 := by rw [o12, hy2.1, y19]
      have kp := pj2_eq (kd_X0_add N p.2 o x0 w e2)
      have ck : CKX S r.2 := (w6.tr (CKX.of kp.1 kp.2.2.2.2.1 kp.2.2.2.2.2.2.2.2.2.2.2)).tr (CKX.of o5 o10 o11)
      have ydp : ∀ x : Int32, f_X12_over N b.2 x = some V2 → YDP q V2 := fun x hx => by
        have e20 : (V2.i 20).toInt = (u.i 20).toInt + 1 := by
          have q1 := (qe_eq (kre_f_X12_over N b.2 x V2 hx)).1.1
          have q2 := (qe_eq (kre_f_X12_need N y2 59 b hb)).1.1
          rw [q1, q2, hy2.1, n6]
        have p20 := w1.p20
        have pv : pcR V2 - 1 = pcR u := by
          unfold pcR
          rw [e20]
          omega
        have a23 : V2.a 23 = y2.a 23 := by
          rw [(qe_eq (kre_f_X12_over N b.2 x V2 hx)).2.2.2.1, (qe_eq (kre_f_X12_need N y2 59 b hb)).2.2.2.1]
        have t43 : y.2.i 43 = q.i 43 := by
          have z1 : y.2.i 43 = u.i 43 := n2.1.1.2.2.2.2.1
          exact z1.trans w5.1.1.2.2.2.2.1
        have t44 : ∀ g : Nat, (g : Int) < (q.i 43).toInt → y.2.a 44 g = q.a 44 g ∧ y.2.a 47 g = q.a 47 g := fun g hg => by
          have z1 := n2.1.2.2.1 g (by rw [w5.1.1.2.2.2.2.1]; exact hg)
          have z2 := w5.1.2.2.1 g hg
          exact ⟨z1.1.trans z2.1, z1.2.2.2.1.trans z2.2.2.2.1⟩
        rw [ey1, t43] at hg2
        intro g g1 g2 g3
        rw [pv, a23, hg2 g (by rw [z_t0]; omega) g1 (by rw [(t44 g g1).1]; exact g2) (fun g' k1 k2 => by rw [(t44 g' k2).1]; exact g3 g' k1 k2)]
        exact (t44 g g1).2
      have fin : ∀ x : Int32, f_X12_over N b.2 x = some V2 → (x = 1 ↔ v = 412) → ∃ (m : Nat) (u : RS), f_X12_parse_10 N m u = some U ∧ XO d t S q r.2 u ∧ (u.i 75 = 1 ↔ v = 412) ∧ (u.i 75 = 0 ∨ u.i 75 = 1) ∧ EUN 0 o x0 (if v = 412 then 16 else if v = 420 then 17 else 18) 0 U S q r.2 u ∧ YDP q u := fun x hx hx2 => by
        obtain ⟨v1, v2, v3, v4, v5, v6, v7, v8, v9, v10⟩ := y_over o3 tb t9 hx
        refine ⟨m2, V2, g3, ⟨v1, v2, ((((w4.tr (FRB.of nq)).tr hy2.frb).tr (FRB.of o4)).tr (v3 t)), ((((w5.tr n2).tr hy2.tbk).tr (TBK.of o4 (by rw [o8]; exact Int.le_refl _) (fun j _ => by rw [o9]))).tr v4), ck, by rw [v8]; omega, by omega, by rw [v9]; omega, by rw [v10, b19, w10]⟩, by rw [v5]; exact hx2, by rw [v5]; exact v6, ?_, ?_⟩
        · rw [← ez]
          exact eun_of hv xc w1 w5 w10 e2 hy hy2 (fun j hj => hj2 j (by rw [ey1]; exact hj)) ev e3 hb o3 o5 o7 (kre_f_X12_over N b.2 x V2 hx)
        · exact ydp x hx
      by_cases c : b.2.a 66 t = 412
      · rw [if_pos c, ob_id] at hV4
        exact Or.inr (fin 1 hV4 ⟨fun _ => b66.symm.trans c, fun _ => rfl⟩)
      · rw [if_neg c, ob_id] at hV4
        exact Or.inr (fin 0 hV4 ⟨fun z => absurd z (by decide), fun z => absurd (b66.trans z) c⟩)
end
section
/-! both readers: log, return, yield -/
theorem XO.pre {d : Int32} {t : Nat} {S P R : CS} {s q u : RS} (f : FRB t s q) (k : TBK s q) (c : CKX S P) (h11 : (s.i 11).toInt ≤ (q.i 11).toInt) (hp : phI s ≤ phI q) (h17 : (s.i 17).toInt ≤ (q.i 17).toInt) (h19 : q.i 19 = s.i 19) (x : XO d t P q R u) : XO d t S s R u := by
  obtain ⟨w1, w2, w3, w4, w5, w6, w7, w8, w9⟩ := x
  exact ⟨w1, w2, f.tr w3, k.tr w4, c.tr w5, by omega, by omega, by omega, w9.trans h19⟩
theorem ENV.s36 {d : Int32} {S : CS} {s : RS} {v : Int32} (h : ENV d S s) : ENV d (CS.setI S 36 v) s := by
  obtain ⟨⟨h1, h2, h3, h4, h5, h6, h7, h8⟩, n, o, c, l, k, ⟨r1, r2, r3, r4, r5, r6, r7, r8, r9, r10, r11⟩⟩ := h
  exact ⟨⟨h1, h2, h3, h4, h5, h6, h7, h8⟩, n, o, c, l, k, ⟨r1, r2, r3, r4, r5, r6, r7, r8.mv rfl rfl rfl rfl ⟨rfl, rfl, rfl⟩ r8.2.2.2.2.2.2 (Int.le_refl _), r9, r10, r11⟩⟩
theorem CKX.s36 {S R : CS} (h : CKX S R) (h36 : S.i 36 = 1) : CKX S (CS.setI R 36 1) := by
  obtain ⟨⟨a1, a2, a3, a4, a5, a6⟩, b1, b2, b3, b4, b5, b6, b7, b8⟩ := h
  exact ⟨⟨a1, (ci_at _ _ _).trans h36.symm, a3, a4, a5, a6⟩, b1, b2, b3, b4, b5, b6, b7, b8⟩
theorem CKX.s36b {S R : CS} {v : Int32} (h : CKX S R) (h36 : S.i 36 = 1) : CKX S (CS.setI (CS.setI R 36 v) 36 1) := by
  obtain ⟨⟨a1, a2, a3, a4, a5, a6⟩, b1, b2, b3, b4, b5, b6, b7, b8⟩ := h
  exact ⟨⟨a1, (ci_at _ _ _).trans h36.symm, a3, a4, a5, a6⟩, b1, b2, b3, b4, b5, b6, b7, b8⟩
theorem XO.s36 {d : Int32} {t : Nat} {S R : CS} {s u : RS} (h : XO d t S s R u) (h36 : S.i 36 = 1) : XO d t S s (CS.setI R 36 1) u := by
  obtain ⟨w1, w2, w3, w4, w5, w6⟩ := h
  exact ⟨w1.s36, w2, w3, w4, w5.s36 h36, w6⟩
theorem XO.s36b {d : Int32} {t : Nat} {S R : CS} {s u : RS} {v : Int32} (h : XO d t S s R u) (h36 : S.i 36 = 1) : XO d t S s (CS.setI (CS.setI R 36 v) 36 1) u := by
  obtain ⟨w1, w2, w3, w4, w5, w6⟩ := h
  exact ⟨w1.s36.s36, w2, w3, w4, w5.s36b h36, w6⟩
/-- both flags of a place -/
def GU2 (FC : Nat → Prop) (SF : CS) (U : RS) (nm : Nat → Nat → Prop) (X : Als) (p q h w : Nat) (c : List Ent) : Prop := GU FC SF U nm X p q h w 0 c ∧ GU FC SF U nm X p q h w 1 c
def JT9 : Type := (Nat → Prop) → CS → (Nat → Nat → Prop) → Als → List Ent → Nat → Nat → Prop
/-- the code of a statement behind its step: if T, its first place is good -/
def CDG (a : Int) (T : JT9) (U : RS) (S : CS) (s : RS) (R : CS) (u : RS) : Prop := CRB S → CD1 a (-1) S R ∧ CT7 0 (S.i 21).toInt S R ∧ CD2 (s.i 20).toInt s u ∧ ∃ Ψ : GPS, SAT Ψ S s R u ∧ ∀ (FC : Nat → Prop) (SF : CS) (nm : Nat → Nat → Prop) (X : Als) (c : List Ent) (h w2 W g0 : Nat), Ψ FC nm → FGC S R SF → FGR s u U → NMG nm c S s → HC0 nm h c → ((2 * h + 0 + msr c : Nat) : Int) ≤ (s.i 11).toInt → TYC SF U (GU FC SF U nm X) W c → W + 1 ≤ w2 → T FC SF nm X c h w2 → GU FC SF U nm X (pcC S) (pcR s) h (w2 + (pcC R - pcC S)) g0 c
/-- the place behind it is good -/
def JGO (U : RS) (R : CS) (u : RS) : JT9 := fun FC SF nm X c h w2 => ∃ w : Nat, w ≤ w2 ∧ GU2 FC SF U nm X (pcC R) (pcR u) h w c
def JNO : JT9 := fun _ _ _ _ _ _ _ => True
theorem HRW.up {s0 : CS} {r0 : RS} {A : Als} {e : Ent} {c : List Ent} {W W' : Nat} (l : W ≤ W') : ∀ (n p : Nat) (k : Int32), HRW s0 r0 A e c W n p k → HRW s0 r0 A e c W' n p k := by
  intro n
  induction n with
  | zero => intro _ _ h; exact h
  | succ n ih =>
    intro p k h
    obtain ⟨h0, h⟩ := h
    refine ⟨h0, ?_⟩
    rcases h with h | ⟨h1, j, pb, qb, z, l', w, a2, a3, a4, a5, a6, ⟨a7, a8⟩, a9⟩ | ⟨h1, p', h2, h3⟩
    · exact Or.inl h
    · exact Or.inr (Or.inl ⟨h1, j, pb, qb, z, l', w, a2, a3, a4, a5, a6, ⟨a7, by omega⟩, ih _ _ a9⟩)
    · exact Or.inr (Or.inr ⟨h1, p', h2, ih _ _ h3⟩)
theorem TYC.up {s0 : CS} {r0 : RS} {A : Als} {W W' : Nat} (l : W ≤ W') : ∀ {c : List Ent}, TYC s0 r0 A W c → TYC s0 r0 A W' c
  | [], h => ⟨h.1, Nat.le_trans h.2 l⟩
  | _ :: _, ⟨h1, h2, h3⟩ => ⟨fun z => by
      obtain ⟨n, p, a, b, d⟩ := h1 z
      exact ⟨n, p, a, b, HRW.up l n p _ d⟩, fun z => by
      rcases h2 z with h | ⟨p, q, w, a, b, d, f, g⟩
      · exact Or.inl h
      · exact Or.inr ⟨p, q, w, a, b, d, f, by omega⟩, TYC.up l h3⟩
theorem EUN.pre {o x z zx : Int32} {U : RS} {S P R : CS} {s q u : RS} {a b k k' : Int} (h : EUN k o x z zx U P q R u) (a1 : CD1 a b S P) (ha : a ≤ 0) (ha' : a + k ≤ k') (hb : b ≤ 0) (t : CT7 0 (S.i 21).toInt S P) (y : ∀ c : Int, CD2 c s q) (pC : P.i 20 = S.i 20) (pR : q.i 20 = s.i 20) (n50 : S.i 50 = s.i 38) (e38 : q.i 38 = s.i 38) (a40 : ∀ j : Nat, (j : Int) < (s.i 38).toInt → q.a 40 j = s.a 40 j) (l11 : (s.i 11).toInt ≤ (q.i 11).toInt) (l19 : (s.i 19).toInt ≤ (q.i 19).toInt) : EUN k' o x z zx U S s R u := by
  intro cr
  obtain ⟨b1, b2, b3, Ψ, b4, sat, h⟩ := h (cr.of a1 ha hb)
  have pC' : pcC P = pcC S := by unfold pcC; rw [pC]
  have pR' : pcR q = pcR s := by unfold pcR; rw [pR]
  refine ⟨(a1.tr b1).wk (by omega) (by omega), t.tr (b2.wk (Int.le_refl _) a1.2.2.1), (y _).tr (b3.wk (by rw [pR]; exact Int.le_refl _)), Ψ, by rw [← pC']; exact b4, sat.wd (MNO.of a1 (y 0)) (MNO.of (CD1.rf R) (CD2.rf 0 u)), fun FC SF nm X c h' w W g0 ps fc fr ng hc hh ty hW last => ?_⟩
  have z := h FC SF nm X c h' w W g0 ps (fc.sub a1 (CD1.rf R) (CT7.rf _ _ R)) (fr.sub (y 0) (CD2.rf 0 u) (fun _ _ _ => ⟨rfl, rfl, rfl⟩)) (ng.mv n50 a1 (y 0) e38 a40 l19) hc (by omega) ty hW last
  rw [pC', pR'] at z
  exact z
theorem YDP.pre {s q u : RS} (h : YDP q u) (e43 : q.i 43 = s.i 43) (e : ∀ g : Nat, (g : Int) < (s.i 43).toInt → q.a 44 g = s.a 44 g ∧ q.a 47 g = s.a 47 g) : YDP s u := fun g g1 g2 g3 => by
  rw [h g (by rw [e43]; exact g1) (by rw [(e g g1).1]; exact g2) (fun g' k1 k2 => by rw [e43] at k2; rw [(e g' k2).1]; exact g3 g' k1 k2)]
  exact (e g g1).2
/-- a formula and its last instruction: a statement -/
theorem EUN.cdg {o x z zx : Int32} {U : RS} {S R R' : CS} {s u : RS} {T : JT9} {k : Int} (h : EUN k o x z zx U S s R u) (eR : pe R' = pe R) (e21 : R'.i 21 = R.i 21) (e50 : R'.i 50 = R.i 50) (e48 : R'.a 48 = R.a 48) (e49 : R'.a 49 = R.a 49) (e44 : R'.i 44 = R.i 44) (last : ∀ (FC : Nat → Prop) (SF : CS) (nm : Nat → Nat → Prop) (X : Als) (c : List Ent) (h w2 W p q : Nat), HC0 nm h c → h < 600 → TYC SF U (GU FC SF U nm X) W c → W + 1 ≤ w2 → T FC SF nm X c h w2 → NMG nm c S s → PQX SF U p q → SF.a 15 p = o → SF.a 16 p = x → U.a 21 q = z → U.a 22 q = zx → U.a 23 q = u.a 23 q → p + 1 = pcC R' → q + 1 = pcR u → GU FC SF U nm X p q (h + 1) (w2 + 1) 0 c) (l11 : (s.i 11).toInt ≤ 900) : CDG k T U S s R' u := by
  intro cr
  obtain ⟨b1, b2, b3, Ψ, b4, sat, h⟩ := h cr
  have k1 : CD1 0 0 R R' := (CD1.pe (b := 0) eR e21 e50 e48 e49 (by rw [e44]; omega)).wk (by omega) (by omega)
  obtain ⟨p20, p15, p16, p17, p23, -⟩ := pe_eq eR
  have k7 : ∀ a b : Int, CT7 a b R R' := fun a b => CT7.eq p17
  have pC : pcC R' = pcC R := by unfold pcC; rw [p20]
  have l20 := b1.1.1
  refine ⟨(b1.tr k1).wk (by omega) (by omega), b2.tr (k7 _ _), b3, Ψ, sat.wd (MNO.of (CD1.rf S) (CD2.rf 0 s)) (MNO.of k1 (CD2.rf 0 u)), fun FC SF nm X c h' w2 W g0 ps fc fr ng hc hh ty hW ht => ?_⟩
  have fc' : FGC S R SF := fc.sub (CD1.rf S) k1 (k7 _ _)
  have pSR := b4
  have z := h FC SF nm X c h' (w2 + 1) W g0 ps fc' fr ng hc hh ty (by omega) (fun p q pq x1 x2 x3 x4 x5 x6 x7 => last FC SF nm X c h' w2 W p q hc (by omega) ty hW ht ng pq x1 x2 x3 x4 x5 (by rw [pC]; exact x6) x7)
  rw [pC, show w2 + (pcC R - pcC S) = w2 + 1 + (pcC R - 1 - pcC S) by omega]
  exact z
/-- a statement that ends in its turn: F in the class, frame K at the word tok in the reference -/
def SXK (N : Nat) (K tok : Int32) (P : CS → RS → Prop) (F : CS → Option (Unit × CS)) (Q : RS → CS → RS → CS → RS → Prop) : Prop := ∀ (d : Int32) (S : CS) (s U : RS) (n t : Nat) (R : Unit × CS), ENV d S s → P S s → S.i 36 = 1 → tpI s = t → s.a 64 t = K → s.a 65 t = 0 → 2 ≤ phI s → S.i 43 = tok → F S = some R → f_X12_parse_10 N n s = some U → (¬ R.2.i 32 = 0 ∧ ¬ U.i 15 = 0) ∨ ∃ (m : Nat) (u : RS), f_X12_parse_10 N m u = some U ∧ XO d t S s (CS.setI R.2 36 1) u ∧ (u.i 75 = R.2.i 36 ∧ (R.2.i 36 = 0 ∨ R.2.i 36 = 1)) ∧ Q U S s R.2 u
/-- log, return, yield: from the word on -/
theorem y_end0 {N : Nat} (hN : 1000 ≤ N) {E1 : CS → Option (Unit × CS)} {E2 : CS → Option (Int32 × CS)} (hm1 : ∀ σ, Kf (CS.i σ 32) (E1 σ)) (hm2 : ∀ σ, Kf (CS.i σ 32) (E2 σ)) (hE : SXR N 18 E1) {d : Int32} {S : CS} {s q V U : RS} {n t : Nat} {v o x : Int32} {p1 p w r : Unit × CS} (hv : ENV d S s) (ht : tpI s = t) (hk : s.a 64 t = 6) (h10 : s.i 10 = v) (hv3 : v = 412 ∨ v = 420 ∨ v = 431) (h2 : 2 ≤ phI s) (h43 : ¬ S.i 43 = 0) (e0 : f_X9_advance N S = some p1) (e1 : f_X1_expression N E1 E2 p1.2 = some p) (e2 : f_X0_add N p.2 o x = some w) (e3 : f_X1_expect N w.2 59 = some r) (hq : f_X12_next N (RS.setA s 66 t (s.i 10)) = some q) (hV : f_X12_then N q 1 16 = some V) (g : f_X12_parse_10 N n V = some U) : (¬ r.2.i 32 = 0 ∧ ¬ U.i 15 = 0) ∨ ∃ (m : Nat) (u : RS), f_X12_parse_10 N m u = some U ∧ XO d t S s r.2 u ∧ (u.i 75 = 1 ↔ v = 412) ∧ (u.i 75 = 0 ∨ u.i 75 = 1) ∧ EUN (-1) o x (if v = 412 then 16 else if v = 420 then 17 else 18) 0 U S s r.2 u ∧ YDP s u := by
  obtain ⟨s1, hs1⟩ : ∃ y, y = RS.setA s 66 t (s.i 10) := ⟨_, rfl⟩
  rw [← hs1] at hq
  have ev1 : ENV d S s1 := by rw [hs1]; exact setA_env (Or.inr (by omega)) hv
  have f1 : FRB t s s1 := by rw [hs1]; exact setA_frb (Or.inr ⟨by omega, by omega, Nat.le_refl _⟩)
  have k1 : TBK s s1 := by rw [hs1]; exact ⟨setA_tb0 (Or.inr (by omega)), Int.le_refl _, fun _ _ => rfl⟩
  have a66 : s1.a 66 t = v := by
    rw [hs1, ← h10]
    exact setA_at
  have a64 : s1.a 64 t = 6 := by
    rw [hs1]
    exact hk
  have i1 : s1.i = s.i := by rw [hs1]; rfl
  have qe1 : qe s1 = qe s := by rw [hs1]; rfl
  have sa1 : ∀ k : Nat, k ≠ 66 → s1.a k = s.a k := by
    rw [hs1]
    exact fun k h => setA_nk h
  clear hs1
  have t1 : tpI s1 = t := by
    show (s1.i 63).toInt = (t : Int)
    rw [i1]
    exact ht
  obtain ⟨a1, a2, a3, a4, a5, a6, a7, a8, a9, a10⟩ := ev1.adv hN h43 e0 hq
  have tq := qj_63 a2 t1
  have fq : FRB (t + 1) s1 q := FRB.of a2
  have q17 : (q.i 17).toInt = (s.i 17).toInt + 1 := by rw [a4, t17_up (N := N) ev1, i1]
  have pq : phI q = phI s + 3 := by
    unfold phI
    rw [a6, q17, i1]
    omega
  have a5' : (s.i 11).toInt + 1 ≤ (q.i 11).toInt := by
    rw [i1] at a5
    exact a5
  rcases y_end1 hN hm1 hm2 hE a1 tq ((fq t (by omega)).1.trans a64) ((fq t (by omega)).2.2.1.trans a66) hv3 (by omega) e1 e2 e3 hV g with z | ⟨m, u, g3, xo, x1, x2, eu, yd⟩
  · exact Or.inl z
  · refine Or.inr ⟨m, u, g3, XO.pre (f1.tr (FRB.of a2)) (k1.tr (TBK.of a2 (by rw [a6]; exact Int.le_refl _) (fun j _ => by rw [a7]))) (CKX.of a3 a8 a9) (by omega) (by omega) (by omega) (by rw [a10, i1]) xo, x1, x2, ?_, ?_⟩
    · obtain ⟨k1', k2', k3', k4', k5', k6', -⟩ := adv_cd hN ev1 h43 e0 hq
      have t38 := (TBK.of a2 (by rw [a6]; exact Int.le_refl _) (fun j _ => by rw [a7]) : TBK s1 q)
      exact eu.pre k1' (by omega) (by omega) (by omega) (k2' _ _) (fun c => (CD2.qe qe1).tr (k3' c)) k4' (k6'.trans (by rw [i1])) hv.2.1.1 (t38.1.1.2.2.2.1.trans (by rw [i1])) (fun j hj => (t38.1.2.1 j (by rw [i1]; exact hj)).2.1.trans (by rw [sa1 40 (by decide)])) (by omega) (by rw [a10, i1]; exact Int.le_refl _)
    · have t38 := (TBK.of a2 (by rw [a6]; exact Int.le_refl _) (fun j _ => by rw [a7]) : TBK s1 q)
      exact yd.pre (t38.1.1.2.2.2.2.1.trans (by rw [i1])) (fun g hg => by
        have z := t38.1.2.2.1 g (by rw [i1]; exact hg)
        exact ⟨z.1.trans (by rw [sa1 44 (by decide)]), z.2.2.2.1.trans (by rw [sa1 47 (by decide)])⟩)
theorem sx_log {N : Nat} (hN : 1000 ≤ N) {E1 : CS → Option (Unit × CS)} {E2 : CS → Option (Int32 × CS)} (hm1 : ∀ σ, Kf (CS.i σ 32) (E1 σ)) (hm2 : ∀ σ, Kf (CS.i σ 32) (E2 σ)) (hE : SXR N 18 E1) : SXK N 6 202 (fun _ _ => True) (fun S => (f_X9_advance N S).bind fun p41 => (f_X1_expression N E1 E2 p41.2).bind fun p45 => (f_X0_add N p45.2 52 0).bind fun p49 => (f_X1_expect N p49.2 59).bind fun p53 => some ((), p53.2)) (fun U S s R u => R.i 36 = 1 ∧ CDG (-1) (JGO U R u) U S s R u) := by
  intro d S s U n t R hv _ h36 ht hk hs h2 h43 e g
  obtain ⟨p1, e1, e⟩ := hf_bind e
  obtain ⟨p2, e2, e⟩ := hf_bind e
  obtain ⟨p3, e3, e⟩ := hf_bind e
  obtain ⟨p4, e4, e⟩ := hf_bind e
  cases e
  have k10 := (tk_is hv (a := 202) (b := 412) (Or.inr ⟨by decide, by decide⟩) (by decide)).mp h43
  obtain ⟨m, V, hV, g2⟩ := rl_6 g ht hv.1.2.1 hk
  unfold f_X12_ending at hV
  obtain ⟨hib, hV⟩ := hf_ite hV
  rw [tp_nat ht, if_pos hs, if_neg (show ¬ s.i 10 = 420 by rw [k10]; decide)] at hV
  unfold f_X12_ending_36 f_X12_ending_63 at hV
  rw [if_neg (show ¬ (RS.setA s 66 t (s.i 10)).i 10 = 431 from fun z => absurd (k10.symm.trans z) (by decide))] at hV
  obtain ⟨q, hq, hV⟩ := hf_bind hV
  rw [ob_id] at hV
  rcases y_end0 hN hm1 hm2 hE hv ht hk k10 (Or.inl rfl) h2 (by rw [h43]; decide) e1 e2 e3 e4 hq hV g2 with z | ⟨m2, u, g3, xo, x1, x2, eu, -⟩
  · exact Or.inl z
  · refine Or.inr ⟨m2, u, g3, xo.s36 h36, ?_, xo.2.2.2.2.1.1.2.1.trans h36, ?_⟩
    rotate_left
    · rw [if_pos rfl] at eu
      refine eu.cdg rfl rfl rfl rfl rfl rfl (fun FC SF nm X c h w2 W p q hc h6 ty hW ht ng pq x1 x2 x3 x4 x5 x6 x7 => ?_) (i11_hi hv).2
      obtain ⟨w, hw, hg⟩ := ht
      exact gi_UOut (pq.hc (hc.up (Nat.le_succ _))) pq.2.1 ⟨x1, x3, h, rfl, w, by omega, by rw [x6, x7]; exact hg.1⟩
    rw [x1.mpr rfl]
    exact ⟨h36.symm.trans xo.2.2.2.2.1.1.2.1.symm, Or.inr (xo.2.2.2.2.1.1.2.1.trans h36)⟩
/-- in the arm of a choice: both know it -/
def IAR (S : CS) (s : RS) : Prop := (0 ≤ (S.i 56).toInt ↔ ∃ g : Nat, (g : Int) < (s.i 43).toInt ∧ s.a 44 g = 3) ∧ (0 ≤ (S.i 56).toInt → (S.i 56).toInt < (S.i 53).toInt ∧ (S.i 56).toInt < 400 ∧ ∃ a : Nat, S.r 51 (S.i 56).toInt.toNat = some a)
theorem y_isin {N : Nat} {s : RS} : ∀ (n : Nat) (x : Int32) (P : Int32 × RS), 0 ≤ x.toInt → f_X12_isInArms_2 N n s x = some P → P.2 = s ∧ ((P.1 = 1 ∧ ∃ g : Nat, (g : Int) < (s.i 43).toInt ∧ s.a 44 g = 3) ∨ (P.1 = 0 ∧ ∀ g : Nat, x.toInt ≤ (g : Int) → (g : Int) < (s.i 43).toInt → ¬ s.a 44 g = 3))
  | 0, _, _, _, e => by cases e
  | n + 1, x, P, h0, e => by
    have e' : b_X12_isInArms_2 N (f_X12_isInArms_2 N n) s x = some P := e
    unfold b_X12_isInArms_2 at e'
    by_cases c : s.i 43 ≤ x
    · rw [if_pos c] at e'
      cases e'
      have := le_int c
      exact ⟨rfl, Or.inr ⟨rfl, fun g g1 g2 => by omega⟩⟩
    · rw [if_neg c] at e'
      have lt := lt_int (Int32.not_le.mp c)
      obtain ⟨hib, e'⟩ := hf_ite e'
      have ck := clampI h0
      have h460 := hib.2
      by_cases c3 : s.a 44 (x.toNatClampNeg) = 3
      · rw [if_pos c3] at e'
        cases e'
        exact ⟨rfl, Or.inl ⟨rfl, x.toNatClampNeg, by omega, c3⟩⟩
      · rw [if_neg c3] at e'
        have e1 : (x + 1).toInt = x.toInt + 1 := ad1 h0 (by omega)
        obtain ⟨p1, p2⟩ := y_isin n (x + 1) P (by omega) e'
        refine ⟨p1, p2.imp id (fun ⟨q1, q2⟩ => ⟨q1, fun g g1 g2 => ?_⟩)⟩
        by_cases z : (g : Int) = x.toInt
        · have : g = x.toNatClampNeg := by omega
          rw [this]
          exact c3
        · exact q2 g (by omega) g2
theorem sx_return {N : Nat} (hN : 1000 ≤ N) {E1 : CS → Option (Unit × CS)} {E2 : CS → Option (Int32 × CS)} (hm1 : ∀ σ, Kf (CS.i σ 32) (E1 σ)) (hm2 : ∀ σ, Kf (CS.i σ 32) (E2 σ)) (hE : SXR N 18 E1) : SXK N 6 210 IAR (f_X7_giveBack N E1 E2) (fun U S s R u => CDG (-1) JNO U S s R u) := by
  intro d S s U n t R hv hA h36 ht hk hs h2 h43 e g
  have k10 := (tk_is hv (a := 210) (b := 420) (Or.inr ⟨by decide, by decide⟩) (by decide)).mp h43
  obtain ⟨m, V, hV, g2⟩ := rl_6 g ht hv.1.2.1 hk
  unfold f_X12_ending at hV
  obtain ⟨hib, hV⟩ := hf_ite hV
  rw [tp_nat ht, if_pos hs, if_pos k10] at hV
  obtain ⟨P, hP, hV⟩ := hf_bind hV
  unfold f_X12_isInArms at hP
  obtain ⟨p1, p2⟩ := y_isin N 0 P (by decide) hP
  unfold f_X7_giveBack at e
  have a44 : ∀ g : Nat, (RS.setA s 66 t (s.i 10)).a 44 g = s.a 44 g := fun _ => rfl
  by_cases c : S.i 56 < 0
  · rw [if_pos c] at e
    have c' : ¬ 0 ≤ (S.i 56).toInt := by
      have := lt_int c
      rw [z_t0] at this
      omega
    have P0 : P.1 = 0 := by
      rcases p2 with ⟨-, q⟩ | ⟨q, -⟩
      · exact absurd (hA.1.mpr q) c'
      · exact q
    rw [if_pos P0, p1] at hV
    unfold f_X12_ending_36 f_X12_ending_63 at hV
    rw [if_neg (show ¬ (RS.setA s 66 t (s.i 10)).i 10 = 431 from fun z => absurd (k10.symm.trans z) (by decide))] at hV
    obtain ⟨q, hq, hV⟩ := hf_bind hV
    rw [ob_id] at hV
    unfold f_X7_giveBack_22 at e
    obtain ⟨p1', e1, e⟩ := hf_bind e
    obtain ⟨p2', e2, e⟩ := hf_bind e
    obtain ⟨p3, e3, e⟩ := hf_bind e
    obtain ⟨p4, e4, e⟩ := hf_bind e
    cases e
    rcases y_end0 hN hm1 hm2 hE hv ht hk k10 (Or.inr (Or.inl rfl)) h2 (by rw [h43]; decide) e1 e2 e3 e4 hq hV g2 with z | ⟨m2, u, g3, xo, x1, x2, eu, -⟩
    · exact Or.inl z
    · refine Or.inr ⟨m2, u, g3, xo.s36b h36, ?_, ?_⟩
      rotate_left
      · rw [if_neg (by decide), if_pos rfl] at eu
        refine eu.cdg rfl rfl rfl rfl rfl rfl (fun FC SF nm X c h w2 W p q hc h6 ty hW ht ng pq x1 x2 x3 x4 x5 x6 x7 => ?_) (i11_hi hv).2
        exact gi_VRet (pq.hc (hc.up (Nat.le_succ _))) pq.2.1 ⟨h, w2 - 1, rfl, by omega, hc.2.2.2, ty.up (by omega), Or.inl ⟨x1, x3⟩⟩
      have n1 : ¬ u.i 75 = 1 := fun z => absurd (x1.mp z) (by decide)
      rw [x2.resolve_right n1]
      exact ⟨(ci_at _ _ _).symm, Or.inl (ci_at _ _ _)⟩
  · rw [if_neg c] at e
    obtain ⟨f, ef, e⟩ := hf_bind e
    have ff := y_fail (by decide) ef
    have c' : 0 ≤ (S.i 56).toInt := by
      have := le_int (Int32.not_lt.mp c)
      rw [z_t0] at this
      exact this
    have P1 : ¬ P.1 = 0 := fun q => by
      rcases p2 with ⟨z, -⟩ | ⟨-, z⟩
      · rw [z] at q
        exact n10 q
      · obtain ⟨g, g1, g2⟩ := hA.1.mp c'
        exact z g (by rw [z_t0]; omega) g1 g2
    rw [if_neg P1, p1] at hV
    unfold f_X12_ending_53 at hV
    rw [e_fail, ob_some, if_pos (show (RS.setA s 66 t (s.i 10)).i 15 = 0 from hv.1.2.1)] at hV
    cases hV
    refine Or.inl ⟨by rw [kF_X7_giveBack_22 N E1 E2 hm1 hm2 f.2 R e ff]; exact ff, u_flt g2 ?_⟩
    show ¬ (5 : Int32) = 0
    decide
theorem e_row {N : Nat} {S : CS} {x : Int32} {P : Option Nat × CS} (e : f_X6_row N S x = some P) : P.2 = S ∧ ((0 ≤ x.toInt ∧ x.toInt < (S.i 53).toInt ∧ x.toInt < 400 ∧ P.1 = S.r 51 x.toInt.toNat) ∨ ((x.toInt < 0 ∨ (S.i 53).toInt ≤ x.toInt ∨ 400 ≤ x.toInt) ∧ P.1 = none)) := by
  unfold f_X6_row f_X6_row_30 at e
  have e4 : (400 : Int32).toInt = 400 := by decide
  by_cases c : x < 0
  · rw [if_pos c] at e
    cases e
    have := lt_int c
    rw [z_t0] at this
    exact ⟨rfl, Or.inr ⟨Or.inl this, rfl⟩⟩
  · rw [if_neg c] at e
    have x0 := le_int (Int32.not_lt.mp c)
    rw [z_t0] at x0
    by_cases c2 : S.i 53 ≤ x
    · rw [if_pos c2] at e
      cases e
      exact ⟨rfl, Or.inr ⟨Or.inr (Or.inl (le_int c2)), rfl⟩⟩
    · rw [if_neg c2] at e
      by_cases c3 : 400 ≤ x
      · rw [if_pos c3] at e
        cases e
        have := le_int c3
        exact ⟨rfl, Or.inr ⟨Or.inr (Or.inr (by omega)), rfl⟩⟩
      · rw [if_neg c3] at e
        obtain ⟨-, e⟩ := hf_ite e
        have l2 := lt_int (Int32.not_le.mp c2)
        have l3 := lt_int (Int32.not_le.mp c3)
        have fin : P = (S.r 51 x.toNatClampNeg, S) := by
          cases hr : S.r 51 x.toNatClampNeg with
          | none =>
            rw [hr] at e
            exact (Option.some.inj e).symm
          | some a =>
            rw [hr] at e
            exact (Option.some.inj e).symm
        rw [fin]
        exact ⟨rfl, Or.inl ⟨x0, l2, by omega, rfl⟩⟩
theorem sx_yield {N : Nat} (hN : 1000 ≤ N) {E1 : CS → Option (Unit × CS)} {E2 : CS → Option (Int32 × CS)} (hm1 : ∀ σ, Kf (CS.i σ 32) (E1 σ)) (hm2 : ∀ σ, Kf (CS.i σ 32) (E2 σ)) (hE : SXR N 18 E1) : SXK N 6 221 IAR (f_X7_yieldValue N E1 E2) (fun U S s R u => YDP s u ∧ ∃ a : Nat, S.r 51 (S.i 56).toInt.toNat = some a ∧ 0 ≤ (S.i 56).toInt ∧ CDG (-1) (fun FC SF nm X c h w2 => GF2 FC SF U (GU FC SF U nm X) c h (S.o a 9 * 32 + S.o a 2) (u.a 23 (pcR u - 1)) (w2 - 1)) U S s R u) := by
  intro d S s U n t R hv hA h36 ht hk hs h2 h43 e g
  have k10 := (tk_is hv (a := 221) (b := 431) (Or.inr ⟨by decide, by decide⟩) (by decide)).mp h43
  obtain ⟨m, V, hV, g2⟩ := rl_6 g ht hv.1.2.1 hk
  unfold f_X12_ending at hV
  obtain ⟨hib, hV⟩ := hf_ite hV
  rw [tp_nat ht, if_pos hs, if_neg (show ¬ s.i 10 = 420 by rw [k10]; decide)] at hV
  unfold f_X12_ending_36 at hV
  rw [if_pos (show (RS.setA s 66 t (s.i 10)).i 10 = 431 from k10)] at hV
  obtain ⟨P, hP, hV⟩ := hf_bind hV
  unfold f_X12_isInArms at hP
  obtain ⟨p1, p2⟩ := y_isin N 0 P (by decide) hP
  unfold f_X7_yieldValue at e
  obtain ⟨r, er, e⟩ := hf_bind e
  obtain ⟨r1, r2⟩ := e_row er
  rcases r2 with ⟨y1, y2, y3, y4⟩ | ⟨y1, y4⟩
  · obtain ⟨-, -, a, ha⟩ := hA.2 y1
    rw [y4, ha] at e
    have P1 : ¬ P.1 = 0 := fun q => by
      rcases p2 with ⟨z, -⟩ | ⟨-, z⟩
      · rw [z] at q
        exact n10 q
      · obtain ⟨g, g1, g2⟩ := hA.1.mp y1
        exact z g (by rw [z_t0]; omega) g1 g2
    rw [if_neg P1, p1] at hV
    unfold f_X12_ending_63 at hV
    obtain ⟨q, hq, hV⟩ := hf_bind hV
    rw [ob_id] at hV
    have e' : ((f_X9_advance N r.2).bind fun p11 => (f_X1_expression N E1 E2 p11.2).bind fun p15 => if oK p15.2 a 0 then (f_X0_add N p15.2 61 (((CS.o p15.2 a 9) * 32) + (CS.o p15.2 a 2))).bind fun p20 => (f_X1_expect N p20.2 59).bind fun p24 => some ((), CS.setI p24.2 36 0) else none) = some R := e
    rw [r1] at e'
    obtain ⟨p1', e1, e'⟩ := hf_bind e'
    obtain ⟨p2', e2, e'⟩ := hf_bind e'
    obtain ⟨-, e'⟩ := hf_ite e'
    obtain ⟨p3, e3, e'⟩ := hf_bind e'
    obtain ⟨p4, e4, e'⟩ := hf_bind e'
    cases e'
    rcases y_end0 hN hm1 hm2 hE hv ht hk k10 (Or.inr (Or.inr rfl)) h2 (by rw [h43]; decide) e1 e2 e3 e4 hq hV g2 with z | ⟨m2, u, g3, xo, x1, x2, eu, yd⟩
    · exact Or.inl z
    · have ckr := xo.2.2.2.2.1
      refine Or.inr ⟨m2, u, g3, xo.s36b h36, ?_, yd, a, ha, y1, ?_⟩
      rotate_left
      · rw [if_neg (by decide), if_neg (by decide)] at eu
        refine eu.cdg rfl rfl rfl rfl rfl rfl (fun FC SF nm X c h w2 W p q hc h6 ty hW ht ng pq x1 x2 x3 x4 x5 x6 x7 => ?_) (i11_hi hv).2
        have k1 := (pj2_eq (kd_X0_add N p2'.2 61 _ p3 e3)).1
        have k2 := kc_X1_expect N p3.2 59 p4 e4
        obtain ⟨-, -, -, -, -, -, -, -, -, -, -, -, -, -, -, -, -, -, -, -, -, -, -, -, o1, -⟩ := pj_eq k1
        obtain ⟨-, -, -, -, -, -, -, -, -, -, -, -, -, -, -, -, -, -, -, -, -, -, -, -, o2, -⟩ := pj_eq k2
        have oe : p2'.2.o a = S.o a := by
          rw [← o1, ← o2]
          exact (ckr.2.2.1 (S.i 56).toInt.toNat a (by omega) ha).1
        rw [oe] at x2
        have eq1 : pcR u - 1 = q := by omega
        rw [eq1] at ht
        exact gi_VRet (pq.hc (hc.up (Nat.le_succ _))) pq.2.1 ⟨h, w2 - 1, rfl, by omega, hc.2.2.2, ty.up (by omega), Or.inr ⟨x1, x3, by rw [x2, x5]; exact ht⟩⟩
      have n1 : ¬ u.i 75 = 1 := fun z => absurd (x1.mp z) (by decide)
      rw [x2.resolve_right n1]
      exact ⟨(ci_at _ _ _).symm, Or.inl (ci_at _ _ _)⟩
  · rw [y4] at e
    have e' : ((f_X1_fail N r.2 5 (r.2.i 44)).bind fun p7 => some ((), p7.2)) = some R := e
    obtain ⟨f, ef, e'⟩ := hf_bind e'
    cases e'
    have ff := y_fail (by decide) ef
    have P0 : P.1 = 0 := by
      rcases p2 with ⟨-, q⟩ | ⟨q, -⟩
      · have := hA.2 (hA.1.mpr q)
        have := hA.1.mpr q
        omega
      · exact q
    rw [if_pos P0, p1] at hV
    unfold f_X12_ending_53 at hV
    rw [e_fail, ob_some, if_pos (show (RS.setA s 66 t (s.i 10)).i 15 = 0 from hv.1.2.1)] at hV
    cases hV
    refine Or.inl ⟨ff, u_flt g2 ?_⟩
    show ¬ (5 : Int32) = 0
    decide
end
section
/-! both readers: throw -/
/-- what the kinds are: as many as when it was read -/
def JK3 (U s : RS) : JT9 := fun _ _ _ _ _ _ _ => U.i 3 = s.i 3 ∧ 4 ≤ (U.i 3).toInt
theorem CDG.pre {T : JT9} {U : RS} {S P R : CS} {s q u : RS} {a b k k' : Int} (h : CDG k T U P q R u) (a1 : CD1 a b S P) (ha : a ≤ 0) (ha' : a + k ≤ k') (hb : b ≤ 0) (t : CT7 0 (S.i 21).toInt S P) (y : ∀ c : Int, CD2 c s q) (pC : P.i 20 = S.i 20) (pR : q.i 20 = s.i 20) (n50 : S.i 50 = s.i 38) (e38 : q.i 38 = s.i 38) (a40 : ∀ j : Nat, (j : Int) < (s.i 38).toInt → q.a 40 j = s.a 40 j) (l11 : (s.i 11).toInt ≤ (q.i 11).toInt) (l19 : (s.i 19).toInt ≤ (q.i 19).toInt) : CDG k' T U S s R u := by
  intro cr
  obtain ⟨b1, b2, b3, Ψ, sat, h⟩ := h (cr.of a1 ha hb)
  have pC' : pcC P = pcC S := by unfold pcC; rw [pC]
  have pR' : pcR q = pcR s := by unfold pcR; rw [pR]
  refine ⟨(a1.tr b1).wk (by omega) (by omega), t.tr (b2.wk (Int.le_refl _) a1.2.2.1), (y _).tr (b3.wk (by rw [pR]; exact Int.le_refl _)), Ψ, sat.wd (MNO.of a1 (y 0)) (MNO.of (CD1.rf R) (CD2.rf 0 u)), fun FC SF nm X c h' w W g0 ps fc fr ng hc hh ty hW last => ?_⟩
  have z := h FC SF nm X c h' w W g0 ps (fc.sub a1 (CD1.rf R) (CT7.rf _ _ R)) (fr.sub (y 0) (CD2.rf 0 u) (fun _ _ _ => ⟨rfl, rfl, rfl⟩)) (ng.mv n50 a1 (y 0) e38 a40 l19) hc (by omega) ty hW last
  rw [pC', pR'] at z
  exact z
theorem CDG.post {T T' : JT9} {U : RS} {S R R' : CS} {s u u' : RS} {n n' : Int} (h : CDG n T U S s R u) {a b : Int} (k : CD1 a b R R') (ha : n + a ≤ n') (hb : b ≤ 0) (k7 : ∀ a b : Int, CT7 a b R R') (y : ∀ c : Int, CD2 c u u') (pC : R'.i 20 = R.i 20) (tt : ∀ (FC : Nat → Prop) (SF : CS) (nm : Nat → Nat → Prop) (X : Als) (c : List Ent) (h w2 : Nat), T' FC SF nm X c h w2 → T FC SF nm X c h w2) : CDG n' T' U S s R' u' := by
  intro cr
  obtain ⟨b1, b2, b3, Ψ, sat, h⟩ := h cr
  have pC' : pcC R' = pcC R := by unfold pcC; rw [pC]
  refine ⟨(b1.tr k).wk (by omega) (by omega), b2.tr (k7 _ _), b3.tr (y _), Ψ, sat.wd (MNO.of (CD1.rf S) (CD2.rf 0 s)) (MNO.of k (y 0)), fun FC SF nm X c h' w W g0 ps fc fr ng hc hh ty hW last => ?_⟩
  have z := h FC SF nm X c h' w W g0 ps (fc.sub (CD1.rf S) k (k7 _ _)) (fr.sub (CD2.rf 0 s) (y 0) ((y (u.i 20).toInt).c3 (Int.le_refl _))) ng hc hh ty hW (tt _ _ _ _ _ _ _ last)
  rw [pC']
  exact z
/-- the same, no names and tries between -/
def CDO (a : Int) (T : JT9) (U : RS) (S : CS) (s : RS) (R : CS) (u : RS) : Prop := CRB S → CD1 a (-1) S R ∧ CT7 0 (S.i 21).toInt S R ∧ CD2 (s.i 20).toInt s u ∧ ∀ (FC : Nat → Prop) (SF : CS) (nm : Nat → Nat → Prop) (X : Als) (c : List Ent) (h w2 W g0 : Nat), FGC S R SF → FGR s u U → NM4 nm c S s → HC0 nm h c → ((2 * h + 0 + msr c : Nat) : Int) ≤ (s.i 11).toInt → TYC SF U (GU FC SF U nm X) W c → W + 1 ≤ w2 → T FC SF nm X c h w2 → GU FC SF U nm X (pcC S) (pcR s) h (w2 + (pcC R - pcC S)) g0 c
theorem CDO.g {a : Int} {T : JT9} {U : RS} {S R : CS} {s u : RS} (h : CDO a T U S s R u) : CDG a T U S s R u := fun cr => by
  obtain ⟨h1, h2, h3, h4⟩ := h cr
  exact ⟨h1, h2, h3, GPS.tt, SAT.tt _ _ _ _ h3.1.2.2.2.2.1, fun FC SF nm X c h w2 W g0 _ fc fr ng => h4 FC SF nm X c h w2 W g0 fc fr ng.o⟩
/-- one instruction in both -/
theorem cdg_one {N : Nat} {d : Int32} {S : CS} {s U : RS} {o x op v : Int32} {p2 : Unit × CS} {w : Int32 × RS} {R' : CS} {u' : RS} {T : JT9} {a b : Int} (hv : ENV d S s) (h3 : 1 ≤ phI s) (k : CD1 a b p2.2 R') {k' : Int} (la : a + 1 ≤ k') (lb : b ≤ -1) (k7 : ∀ a b : Int, CT7 a b p2.2 R') (y : ∀ c : Int, CD2 c w.2 u') (pC : R'.i 20 = p2.2.i 20) (pW : u'.i 20 = w.2.i 20) (ha : f_X0_add N S o x = some p2) (hw : f_X12_emit N s op v = some w) (step : ∀ (FC : Nat → Prop) (SF : CS) (nm : Nat → Nat → Prop) (X : Als) (c : List Ent) (h w2 W g0 : Nat), PQX SF U (pcC S) (pcR s) → HC0 nm h c → h < 600 → NM4 nm c S s → TYC SF U (GU FC SF U nm X) W c → W + 1 ≤ w2 → SF.a 15 (pcC S) = o → SF.a 16 (pcC S) = x → U.a 21 (pcR s) = op → U.a 22 (pcR s) = v → pcC R' = pcC S + 1 → pcR u' = pcR s + 1 → T FC SF nm X c h w2 → GU FC SF U nm X (pcC S) (pcR s) h (w2 + 1) g0 c) : CDO k' T U S s R' u' := by
  intro cr
  have q44 := hv.p44
  have q44' : (S.i 44).toInt = (s.i 11).toInt := by rw [q44.1]
  have p20 := hv.p20
  have h6 := (i11_hi hv).2
  obtain ⟨d1, d2, ⟨d3, d3'⟩, d4, d5, d6⟩ := cd_add ha cr.1.1 (by have := cr.1.2; omega)
  obtain ⟨m1, m2, m3, m4, m5, m6⟩ := cd_emit hw p20.1 (by omega)
  have pS : ((pcC S : Nat) : Int) = (S.i 20).toInt := Int.toNat_of_nonneg cr.1.1
  have ps : ((pcR s : Nat) : Int) = (s.i 20).toInt := Int.toNat_of_nonneg p20.1
  have pR : pcC R' = pcC S + 1 := by
    unfold pcC
    rw [pC, d2]
    have := cr.1.1
    omega
  have pu : pcR u' = pcR s + 1 := by
    unfold pcR
    rw [pW, m3]
    have := p20.1
    omega
  refine ⟨(d1.tr k).wk (by omega) (by omega), (CT7.eq d4).tr (k7 _ _), m1.tr (y _), ?_⟩
  intro FC SF nm X c h w2 W g0 fc fr ng hc hh ty hW tt
  have f15 := fc.2.1 (pcC S) (by omega) (by rw [pC]; omega)
  have k15 := k.2.1 (pcC S) (by omega)
  have u21 := fr.2.1 (pcR s) (by omega) (by rw [pW]; omega)
  have x21 := (y (w.2.i 20).toInt).2.1 (pcR s) (by omega)
  have fr1 : (u'.i 20).toInt ≤ (U.i 20).toInt := fr.1.2.1
  rw [pW] at fr1
  rw [pR, show w2 + (pcC S + 1 - pcC S) = w2 + 1 by omega]
  exact step FC SF nm X c h w2 W g0 ⟨by have := cr.1.2; omega, by omega, fr.1.2.2⟩ hc (by omega) ng ty hW (by rw [f15.1, k15.1]; exact d3) (by rw [f15.2, k15.2]; exact d3') (by rw [u21.1, x21.1]; exact m4) (by rw [u21.2.1, x21.2.1]; exact m5) pR pu tt
/-- what a statement's last steps leave, all frames of u kept -/
def TLO (d : Int32) (t : Nat) (v : Int32) (S : CS) (u : RS) (R : CS) (V : RS) : Prop := ENV d R V ∧ tpI V = (t : Int) - 1 ∧ (∀ r : Nat, FRB r u V) ∧ TBK u V ∧ CKX S R ∧ V.i 75 = v ∧ (u.i 11).toInt + 1 ≤ (V.i 11).toInt ∧ phI u + 2 ≤ phI V ∧ (u.i 17).toInt + 1 ≤ (V.i 17).toInt ∧ V.i 19 = u.i 19
/-- an instruction, a sign, over -/
theorem y_tail {N : Nat} (hN : 1000 ≤ N) {d : Int32} {S : CS} {u V : RS} {t : Nat} {o x o' x' v : Int32} {y b : Int32 × RS} {w r : Unit × CS} (hv : ENV d S u) (ht : tpI u = t) (t9 : t < 1000) (h1 : 1 ≤ phI u) (e2 : f_X0_add N S o' x' = some w) (e3 : f_X1_expect N w.2 59 = some r) (hy : f_X12_emit N u o x = some y) (hb : f_X12_need N y.2 59 = some b) (ho : f_X12_over N b.2 v = some V) : (¬ r.2.i 32 = 0 ∧ ¬ V.i 15 = 0) ∨ TLO d t v S u r.2 V ∧ (∀ (U : RS) (S0 : CS) (q : RS), ENV d S0 q → CDE 0 U S0 q S u → TBK q u → (u.i 19 = q.i 19 → EUN 0 o' x' o x U S0 q r.2 V)) ∧ (V.i 42 = u.i 42 ∧ (V.i 20).toInt = (u.i 20).toInt + 1) ∧ (∀ (U : RS) (T : JT9), (∀ (FC : Nat → Prop) (SF : CS) (nm : Nat → Nat → Prop) (X : Als) (c : List Ent) (h w2 W g0 : Nat), PQX SF U (pcC S) (pcR u) → HC0 nm h c → h < 600 → NM4 nm c S u → TYC SF U (GU FC SF U nm X) W c → W + 1 ≤ w2 → SF.a 15 (pcC S) = o' → SF.a 16 (pcC S) = x' → U.a 21 (pcR u) = o → U.a 22 (pcR u) = x → pcC r.2 = pcC S + 1 → pcR V = pcR u + 1 → T FC SF nm X c h w2 → GU FC SF U nm X (pcC S) (pcR u) h (w2 + 1) g0 c) → CDO 0 T U S u r.2 V) := by
  obtain ⟨n1, n2, n3, n4, n5, n6⟩ := em_env hv h1 hy
  obtain ⟨nq, -, y11, -, -, -, -, y17, y19, -⟩ := qj2_eq n3
  have kw := kd_X0_add N S o' x' w e2
  have ev := n1.kd kw
  have kp := pj2_eq kw
  have ty := qj_63 nq ht
  rcases y_need hN ev (c := 59) (d := 59) (Or.inl ⟨by decide, by decide⟩) (by decide) (by decide) (by decide) e3 hb with ⟨o1, o2, o3⟩ | ⟨o1, o2, o3, o4, o5, o6, o7, o8, o9, o10, o11, o12⟩
  · exact Or.inl ⟨o2, krf_f_X12_over N b.2 v V ho o3⟩
  · obtain ⟨v1, v2, v3, v4, v5, v6, v7, v8, v9, v10⟩ := y_over o3 (qj_63 o4 ty) t9 ho
    have t17 : (b.2.i 17).toInt = (u.i 17).toInt + 1 := by rw [o6, t17_up (N := N) ev, y17]
    have pb : phI b.2 = phI y.2 + 3 := by
      unfold phI
      rw [o8, o6, t17_up (N := N) ev]
      omega
    have eun : ∀ (U : RS) (S0 : CS) (q : RS), ENV d S0 q → CDE 0 U S0 q S u → TBK q u → u.i 19 = q.i 19 → EUN 0 o' x' o x U S0 q r.2 V := fun U S0 q hq xc tk h19 => eun_of (p := ((), S)) hq xc hv tk h19 e2 hy ⟨rfl, rfl, rfl, fun _ _ => rfl⟩ (fun _ _ => rfl) ev e3 hb o3 o5 o7 (kre_f_X12_over N b.2 v V ho)
    have one : ∀ (U : RS) (T : JT9), (∀ (FC : Nat → Prop) (SF : CS) (nm : Nat → Nat → Prop) (X : Als) (c : List Ent) (h w2 W g0 : Nat), PQX SF U (pcC S) (pcR u) → HC0 nm h c → h < 600 → NM4 nm c S u → TYC SF U (GU FC SF U nm X) W c → W + 1 ≤ w2 → SF.a 15 (pcC S) = o' → SF.a 16 (pcC S) = x' → U.a 21 (pcR u) = o → U.a 22 (pcR u) = x → pcC r.2 = pcC S + 1 → pcR V = pcR u + 1 → T FC SF nm X c h w2 → GU FC SF U nm X (pcC S) (pcR u) h (w2 + 1) g0 c) → CDO 0 T U S u r.2 V := fun U T step => by
      obtain ⟨j1, j2, j3, j4, -, j6⟩ := tok_cd ev o3 o5 (ke_X1_expect N w.2 59 r e3) (kre_f_X12_need N y.2 59 b hb) o7
      exact cdg_one hv h1 j1 (by omega) (by omega) j2 (fun c => (j3 c).tr (CD2.qe (kre_f_X12_over N b.2 v V ho))) j4 ((qe_eq (kre_f_X12_over N b.2 v V ho)).1.1.trans j6) e2 hy step
    have qVb := qe_eq (kre_f_X12_over N b.2 v V ho)
    have qby := qe_eq (kre_f_X12_need N y.2 59 b hb)
    have em42 : y.2.i 42 = u.i 42 := by
      unfold f_X12_emit f_X12_emit_21 at hy
      by_cases c : (3000 : Int32) ≤ u.i 20
      · rw [if_pos c] at hy
        cases hy
        rfl
      · rw [if_neg c] at hy
        obtain ⟨-, hy⟩ := hf_ite hy
        cases hy
        rfl
    have v42 : V.i 42 = u.i 42 ∧ (V.i 20).toInt = (u.i 20).toInt + 1 := ⟨(qVb.1.2.2.2.2.1.trans qby.1.2.2.2.2.1).trans em42, by rw [qVb.1.1, qby.1.1, n6]⟩
    rw [y11] at o7
    refine Or.inr ⟨?_, eun, v42, one⟩
    exact ⟨v1, v2, fun r => ((FRB.of nq).tr (FRB.of o4)).tr (v3 r), (n2.tr (TBK.of o4 (by rw [o8]; exact Int.le_refl _) (fun j _ => by rw [o9]))).tr v4, (CKX.of kp.1 kp.2.2.2.2.1 kp.2.2.2.2.2.2.2.2.2.2.2).tr (CKX.of o5 o10 o11), v5, by rw [v8]; exact o7, by omega, by rw [v9]; omega, by rw [v10, o12, y19]⟩
theorem EXO.tl {d : Int32} {t : Nat} {st v : Int32} {S P R : CS} {q u V : RS} (x : EXO d t st S q P u) (h : TLO d t v P u R V) : XO d t S q R V ∧ V.i 75 = v := by
  obtain ⟨w1, w2, w3, w4, w5, w6, w7, w8, w9, w10⟩ := x
  obtain ⟨h1, h2, h3, h4, h5, h6, h7, h8, h9, h10⟩ := h
  exact ⟨⟨h1, h2, w4.tr (h3 t), w5.tr h4, w6.tr h5, by omega, by omega, by omega, h10.trans w10⟩, h6⟩
/-- one token on, seen from s -/
theorem y_nx {N : Nat} (hN : 1000 ≤ N) {d : Int32} {S : CS} {s q : RS} {t : Nat} {p : Unit × CS} (hv : ENV d S s) (ht : tpI s = t) (h43 : ¬ S.i 43 = 0) (e : f_X9_advance N S = some p) (hq : f_X12_next N s = some q) : ENV d p.2 q ∧ tpI q = t ∧ (∀ r : Nat, FRB r s q) ∧ TBK s q ∧ CKX S p.2 ∧ (s.i 11).toInt + 1 ≤ (q.i 11).toInt ∧ phI q = phI s + 3 ∧ (q.i 17).toInt = (s.i 17).toInt + 1 ∧ q.i 19 = s.i 19 := by
  obtain ⟨a1, a2, a3, a4, a5, a6, a7, a8, a9, a10⟩ := hv.adv hN h43 e hq
  have q17 : (q.i 17).toInt = (s.i 17).toInt + 1 := by rw [a4]; exact t17_up (N := N) hv
  have pq : phI q = phI s + 3 := by
    unfold phI
    rw [a6, q17]
    omega
  exact ⟨a1, qj_63 a2 ht, fun r => FRB.of a2, TBK.of a2 (by rw [a6]; exact Int.le_refl _) (fun j _ => by rw [a7]), CKX.of a3 a8 a9, a5, pq, q17, a10⟩
set_option maxHeartbeats 4000000 in
theorem sx_throw {N : Nat} (hN : 1000 ≤ N) {E1 : CS → Option (Unit × CS)} {E2 : CS → Option (Int32 × CS)} (hm1 : ∀ σ, Kf (CS.i σ 32) (E1 σ)) (hm2 : ∀ σ, Kf (CS.i σ 32) (E2 σ)) (hE : SXR N 18 E1) : SXK N 7 211 (fun _ _ => True) (f_X7_throwOne N E1 E2) (fun U S s R u => CDG (-1) (JK3 U s) U S s R u) := by
  intro d S s U n t R hv _ h36 ht hk hs h2 h43 e g
  obtain ⟨m, V, hV, g2⟩ := rl_7 g ht hv.1.2.1 hk
  unfold f_X12_throwing at hV
  obtain ⟨hib, hV⟩ := hf_ite hV
  have t9 : t < 1000 := by
    have h2 : (s.i 63).toInt = (t : Int) := ht
    have := hib.2
    omega
  rw [tp_nat ht, if_neg (show ¬ s.a 65 t = 1 by rw [hs]; decide)] at hV
  obtain ⟨q, hq, hV⟩ := hf_bind hV
  unfold f_X7_throwOne at e
  obtain ⟨p1, e1, e⟩ := hf_bind e
  obtain ⟨a1, tq, fq, kq, cq, l11, pq, q17, q19⟩ := y_nx hN hv ht (by rw [h43]; decide) e1 hq
  have i5 := tk_is a1 (a := 5) (b := 5) (Or.inl ⟨by decide, by decide⟩) (by decide)
  have i2 := tk_is a1 (a := 2) (b := 2) (Or.inl ⟨by decide, by decide⟩) (by decide)
  have q15 := a1.1.2.1
  have q64 : q.a 64 t = 7 := (fq (t + 1) t (by omega)).1.trans hk
  have flt : ∀ {X : CS}, ¬ X.i 32 = 0 → f_X7_throwOne_152 N E1 E2 X = some R → ¬ R.2.i 32 = 0 := fun z e => by rw [kF_X7_throwOne_152 N E1 E2 hm1 hm2 _ R e z]; exact z
  by_cases c5 : p1.2.i 43 = 5
  · have k5 := i5.mp c5
    rw [e_fnd1 c5, ob_some, if_neg n10] at e
    rw [if_pos k5, y_can1 q15 (by rw [k5]; decide), ob_some, if_neg n10] at hV
    unfold f_X12_throwing_69 at hV
    rw [if_pos k5] at hV
    obtain ⟨k, ek, e⟩ := hf_bind e
    have v45 : p1.2.i 45 = q.i 14 := a1.1.2.2.2.1.2.2.2.2.2 (Or.inr (Or.inr (Or.inr c5)))
    have b45 := a1.lb.1.2.2 c5
    have k13 : p1.2.i 13 = q.i 3 := a1.2.2.2.2.2.1.1
    have hkk : k.2 = p1.2 ∧ (k.1 = 0 ↔ ¬ q.i 14 < q.i 3) := by
      have ek' : f_X10_isKind N p1.2 (p1.2.i 45) = some k := ek
      unfold f_X10_isKind f_X10_isKind_16 at ek'
      rw [if_neg (fun z => by have := lt_int z; rw [z_t0] at this; omega)] at ek'
      by_cases c : p1.2.i 13 ≤ p1.2.i 45
      · rw [if_pos c] at ek'
        cases ek'
        refine ⟨rfl, fun _ z => ?_, fun _ => rfl⟩
        have z1 := lt_int z
        have z2 := le_int c
        rw [k13, v45] at z2
        omega
      · rw [if_neg c] at ek'
        cases ek'
        refine ⟨rfl, fun z => absurd (show (1 : Int32) = 0 from z) (by decide), fun z => ?_⟩
        exfalso
        refine z ?_
        rw [Int32.lt_iff_toInt_lt]
        have z2 := lt_int (Int32.not_le.mp c)
        rw [k13, v45] at z2
        exact z2
    by_cases c0 : k.1 = 0
    · rw [if_pos c0] at e
      rw [if_neg (hkk.2.mp c0), e_fail, ob_some, if_pos q15] at hV
      cases hV
      obtain ⟨f, ef, e⟩ := hf_bind e
      have ff := y_fail (by decide) ef
      refine Or.inl ⟨by rw [kF_X7_throwOne_46 N E1 E2 hm1 hm2 f.2 _ R e ff]; exact ff, u_flt g2 ?_⟩
      show ¬ (3 : Int32) = 0
      decide
    · rw [if_neg c0, hkk.1] at e
      have lt : q.i 14 < q.i 3 := by
        by_cases z : q.i 14 < q.i 3
        · exact z
        · exact absurd (hkk.2.mpr z) c0
      rw [if_pos lt] at hV
      obtain ⟨-, hV⟩ := hf_ite hV
      rw [tp_nat ht] at hV
      obtain ⟨q2, hq2, hV⟩ := hf_bind hV
      rw [ob_id] at hV
      unfold f_X7_throwOne_46 f_X7_throwOne_152 at e
      obtain ⟨p2, e2, e⟩ := hf_bind e
      obtain ⟨p3, e3, e⟩ := hf_bind e
      obtain ⟨p4, e4, e⟩ := hf_bind e
      obtain ⟨p5, e5, e⟩ := hf_bind e
      cases e
      have ev1 : ENV d p1.2 (RS.setA q 66 t (q.i 14)) := setA_env (Or.inr (by omega)) a1
      obtain ⟨b1, tb, fb, kb, cb, m11, pb, b17, b19⟩ := y_nx (s := RS.setA q 66 t (q.i 14)) hN ev1 tq (by rw [c5]; decide) e2 hq2
      have m11' : (q.i 11).toInt + 1 ≤ (q2.i 11).toInt := m11
      have pb' : phI q2 = phI q + 3 := pb
      have b17' : (q2.i 17).toInt = (q.i 17).toInt + 1 := b17
      have b19' : q2.i 19 = q.i 19 := b19
      have c64 : q2.a 64 t = 7 := (fb (t + 1) t (by omega)).1.trans q64
      rcases y_expr hN hm1 hm2 hE b1 tb (by omega) e3 hV g2 with ⟨x1, x2⟩ | ⟨m2, u, g3, xo, xc⟩
      · refine Or.inl ⟨?_, x2⟩
        have z : ¬ p4.2.i 32 = 0 := by rw [fst_add e4]; exact x1
        show ¬ (CS.setI p5.2 36 0).i 32 = 0
        rw [ci_ne _ _ _ (by decide), kF_X1_expect N p4.2 59 p5 e5 z]
        exact z
      · obtain ⟨w1, w2, ⟨f0, f1, f2, -⟩, w4, w5, w6, w7, w8, w9, w10⟩ := id xo
        obtain ⟨m3, V3, hV3, g4⟩ := rl_7 g3 w2 w1.1.2.1 (f0.trans c64)
        unfold f_X12_throwing at hV3
        obtain ⟨-, hV3⟩ := hf_ite hV3
        rw [tp_nat w2, if_pos f1] at hV3
        obtain ⟨y, hy, hV3⟩ := hf_bind hV3
        obtain ⟨b, hb, hV3⟩ := hf_bind hV3
        rw [ob_id] at hV3
        rcases y_tail hN w1 w2 t9 (by omega) e4 e5 hy hb hV3 with ⟨z1, z2⟩ | ⟨tl, eun, -, -⟩
        · refine Or.inl ⟨?_, u_flt g4 z2⟩
          show ¬ (CS.setI p5.2 36 0).i 32 = 0
          rw [ci_ne _ _ _ (by decide)]
          exact z1
        · obtain ⟨x3, x4⟩ := xo.tl tl
          have pre1 : FRB t s (RS.setA q 66 t (q.i 14)) := (fq t).tr (setA_frb (Or.inr ⟨by omega, by omega, Nat.le_refl _⟩))
          have pre2 : TBK s (RS.setA q 66 t (q.i 14)) := kq.tr ⟨setA_tb0 (Or.inr (by omega)), Int.le_refl _, fun _ _ => rfl⟩
          have x5 : XO d t S s p5.2 V3 := XO.pre (pre1.tr (fb t)) (pre2.tr kb) (cq.tr cb) (by omega) (by omega) (by omega) (b19'.trans q19) x3
          refine Or.inr ⟨m3, V3, g4, x5.s36b h36, ?_, ?_⟩
          rotate_left
          · have eu := eun U p2.2 q2 b1 xc w5 w10
            obtain ⟨k1, k2, k3, k4, -, k6, -⟩ := adv_cd hN hv (by rw [h43]; decide) e1 hq
            obtain ⟨l1, l2, l3, l4, -, l6, -⟩ := adv_cd (s := RS.setA q 66 t (q.i 14)) hN ev1 (by rw [c5]; decide) e2 hq2
            have f66 : u.a 66 t = q.i 14 := f2.trans ((fb (t + 1) t (by omega)).2.2.1.trans setA_at)
            have q3 : q.i 3 = s.i 3 := kq.1.1.2.1
            have cd : CDG 0 (JK3 U s) U p2.2 q2 (CS.setI p5.2 36 0) V3 := eu.cdg rfl rfl rfl rfl rfl rfl (fun FC SF nm X c h w2 W p q' hc h6 ty hW tt ng pq x1 x2 x3 x4 x5 x6 x7 => by
              refine gi_URai (pq.hc (hc.up (Nat.le_succ _))) pq.2.1 ⟨h, w2 - 1, rfl, by omega, hc.2.2.2, ty.up (by omega), x1, x3, ?_, ?_, ?_⟩
              · rw [x2, x4, f66]
                exact v45
              · rw [x2]
                exact b45.1
              · rw [x2, tt.1, ← q3]
                have := lt_int lt
                rw [← v45] at this
                exact this) (i11_hi b1).2
            have n50 := hv.2.1.1
            refine cd.pre (k1.tr l1) (by omega) (by omega) (by omega) ((k2 _ _).tr (l2 _ _)) (fun c => ((k3 c).tr (CD2.qe rfl)).tr (l3 c)) (l4.trans k4) (l6.trans k6) n50 ?_ ?_ (by omega) (by rw [b19', q19]; exact Int.le_refl _)
            · exact kb.1.1.2.2.2.1.trans kq.1.1.2.2.2.1
            · intro j hj
              have z1 := (kq.1.2.1 j hj).2.1
              have z2 := (kb.1.2.1 j (by show (j : Int) < (q.i 38).toInt; rw [kq.1.1.2.2.2.1]; exact hj)).2.1
              exact z2.trans z1
          rw [x4]
          exact ⟨(ci_at _ _ _).symm, Or.inl (ci_at _ _ _)⟩
  · rw [e_fnd0 c5, ob_some, if_pos rfl] at e
    have k5 : ¬ q.i 10 = 5 := fun z => c5 (i5.mpr z)
    rw [if_neg k5] at hV
    by_cases c2 : p1.2.i 43 = 2
    · have k2 := i2.mp c2
      rw [e_fnd1 c2, ob_some, if_neg n10] at e
      rw [if_pos k2, y_can1 q15 (by rw [k2]; decide), ob_some, if_neg n10] at hV
      unfold f_X12_throwing_69 at hV
      rw [if_neg k5] at hV
      obtain ⟨F, eF, e⟩ := hf_bind e
      obtain ⟨Q, hQ, hV⟩ := hf_bind hV
      have ll : p1.2.l = q.l := a1.1.2.2.2.1.2.2.2.2.1 c2
      have eF' : f_X4_find N p1.2 q.l = some F := by rw [← ll]; exact eF
      obtain ⟨z1, z2, z3, z4, z5⟩ := y_find a1 eF' hQ
      have f108 : ∀ X : CS, f_X7_throwOne_108 N E1 E2 X = some R → ¬ R.2.i 32 = 0 := fun X e => by
        unfold f_X7_throwOne_108 at e
        obtain ⟨f, ef, e⟩ := hf_bind e
        cases e
        exact y_fail (by decide) ef
      have r142 : f_X12_throwing_142 N q = some V → ¬ U.i 15 = 0 := fun h => by
        unfold f_X12_throwing_142 at h
        rw [e_fail, ob_some, if_pos q15] at h
        cases h
        refine u_flt g2 ?_
        show ¬ (3 : Int32) = 0
        decide
      by_cases cF : F.1 < 0
      · rw [if_pos cF] at e
        rw [if_pos (show Q.1 < 0 by rw [← z3]; exact cF), z2] at hV
        exact Or.inl ⟨f108 _ e, r142 hV⟩
      · rw [if_neg cF, z1] at e
        rw [if_neg (show ¬ Q.1 < 0 by rw [← z3]; exact cF), z2] at hV
        obtain ⟨hib2, hV⟩ := hf_ite hV
        obtain ⟨C, eC, e⟩ := hf_bind e
        have em : (-1 : Int32).toInt = -1 := by decide
        obtain ⟨k, k1, k3', -, -⟩ := z4.resolve_left (fun z => by
          refine cF ?_
          rw [z, Int32.lt_iff_toInt_lt, z_t0, em]
          omega)
        have hk := nms_hi a1
        have Qk : Q.1.toNatClampNeg = k := by
          show Q.1.toInt.toNat = k
          rw [← z3, k1]
          exact Int.toNat_natCast _
        have cau := (a1.2.1.2.2.1 k k3').2
        have gat : gAt (p1.2.a 49) 128 F.1 = p1.2.a 49 k := by
          unfold gAt
          rw [if_pos (show ib F.1 128 from ⟨by omega, by omega⟩)]
          show p1.2.a 49 F.1.toInt.toNat = p1.2.a 49 k
          rw [k1, Int.toNat_natCast]
        unfold f_X4_isCaught at eC
        rw [gat] at eC
        rw [Qk] at hV
        by_cases cc : q.a 41 k = 0
        · rw [if_pos cc] at hV
          have lt : p1.2.a 49 k < 0 := by
            rw [Int32.lt_iff_toInt_lt, z_t0]
            by_cases z : 0 ≤ (p1.2.a 49 k).toInt
            · exact absurd cc (cau.mp z)
            · omega
          rw [if_pos lt] at eC
          cases eC
          have e' : f_X7_throwOne_108 N E1 E2 p1.2 = some R := e
          exact Or.inl ⟨f108 _ e', r142 hV⟩
        · rw [if_neg cc] at hV
          have nlt : ¬ p1.2.a 49 k < 0 := fun z => by
            have z' := lt_int z
            rw [z_t0] at z'
            have := cau.mpr cc
            omega
          rw [if_neg nlt] at eC
          cases eC
          have e' : ((f_X4_frameOf N p1.2 F.1).bind fun p37 => (f_X0_add N p37.2 64 p37.1).bind fun p41 => (f_X9_advance N p41.2).bind fun p45 => f_X7_throwOne_152 N E1 E2 p45.2) = some R := e
          unfold f_X4_frameOf at e'
          rw [ob_some] at e'
          obtain ⟨w, ew, e'⟩ := hf_bind e'
          obtain ⟨p2, e2, e'⟩ := hf_bind e'
          unfold f_X7_throwOne_152 at e'
          obtain ⟨r, er, e'⟩ := hf_bind e'
          cases e'
          obtain ⟨y, hy, hV⟩ := hf_bind hV
          obtain ⟨q2, hq2, hV⟩ := hf_bind hV
          obtain ⟨b, hb, hV⟩ := hf_bind hV
          rw [ob_id] at hV
          obtain ⟨n1, n2, n3, n4, n5, n6⟩ := em_env a1 (by omega) hy
          obtain ⟨nq, -, y11, -, -, -, -, y17, y19, -⟩ := qj2_eq n3
          have kw := kd_X0_add N p1.2 64 _ w ew
          have kp := pj2_eq kw
          obtain ⟨b1, tb, fb, kb, cb, m11, pb, b17, b19⟩ := y_nx hN (n1.kd kw) (qj_63 nq tq) (by rw [kp.2.2.2.2.2.2.2.1, c2]; decide) e2 hq2
          rcases y_need hN b1 (c := 59) (d := 59) (Or.inl ⟨by decide, by decide⟩) (by decide) (by decide) (by decide) er hb with ⟨o1, o2, o3⟩ | ⟨o1, o2, o3, o4, o5, o6, o7, o8, o9, o10, o11, o12⟩
          · refine Or.inl ⟨?_, u_flt g2 (krf_f_X12_over N b.2 0 V hV o3)⟩
            show ¬ (CS.setI r.2 36 0).i 32 = 0
            rw [ci_ne _ _ _ (by decide)]
            exact o2
          · obtain ⟨v1, v2, v3, v4, v5, v6, v7, v8, v9, v10⟩ := y_over o3 (qj_63 o4 tb) t9 hV
            have t17 : (b.2.i 17).toInt = (q2.i 17).toInt + 1 := by rw [o6]; exact t17_up (N := N) b1
            have pbb : phI b.2 = phI q2 + 3 := by
              unfold phI
              rw [o8, t17]
              omega
            rw [y11] at m11
            have x5 : XO d t S s r.2 V := ⟨v1, v2, ((((fq t).tr (FRB.of nq)).tr (fb t)).tr (FRB.of o4)).tr (v3 t), (((kq.tr n2).tr kb).tr (TBK.of o4 (by rw [o8]; exact Int.le_refl _) (fun j _ => by rw [o9]))).tr v4, ((cq.tr (CKX.of kp.1 kp.2.2.2.2.1 kp.2.2.2.2.2.2.2.2.2.2.2)).tr cb).tr (CKX.of o5 o10 o11), by rw [v8]; omega, by omega, by rw [v9]; rw [y17] at b17; omega, by rw [v10, o12, b19, y19, q19]⟩
            refine Or.inr ⟨m, V, g2, x5.s36b h36, ?_, ?_⟩
            rotate_left
            · obtain ⟨k1, k2, k3, k4, -, k6, -⟩ := adv_cd hN hv (by rw [h43]; decide) e1 hq
              obtain ⟨l1, l2, l3, l4, -, l6, -⟩ := adv_cd hN (n1.kd kw) (by rw [kp.2.2.2.2.2.2.2.1, c2]; decide) e2 hq2
              obtain ⟨i1, i2, i3, i4, -, i6⟩ := tok_cd b1 o3 o5 (ke_X1_expect N p2.2 59 r er) (kre_f_X12_need N q2 59 b hb) o7
              have cd2 : CDG (-1) (JK3 U s) U p1.2 q (CS.setI r.2 36 0) V := CDO.g <| cdg_one a1 (by omega) ((l1.tr i1).tr (CD1.pe (b := 0) (R := CS.setI r.2 36 0) rfl rfl rfl rfl rfl (by show (r.2.i 44).toInt + 0 ≤ (r.2.i 44).toInt; omega))) (by omega) (by omega) (fun a b => ((l2 a b).tr (i2 a b)).tr (CT7.eq rfl)) (fun c => ((l3 c).tr (i3 c)).tr (CD2.qe (kre_f_X12_over N b.2 0 V hV))) (i4.trans l4) ((qe_eq (kre_f_X12_over N b.2 0 V hV)).1.1.trans (i6.trans l6)) ew hy (fun FC SF nm X c h w2 W g0 pq hc h6 ng ty hW x1 x2 x3 x4 x5 x6 _ => by
                obtain ⟨l1, e9, l0, y00, y1, y2, y3, y4⟩ := (ng.1 k k3').2 (cau.mpr cc)
                refine gi_UAga (pq.hc hc) pq.2.1 ⟨x1, x3, w2 - 1, by omega, ty.up (by omega), l1, e9, l0, y00, y1, ?_, ?_⟩
                · rw [x2, gat]
                  exact y4
                · rw [x4]
                  exact y3)
              exact cd2.pre (k' := -1) k1 (by omega) (by omega) (by omega) (k2 _ _) k3 k4 k6 hv.2.1.1 kq.1.1.2.2.2.1 (fun j hj => (kq.1.2.1 j hj).2.1) (by omega) (by rw [q19]; exact Int.le_refl _)
            rw [v5]
            exact ⟨(ci_at _ _ _).symm, Or.inl (ci_at _ _ _)⟩
    · rw [e_fnd0 c2, ob_some, if_pos rfl] at e
      have k2 : ¬ q.i 10 = 2 := fun z => c2 (i2.mpr z)
      rw [if_neg k2] at hV
      obtain ⟨f, ef, e⟩ := hf_bind e
      obtain ⟨c, hc, hV⟩ := hf_bind hV
      obtain ⟨c1, c3⟩ := y_can0 hc
      rw [if_pos c1] at hV
      cases hV
      exact Or.inl ⟨flt (y_misp ef) e, u_flt g2 c3⟩
end
section
/-! both readers: assert -/
theorem y_ntx {N : Nat} (hN : 1000 ≤ N) {d : Int32} {S : CS} {s q : RS} {t : Nat} {w : Int32 × CS} {p : Unit × CS} (hv : ENV d S s) (ht : tpI s = t) (h21 : (S.i 21).toInt + 1 ≤ 3 * (s.i 11).toInt + 8) (h43 : ¬ S.i 43 = 0) (e0 : f_X0_newTarget N S = some w) (e : f_X9_advance N w.2 = some p) (hq : f_X12_next N s = some q) : ENV d p.2 q ∧ tpI q = t ∧ (∀ r : Nat, FRB r s q) ∧ TBK s q ∧ CKX S p.2 ∧ (s.i 11).toInt + 1 ≤ (q.i 11).toInt ∧ phI q = phI s + 3 ∧ (q.i 17).toInt = (s.i 17).toInt + 1 ∧ q.i 19 = s.i 19 := by
  obtain ⟨-, n43, n44, n22, n18, -⟩ := nt_i e0
  obtain ⟨vw, -, w21⟩ := hv.nt h21 e0
  obtain ⟨a1, a2, a3, a4, a5, a6, a7, a8, a9⟩ := y_nx hN vw ht (by rw [n43]; exact h43) e hq
  refine ⟨a1, a2, a3, a4, ?_, a6, a7, a8, a9⟩
  obtain ⟨-, -, b3, -, -, -, -, -, -, -⟩ := vw.adv hN (by rw [n43]; exact h43) e hq
  have p21 : (p.2.i 21).toInt = (S.i 21).toInt + 1 := by rw [pj_21 b3]; exact w21
  have p44 : (S.i 44).toInt + 1 ≤ (p.2.i 44).toInt := by rw [hv.1.2.2.2.1.1, a1.1.2.2.2.1.1]; exact a6
  exact CKX.nt e0 a5 (by omega)
theorem y_add {N : Nat} {d : Int32} {S : CS} {s : RS} {o x : Int32} {w : Unit × CS} (hv : ENV d S s) (e : f_X0_add N S o x = some w) : ENV d w.2 s ∧ CKX S w.2 ∧ w.2.i 43 = S.i 43 ∧ w.2.i 21 = S.i 21 := by
  have kw := kd_X0_add N S o x w e
  have kp := pj2_eq kw
  exact ⟨hv.kd kw, CKX.of kp.1 kp.2.2.2.2.1 kp.2.2.2.2.2.2.2.2.2.2.2, kp.2.2.2.2.2.2.2.1, pj_21 kp.1⟩
theorem y_aim {N : Nat} {d : Int32} {S : CS} {s : RS} {x : Int32} {w : Unit × CS} (hv : ENV d S s) (e : f_X0_aim N S x = some w) : ENV d w.2 s ∧ CKX S w.2 ∧ w.2.i 43 = S.i 43 ∧ w.2.i 21 = S.i 21 := by
  have kw := kd_X0_aim N S x w e
  have kp := pj2_eq kw
  exact ⟨hv.kd kw, CKX.of kp.1 kp.2.2.2.2.1 kp.2.2.2.2.2.2.2.2.2.2.2, kp.2.2.2.2.2.2.2.1, pj_21 kp.1⟩
/-- an instruction of the reference, seen from s -/
theorem y_emit {N : Nat} {d : Int32} {S : CS} {s : RS} {t : Nat} {o x : Int32} {y : Int32 × RS} (hv : ENV d S s) (ht : tpI s = t) (h1 : 1 ≤ phI s) (e : f_X12_emit N s o x = some y) : ENV d S y.2 ∧ tpI y.2 = t ∧ (∀ r : Nat, FRB r s y.2) ∧ TBK s y.2 ∧ phI y.2 = phI s - 1 ∧ y.1 = s.i 20 ∧ (y.2.i 20).toInt = (s.i 20).toInt + 1 ∧ y.2.i 11 = s.i 11 ∧ y.2.i 17 = s.i 17 ∧ y.2.i 19 = s.i 19 ∧ y.2.i 10 = s.i 10 := by
  obtain ⟨n1, n2, n3, n4, n5, n6⟩ := em_env hv h1 e
  obtain ⟨nq, y10, y11, -, -, -, -, y17, y19, -⟩ := qj2_eq n3
  exact ⟨n1, qj_63 nq ht, fun r => FRB.of nq, n2, n4, n5, n6, y11, y17, y19, y10⟩
theorem setA_tbk {s : RS} {k j : Nat} {v : Int32} (hk : 64 ≤ k ∧ k ≤ 73) : TBK s (RS.setA s k j v) := ⟨setA_tb0 (Or.inr hk), Int.le_refl _, fun m _ => congrFun (setA_nk (by omega)) m⟩
/-- a long word, and on -/
theorem adv5_cd {N : Nat} (hN : 1000 ≤ N) {d : Int32} {S : CS} {s : RS} {R : Unit × CS} {u : RS} (h : ENV d S s) (hz : ¬ S.i 43 = 0) (h5 : (S.i 43 = 208 ∨ S.i 43 = 209) ∨ S.i 43 = 217) (e : f_X9_advance N S = some R) (g : f_X12_next N s = some u) : CD1 (-5) (-5) S R.2 ∧ (∀ a b : Int, CT7 a b S R.2) ∧ (∀ c : Int, CD2 c s u) ∧ R.2.i 20 = S.i 20 ∧ R.2.i 21 = S.i 21 ∧ u.i 20 = s.i 20 := by
  obtain ⟨v, -, kp, -, q11, q20, -, -, -, -⟩ := h.adv hN hz e g
  have ke := ke_X9_advance N S R e
  have qe' := kre_f_X12_next N s u g
  obtain ⟨-, -, -, -, -, -, -, -, -, -, -, -, -, i50, -, -, -, -, -, -, a48, a49, -, -, -, -, -, i21, -⟩ := pj_eq kp
  have e1 := h.p44.1
  have e2 := v.p44.1
  have l5 := h.lb.1.1 h5
  obtain ⟨-, -, -, l12⟩ := y_adv hN h.1 e g
  have l : (S.i 44).toInt + 5 ≤ (R.2.i 44).toInt := by
    rw [h.1.2.2.2.1.2.1] at l5
    rw [e2]
    omega
  exact ⟨CD1.pe (b := 5) ke i21 i50 a48 a49 l, fun a b => CT7.eq (pe_eq ke).2.2.2.1, fun c => CD2.qe qe', (pe_eq ke).1, i21, q20⟩
/-- a value more, one instruction not paid -/
def CDM (U : RS) (S : CS) (s : RS) (R : CS) (u : RS) : Prop := CRB S → CD1 1 0 S R ∧ CT7 0 (S.i 21).toInt S R ∧ CD2 (s.i 20).toInt s u ∧ RNY 0 1 (fun _ => True) 0 U S s R u
theorem cdm_pre {U : RS} {S P R : CS} {s q u : RS} {a b : Int} (h : CDE 0 U P q R u) (a1 : CD1 a b S P) (ha : a ≤ 0) (hb : b ≤ 0) (t : CT7 0 (S.i 21).toInt S P) (y : ∀ c : Int, CD2 c s q) (pC : P.i 20 = S.i 20) (pR : q.i 20 = s.i 20) (n50 : S.i 50 = s.i 38) (e38 : q.i 38 = s.i 38) (a40 : ∀ j : Nat, (j : Int) < (s.i 38).toInt → q.a 40 j = s.a 40 j) (l11 : (s.i 11).toInt ≤ (q.i 11).toInt) (l19 : (s.i 19).toInt ≤ (q.i 19).toInt) : CDM U S s R u := by
  intro cr
  obtain ⟨b1, b2, b3, Ψ, sat, h⟩ := h (cr.of a1 ha hb)
  have pC' : pcC P = pcC S := by unfold pcC; rw [pC]
  have pR' : pcR q = pcR s := by unfold pcR; rw [pR]
  refine ⟨(a1.tr b1).wk (by omega) (by omega), t.tr (b2.wk (Int.le_refl _) a1.2.2.1), (y _).tr (b3.wk (by rw [pR]; exact Int.le_refl _)), Ψ, sat.wd (MNO.of a1 (y 0)) (MNO.of (CD1.rf R) (CD2.rf 0 u)), fun FC SF nm X c h' w W g0 ps fc fr ng hc hh ty hW hg last => ?_⟩
  have z := h FC SF nm X c h' w W g0 ps (fc.sub a1 (CD1.rf R) (CT7.rf _ _ R)) (fr.sub (y 0) (CD2.rf 0 u) (fun _ _ _ => ⟨rfl, rfl, rfl⟩)) (ng.mv n50 a1 (y 0) e38 a40 l19) hc (by omega) ty hW hg last
  rw [pC', pR'] at z
  exact z
theorem cdm_psh {N : Nat} {d : Int32} {S : CS} {s U v : RS} {r : Unit × CS} {w : Int32 × RS} (hv : ENV d S s) (h1 : 1 ≤ phI s) (ha : f_X0_add N S 0 0 = some r) (hw : f_X12_emit N s 2 0 = some w) (qv : qe v = qe w.2) : CDM U S s r.2 v := by
  intro cr
  have q44 := hv.p44
  have q44' : (S.i 44).toInt = (s.i 11).toInt := by rw [q44.1]
  have p20 := hv.p20
  have h6 := (i11_hi hv).2
  obtain ⟨d1, d2, ⟨d3, d3'⟩, d4, d5, d6⟩ := cd_add ha cr.1.1 (by have := cr.1.2; omega)
  obtain ⟨m1, m2, m3, m4, m5, m6⟩ := cd_emit hw p20.1 (by omega)
  have pS : ((pcC S : Nat) : Int) = (S.i 20).toInt := Int.toNat_of_nonneg cr.1.1
  have ps : ((pcR s : Nat) : Int) = (s.i 20).toInt := Int.toNat_of_nonneg p20.1
  have v20 : (v.i 20).toInt = (s.i 20).toInt + 1 := by rw [(qe_eq qv).1.1, m3]
  have pR : pcC r.2 = pcC S + 1 := by
    unfold pcC
    rw [d2]
    have := cr.1.1
    omega
  have pu : pcR v = pcR s + 1 := by
    unfold pcR
    rw [v20]
    have := p20.1
    omega
  obtain ⟨-, v21, v22, -⟩ := qe_eq qv
  refine ⟨d1, CT7.eq d4, m1.tr (CD2.qe qv), GPS.tt, SAT.tt _ _ _ _ (m1.tr (CD2.qe qv)).1.2.2.2.2.1, fun FC SF nm X c h w2 W g0 _ fc fr ng hc hh ty hW hg z => ?_⟩
  have f15 := fc.2.1 (pcC S) (by omega) (by omega)
  have u21 := fr.2.1 (pcR s) (by omega) (by omega)
  have fr1 : (v.i 20).toInt ≤ (U.i 20).toInt := fr.1.2.1
  rw [pR, pu] at z
  rw [pR, show w2 + (pcC S + 1 - pcC S) = w2 + 1 by omega]
  exact gs_push (g' := 0) ⟨by have := cr.1.2; omega, by omega, fr.1.2.2⟩ hc (by rw [f15.1]; exact d3) (by rw [u21.1, v21]; exact m4) (by rw [f15.2, u21.2.1, v22, d3']; exact m5.symm) (by omega) (Or.inl rfl) z
/-- the end of an assert: RAISE, and both jumps land behind it -/
def AST (x1 : Int32) (j6 j7 : Nat) (S : CS) (u : RS) (R : CS) (V : RS) : Prop := (CRB S → 0 ≤ x1.toInt → x1.toInt < 1024 → CD1 0 (-1) S R ∧ (∀ k : Nat, ¬ (k : Int) = x1.toInt → R.a 17 k = S.a 17 k) ∧ (cTg R x1).toInt = (S.i 20).toInt + 1 ∧ (R.i 20).toInt = (S.i 20).toInt + 1 ∧ (R.a 15 (pcC S) = 63 ∧ R.a 16 (pcC S) = 3) ∧ R.i 21 = S.i 21) ∧ ((j6 : Int) < (u.i 20).toInt → (j7 : Int) < (u.i 20).toInt → (∀ c : Int, c ≤ (j6 : Int) → c ≤ (j7 : Int) → c ≤ (u.i 20).toInt → CD2 c u V) ∧ (V.i 20).toInt = (u.i 20).toInt + 1 ∧ (V.a 21 (pcR u) = 19 ∧ V.a 22 (pcR u) = 3) ∧ (∀ j : Nat, (j : Int) < (u.i 20).toInt → V.a 21 j = u.a 21 j ∧ V.a 23 j = u.a 23 j ∧ (¬ j = j6 → ¬ j = j7 → V.a 22 j = u.a 22 j)) ∧ V.a 22 j6 = V.i 20 ∧ V.a 22 j7 = V.i 20)
/-- behind the condition of an assert: the last steps -/
theorem y_ast2 {N : Nat} (hN : 1000 ≤ N) {E1 : CS → Option (Unit × CS)} {E2 : CS → Option (Int32 × CS)} {d : Int32} {S : CS} {u V : RS} {t : Nat} {x1 : Int32} {c0 : Int} {R : Unit × CS} (hv : ENV d S u) (ht : tpI u = t) (t9 : t < 1000) (h1 : 1 ≤ phI u) (h65 : u.a 65 t = 2) (h66 : 0 ≤ c0 ∧ c0 ≤ (u.a 66 t).toInt ∧ c0 ≤ (u.a 67 t).toInt) (h20 : c0 ≤ (u.i 20).toInt) (e : f_X7_claim_74 N E1 E2 S x1 = some R) (hV : f_X12_asserted N u (u.i 63) = some V) : (¬ R.2.i 32 = 0 ∧ ¬ V.i 15 = 0) ∨ (ENV d R.2 V ∧ tpI V = (t : Int) - 1 ∧ FRB t u V ∧ TBZ u V ∧ CDK c0 u V ∧ CKX S R.2 ∧ V.i 75 = 1 ∧ (u.i 11).toInt + 1 ≤ (V.i 11).toInt ∧ phI u + 2 ≤ phI V ∧ (u.i 17).toInt + 1 ≤ (V.i 17).toInt ∧ V.i 19 = u.i 19 ∧ R.2.i 36 = S.i 36 ∧ AST x1 (u.a 66 t).toNatClampNeg (u.a 67 t).toNatClampNeg S u R.2 V) := by
  unfold f_X7_claim_74 at e
  obtain ⟨p1, e1, e⟩ := hf_bind e
  obtain ⟨p2, e2, e⟩ := hf_bind e
  obtain ⟨p3, e3, e⟩ := hf_bind e
  cases e
  unfold f_X12_asserted at hV
  obtain ⟨-, hV⟩ := hf_ite hV
  rw [tp_nat ht, if_neg (show ¬ u.a 65 t = 0 by rw [h65]; decide), if_neg (show ¬ u.a 65 t = 1 by rw [h65]; decide)] at hV
  obtain ⟨y, hy, hV⟩ := hf_bind hV
  obtain ⟨i1, hV⟩ := hf_ite hV
  obtain ⟨i2, hV⟩ := hf_ite hV
  obtain ⟨b, hb, hV⟩ := hf_bind hV
  rw [ob_id] at hV
  obtain ⟨n1, n2, n3, n4, n5, n6, n7, n8, n9, n10', -⟩ := y_emit hv ht h1 hy
  obtain ⟨a1, c1, -, -⟩ := y_add n1 e1
  obtain ⟨a2, c2, -, -⟩ := y_aim a1 e2
  have f66 := (n3 (t + 1) t (by omega)).2.2.1
  have f67 := (n3 (t + 1) t (by omega)).2.2.2.1
  have k66 := clampI i1.1
  have k67 := clampI i2.1
  rw [f66] at k66
  rw [f67] at k67
  obtain ⟨z, hz⟩ : ∃ z, z = RS.setA (RS.setA y.2 22 (((y.2.a 66 t) : Int32).toNatClampNeg) (y.2.i 20)) 22 (((y.2.a 67 t) : Int32).toNatClampNeg) (y.2.i 20) := ⟨_, rfl⟩
  rw [← hz] at hb
  have ez : ENV d p2.2 z := by rw [hz]; exact setA_env (Or.inl rfl) (setA_env (Or.inl rfl) a2)
  have fz : ∀ r : Nat, FRB r y.2 z := fun r => by rw [hz]; exact (setA_frb (Or.inl rfl)).tr (setA_frb (Or.inl rfl))
  have kz : TBZ y.2 z := by rw [hz]; exact (setA_tb0 (Or.inl rfl)).tr (setA_tb0 (Or.inl rfl))
  have iz : z.i = y.2.i := by rw [hz]; rfl
  have cz : CDK c0 y.2 z := by
    refine ⟨by rw [iz]; exact Int.le_refl _, fun j hj => ?_⟩
    rw [hz]
    rw [f66, f67]
    exact (setA_ne (by omega)).trans (setA_ne (by omega))
  have za0 : ∀ k : Nat, ¬ k = 22 → z.a k = y.2.a k := fun k hk => by
    rw [hz]
    exact (setA_nk hk).trans (setA_nk hk)
  have z220 : ∀ j : Nat, ¬ j = (u.a 66 t).toNatClampNeg → ¬ j = (u.a 67 t).toNatClampNeg → z.a 22 j = y.2.a 22 j := fun j h6 h7 => by
    rw [hz, f66, f67]
    exact (setA_ne h7).trans (setA_ne h6)
  have z227 : z.a 22 (u.a 67 t).toNatClampNeg = y.2.i 20 := by
    rw [hz, f66, f67]
    exact setA_at
  have z226 : z.a 22 (u.a 66 t).toNatClampNeg = y.2.i 20 := by
    rw [hz, f66, f67]
    by_cases c : (u.a 66 t).toNatClampNeg = (u.a 67 t).toNatClampNeg
    · rw [c]
      exact setA_at
    · exact (setA_ne c).trans setA_at
  clear hz
  have tz : tpI z = t := by
    show (z.i 63).toInt = (t : Int)
    rw [iz]
    exact n2
  rcases y_need hN ez (c := 59) (d := 59) (Or.inl ⟨by decide, by decide⟩) (by decide) (by decide) (by decide) e3 hb with ⟨o1, o2, o3⟩ | ⟨o1, o2, o3, o4, o5, o6, o7, o8, o9, o10, o11, o12⟩
  · exact Or.inl ⟨o2, krf_f_X12_over N b.2 1 V hV o3⟩
  · obtain ⟨v1, v2, v3, v4, v5, v6, v7, v8, v9, v10⟩ := y_over o3 (qj_63 o4 tz) t9 hV
    have t17 : (b.2.i 17).toInt = (u.i 17).toInt + 1 := by rw [o6, t17_up (N := N) ez, iz, n9]
    have pz : phI z = phI y.2 := by unfold phI; rw [iz]
    have pb : phI b.2 = phI z + 3 := by
      unfold phI
      rw [o8, o6, t17_up (N := N) ez]
      omega
    have ast : AST x1 (u.a 66 t).toNatClampNeg (u.a 67 t).toNatClampNeg S u p3.2 V := by
      obtain ⟨j1, j2, j3, j4, j5, j6⟩ := tok_cd ez o3 o5 (ke_X1_expect N p2.2 59 p3 e3) (kre_f_X12_need N z 59 b hb) o7
      have ke := pe_eq (ke_X1_expect N p2.2 59 p3 e3)
      have p20 := hv.p20
      have h6 := (i11_hi hv).2
      have q44 := hv.p44
      have q44' : (S.i 44).toInt = (u.i 11).toInt := by rw [q44.1]
      refine ⟨fun cr x0 x9 => ?_, fun l6 l7 => ?_⟩
      · obtain ⟨d1, d2, ⟨d3, d3'⟩, d4, d5, d6⟩ := cd_add e1 cr.1.1 (by have := cr.1.2; omega)
        obtain ⟨g1, g2, g3, g4, g5, g6, g7, g8⟩ := cd_aim e2 x0 x9
        refine ⟨((d1.tr g1).tr j1).wk (by omega) (by omega), fun k hk => ?_, ?_, ?_, ⟨?_, ?_⟩, ?_⟩
        · rw [ke.2.2.2.1, g2 k hk, d4]
        · unfold cTg
          rw [ke.2.2.2.1]
          have z : (gAt (p2.2.a 17) 1024 x1) = p1.2.i 20 := g3
          rw [z, d2]
        · rw [j4, g6, d2]
        · rw [ke.2.1, g4]
          exact d3
        · rw [ke.2.2.1, g5]
          exact d3'
        · rw [j5, g7, d5]
      · obtain ⟨m1, m2, m3, m4, m5, m6⟩ := cd_emit hy p20.1 (by omega)
        have qV := kre_f_X12_over N b.2 1 V hV
        have qb := kre_f_X12_need N z 59 b hb
        obtain ⟨-, v21, v22, v23, -⟩ := qe_eq qV
        obtain ⟨-, b21, b22, b23, -⟩ := qe_eq qb
        have pu : ((pcR u : Nat) : Int) = (u.i 20).toInt := Int.toNat_of_nonneg p20.1
        have V20 : V.i 20 = y.2.i 20 := by rw [(qe_eq qV).1.1, j6, iz]
        have za : ∀ k : Nat, ¬ k = 22 → z.a k = y.2.a k := za0
        have z22 : ∀ j : Nat, ¬ j = (u.a 66 t).toNatClampNeg → ¬ j = (u.a 67 t).toNatClampNeg → z.a 22 j = y.2.a 22 j := z220
        refine ⟨fun c c6 c7 cu => ((m1.wk cu).tr ⟨⟨by rw [iz]; exact Int.le_refl _, by rw [iz]; exact Int.le_refl _, by rw [iz]; exact Int.le_refl _, by rw [iz]; exact Int.le_refl _, SLC.eq (by rw [iz]) (by rw [iz]; exact Int.le_refl _), by rw [iz]⟩, fun j hj => ⟨by rw [za 21 (by decide)], z22 j (by omega) (by omega), by rw [za 23 (by decide)]⟩, fun j _ => ⟨by rw [za 25 (by decide)], by rw [za 26 (by decide)], by rw [za 27 (by decide)], by rw [za 28 (by decide)]⟩, fun j _ => ⟨by rw [za 30 (by decide)], by rw [za 31 (by decide)], by rw [za 32 (by decide)]⟩, fun j _ => ⟨by rw [za 34 (by decide)], by rw [za 35 (by decide)], by rw [za 36 (by decide)], by rw [za 37 (by decide)]⟩⟩).tr ((j3 c).tr (CD2.qe qV)), by rw [V20, m3], ⟨?_, ?_⟩, fun j hj => ⟨?_, ?_, fun n6 n7 => ?_⟩, ?_, ?_⟩
        · rw [v21, b21, za 21 (by decide)]
          exact m4
        · rw [v22, b22, z22 _ (by omega) (by omega)]
          exact m5
        · rw [v21, b21, za 21 (by decide)]
          exact (m1.2.1 j hj).1
        · rw [v23, b23, za 23 (by decide)]
          exact (m1.2.1 j hj).2.2
        · rw [v22, b22, z22 j n6 n7]
          exact (m1.2.1 j hj).2.1
        · rw [v22, b22, V20]
          exact z226
        · rw [v22, b22, V20]
          exact z227
    rw [iz, n8] at o7
    have ck : CKX S p3.2 := (c1.tr c2).tr (CKX.of o5 o10 o11)
    have b20 : (b.2.i 20).toInt = (u.i 20).toInt + 1 := by rw [o8, iz, n7]
    exact Or.inr ⟨v1, v2, (((n3 t).tr (fz t)).tr (FRB.of o4)).tr (v3 t), ((n4.1.tr kz).tr (TBZ.of o4)).tr v4.1, (((n4.2.wk h20).tr cz).tr ⟨by rw [o8]; exact Int.le_refl _, fun j _ => by rw [o9]⟩).tr (v4.2.wk (by omega)), ck, v5, by rw [v8]; exact o7, by omega, by rw [v9]; omega, by rw [v10, o12, iz, n10'], ck.1.2.1, ast⟩
/-- all of an assert -/
theorem cdg_ast {N : Nat} (hN : 1000 ≤ N) {d : Int32} {S : CS} {s q z u k v V U : RS} {w0 : Int32 × CS} {p5 p9 p17 p21 : Unit × CS} {P X R : CS} {y j : Int32 × RS} (hv : ENV d S s) (h43 : S.i 43 = 217) (e0 : f_X0_newTarget N S = some w0) (vw : ENV d w0.2 s) (w43 : w0.2.i 43 = S.i 43) (e5 : f_X9_advance N w0.2 = some p5) (hq : f_X12_next N s = some q) (a1 : ENV d p5.2 q) (pq1 : 1 ≤ phI q) (e9 : f_X0_add N p5.2 35 w0.1 = some p9) (hy : f_X12_emit N q 22 0 = some y) (qz : qe z = qe y.2) (xc : CDE 2 U p9.2 z P u) (eu : ENV d P u) (u1 : 1 ≤ phI u) (e17 : f_X0_add N P 5 0 = some p17) (e21 : f_X0_add N p17.2 31 w0.1 = some p21) (hj : f_X12_emit N u 14 0 = some j) (qk : qe k = qe j.2) (ek : ENV d p21.2 k) (mid : CDM U p21.2 k X v) (evX : ENV d X v) (ast : AST w0.1 y.1.toNatClampNeg j.1.toNatClampNeg X v R V) (tz : TBK s z) (tk : TBK s k) (z11 : (s.i 11).toInt ≤ (z.i 11).toInt) (k11 : (s.i 11).toInt ≤ (k.i 11).toInt) (z19 : z.i 19 = s.i 19) (k19 : k.i 19 = s.i 19) : CDG (-1) (fun FC SF nm X c h w2 => JGO U R V FC SF nm X c h w2 ∧ JK3 U s FC SF nm X c h w2) U S s R V := by
  intro cr
  have hi := (i11_hi hv).2
  have q44 := hv.p44
  have q44' : (S.i 44).toInt = (s.i 11).toInt := by rw [q44.1]
  have hi5 := (i11_hi a1).2
  have c44 : (p5.2.i 44).toInt = (q.i 11).toInt := by rw [a1.p44.1]
  have hiu := (i11_hi eu).2
  have u44 : (P.i 44).toInt = (u.i 11).toInt := by rw [eu.p44.1]
  -- the class
  obtain ⟨n1, n2, n3, n4, n5, n6, n7, n8⟩ := cd_nt e0 cr.2.1 (by have := cr.2.2; omega)
  obtain ⟨b1, b2, b3, b4, b5, b6⟩ := adv5_cd hN vw (by rw [w43, h43]; decide) (Or.inr (w43.trans h43)) e5 hq
  have cS5 : CD1 (-5) (-4) S p5.2 := (n1.tr b1).wk (by omega) (by omega)
  have cr5 : CRB p5.2 := cr.of cS5 (by omega) (by omega)
  obtain ⟨d1, d2, ⟨d3, d3'⟩, d4, d5, d6⟩ := cd_add e9 cr5.1.1 (by have := cr5.1.2; omega)
  have cS9 : CD1 (-4) (-4) S p9.2 := (cS5.tr d1).wk (by omega) (by omega)
  have cr9 : CRB p9.2 := cr.of cS9 (by omega) (by omega)
  obtain ⟨f1, f2, f3, Ψ1, sat1, r1⟩ := xc cr9
  have cSP : CD1 (-4) (-5) S P := (cS9.tr f1).wk (by omega) (by omega)
  have crP : CRB P := cr.of cSP (by omega) (by omega)
  obtain ⟨g1, g2, ⟨g3, g3'⟩, g4, g5, g6⟩ := cd_add e17 crP.1.1 (by have := crP.1.2; omega)
  obtain ⟨i1, i2, ⟨i3, i3'⟩, i4, i5, i6⟩ := cd_add e21 (by rw [g2]; have := crP.1.1; omega) (by rw [g2]; have := crP.1.2; omega)
  have cP21 : CD1 2 0 P p21.2 := (g1.tr i1).wk (by omega) (by omega)
  have cS21 : CD1 (-2) (-5) S p21.2 := (cSP.tr cP21).wk (by omega) (by omega)
  have cr21 : CRB p21.2 := cr.of cS21 (by omega) (by omega)
  obtain ⟨m1, m2, m3, Ψ2, sat2, r2⟩ := mid cr21
  have cSX : CD1 (-1) (-5) S X := (cS21.tr m1).wk (by omega) (by omega)
  have crX : CRB X := cr.of cSX (by omega) (by omega)
  have x0 : w0.1.toInt = (S.i 21).toInt := by rw [n2]
  obtain ⟨⟨k1, k2, k3, k4, ⟨k5, k5'⟩, k6⟩, k7⟩ := (⟨ast.1 crX (by have := cr.2.1; omega) (by have := cr.2.2; omega), ast.2⟩ : _ ∧ _)
  have l21 : (w0.2.i 21).toInt = (p5.2.i 21).toInt := by rw [b5]
  have l59 : (p9.2.i 21).toInt = (p5.2.i 21).toInt := by rw [d5]
  have l9P := f1.2.2.1
  have lP21 : (p21.2.i 21).toInt = (P.i 21).toInt := by rw [i5, g5]
  have l21X := m1.2.2.1
  -- the reference
  have q20 := a1.p20
  have pj := eu.p20
  obtain ⟨s1, s2, s3, s4, s5, s6⟩ := cd_emit hy q20.1 (by omega)
  obtain ⟨t1, t2, t3, t4, t5, t6⟩ := cd_emit hj pj.1 (by omega)
  have z20 : (z.i 20).toInt = (s.i 20).toInt + 1 := by rw [(qe_eq qz).1.1, s3, b6]
  have k20 : (k.i 20).toInt = (u.i 20).toInt + 1 := by rw [(qe_eq qk).1.1, t3]
  have y1 : y.1.toNatClampNeg = pcR s := by rw [s2, b6]; rfl
  have j1 : j.1.toNatClampNeg = pcR u := by rw [t2]; rfl
  have s20 := hv.p20
  have ps : ((pcR s : Nat) : Int) = (s.i 20).toInt := Int.toNat_of_nonneg s20.1
  have pu : ((pcR u : Nat) : Int) = (u.i 20).toInt := Int.toNat_of_nonneg pj.1
  have lzu := f3.1.1
  have lkv := m3.1.1
  rw [y1, j1] at k7
  obtain ⟨v1, v2, ⟨v3, v3'⟩, v4, v5, v6⟩ := k7 (by omega) (by omega)
  have csz : CD2 (s.i 20).toInt s z := ((b3 _).tr (s1.wk (by rw [b6]; exact Int.le_refl _))).tr (CD2.qe qz)
  have cuk : CD2 (u.i 20).toInt u k := t1.tr (CD2.qe qk)
  have csu : CD2 (s.i 20).toInt s u := csz.tr (f3.wk (by omega))
  have csk : CD2 (s.i 20).toInt s k := csu.tr (cuk.wk (by omega))
  have csv : CD2 (s.i 20).toInt s v := csk.tr (m3.wk (by omega))
  have cvV : CD2 (s.i 20).toInt v V := v1 _ (by omega) (by omega) (by omega)
  have ckV : CD2 0 k V := (m3.wk (by omega)).tr (cvV.wk (by omega))
  have cuV : CD2 0 u V := (cuk.wk (by omega)).tr ckV
  have ct : ∀ a b : Int, (S.i 21).toInt < a → CT7 a b X R := fun a b ha kk h1 h2 => k2 kk (by omega)
  refine ⟨(cSX.tr k1).wk (by omega) (by omega), ?_, csv.tr cvV, GPS.an Ψ1 Ψ2, ?_, ?_⟩
  · have c1 : CT7 0 (S.i 21).toInt S p9.2 := ((n4 0).tr (b2 _ _)).tr (CT7.eq d4)
    have c2 : CT7 0 (S.i 21).toInt p9.2 P := f2.wk (Int.le_refl _) (by omega)
    have c3 : CT7 0 (S.i 21).toInt P p21.2 := (CT7.eq g4).tr (CT7.eq i4)
    have c4 : CT7 0 (S.i 21).toInt p21.2 X := m2.wk (Int.le_refl _) (by omega)
    exact (((c1.tr c2).tr c3).tr c4).tr (fun kk _ h2 => k2 kk (by omega))
  · have cuv0 : CD2 0 u v := (cuk.wk (by omega)).tr (m3.wk (by omega))
    exact (SAT.an sat1 (sat2.wd (MNO.of cP21 cuk) (MNO.of (CD1.rf X) (CD2.rf 0 v))) (MNO.of f1 f3) (MNO.of (cP21.tr m1) cuv0)).wd (MNO.of cS9 csz) (MNO.of k1 cvV)
  intro FC SF nm X' c h w2 W g0 ps' fc fr ng hc hh ty hW tt
  obtain ⟨⟨w, hw, hg⟩, tk3, tk4⟩ := tt
  have pcS : ((pcC S : Nat) : Int) = (S.i 20).toInt := Int.toNat_of_nonneg cr.1.1
  have pcP : ((pcC P : Nat) : Int) = (P.i 20).toInt := Int.toNat_of_nonneg crP.1.1
  have pcX : ((pcC X : Nat) : Int) = (X.i 20).toInt := Int.toNat_of_nonneg crX.1.1
  have p9C : pcC p9.2 = pcC S + 1 := by
    unfold pcC
    rw [d2, b4, n7]
    have := cr.1.1
    omega
  have p21C : pcC p21.2 = pcC P + 2 := by
    unfold pcC
    rw [i2, g2]
    have := crP.1.1
    omega
  have RC : pcC R = pcC X + 1 := by
    unfold pcC
    rw [k4]
    have := crX.1.1
    omega
  have zC : pcR z = pcR s + 1 := by
    unfold pcR
    rw [z20]
    have := s20.1
    omega
  have kC : pcR k = pcR u + 1 := by
    unfold pcR
    rw [k20]
    have := pj.1
    omega
  have VC : pcR V = pcR v + 1 := by
    unfold pcR
    rw [v2]
    have := evX.p20.1
    omega
  have pv : ((pcR v : Nat) : Int) = (v.i 20).toInt := Int.toNat_of_nonneg evX.p20.1
  have lSP := f1.1.1
  have l2X := m1.1.1
  have l9 : (p9.2.i 20).toInt = (S.i 20).toInt + 1 := by rw [d2, b4, n7]
  have l21' : (p21.2.i 20).toInt = (P.i 20).toInt + 2 := by rw [i2, g2]; omega
  -- the code at the end
  have aS := fc.2.1 (pcC S) (by omega) (by rw [k4]; omega)
  have aP := fc.2.1 (pcC P) (by omega) (by rw [k4]; omega)
  have aP1 := fc.2.1 (pcC P + 1) (by omega) (by rw [k4]; omega)
  have aX := fc.2.1 (pcC X) (by omega) (by rw [k4]; omega)
  have cPR : CD1 3 (-1) P R := ((cP21.tr m1).tr k1).wk (by omega) (by omega)
  have ib0 : ib w0.1 1024 := ⟨by have := cr.2.1; omega, by have := cr.2.2; omega⟩
  have gA : ∀ A : Nat → Int32, gAt A 1024 w0.1 = A w0.1.toNatClampNeg := fun A => by
    unfold gAt
    rw [if_pos ib0]
  have ck := clampI ib0.1
  have kR : (R.a 17 w0.1.toNatClampNeg).toInt = (X.i 20).toInt + 1 := by
    have z := k3
    unfold cTg at z
    rw [gA] at z
    exact z
  have tg : (cTg SF w0.1).toInt = ((pcC R : Nat) : Int) := by
    unfold cTg
    rw [gA, fc.2.2 _ (by omega) (by rw [k6]; omega) (Or.inl (by rw [kR]; omega)), kR]
    omega
  have p5C : pcC p5.2 = pcC S := by
    unfold pcC
    rw [b4, n7]
  have p17C : pcC p17.2 = pcC P + 1 := by
    unfold pcC
    rw [g2]
    have := crP.1.1
    omega
  have qC : pcR q = pcR s := by
    unfold pcR
    rw [b6]
  rw [p5C] at d3 d3'
  rw [p17C] at i3 i3'
  rw [qC] at s4 s5
  have x9 := ((f1.tr cPR).2.1 (pcC S) (by omega))
  have x17 := (((i1.tr m1).tr k1).2.1 (pcC P) (by rw [g2]; omega))
  have x21 := ((m1.tr k1).2.1 (pcC P + 1) (by omega))
  have fr1 : (V.i 20).toInt ≤ (U.i 20).toInt := fr.1.2.1
  have cuv : CD2 (u.i 20).toInt u v := cuk.tr (m3.wk (by omega))
  have czv : CD2 (z.i 20).toInt z v := f3.tr (cuv.wk (by omega))
  have uS := fr.2.1 (pcR s) (by omega) (by omega)
  have uP := fr.2.1 (pcR u) (by omega) (by omega)
  have uX := fr.2.1 (pcR v) (by omega) (by omega)
  have VI : (V.i 20).toInt = ((pcR V : Nat) : Int) := by omega
  have o1 : U.a 21 (pcR s) = 22 := by rw [uS.1, (v4 _ (by omega)).1, (czv.2.1 (pcR s) (by omega)).1, (qe_eq qz).2.1]; exact s4
  have o2 : U.a 21 (pcR u) = 14 := by rw [uP.1, (v4 _ (by omega)).1, (m3.2.1 (pcR u) (by omega)).1, (qe_eq qk).2.1]; exact t4
  have fcP : FGC p9.2 P SF := fc.sub cS9 cPR (fun kk h1 h2 => by
    rw [k2 kk (by omega), m2 kk (by omega) (by omega), i4, g4])
  have fcX : FGC p21.2 X SF := fc.sub cS21 k1 (fun kk h1 h2 => k2 kk (by omega))
  have frz : FGR z u U := fr.sub csz cuV (fun jj h1 h2 => by
    have a := v4 jj (by omega)
    have b := cuv.2.1 jj h2
    exact ⟨a.1.trans b.1, (a.2.2 (by omega) (by omega)).trans b.2.1, a.2.1.trans b.2.2⟩)
  have frk : FGR k v U := fr.sub csk cvV (fun jj h1 h2 => by
    have a := v4 jj h2
    exact ⟨a.1, a.2.2 (by omega) (by omega), a.2.1⟩)
  have n50 := hv.2.1.1
  have ngz : NMG nm c p9.2 z := ng.mv n50 cS9 csz tz.1.1.2.2.2.1 (fun jj hjj => (tz.1.2.1 jj hjj).2.1) (by rw [z19]; exact Int.le_refl _)
  have ngk : NMG nm c p21.2 k := ng.mv n50 cS21 csk tk.1.1.2.2.2.1 (fun jj hjj => (tk.1.2.1 jj hjj).2.1) (by rw [k19]; exact Int.le_refl _)
  have bX : (X.i 20).toInt < 1200 := by
    have := fc.1.2
    rw [k4] at this
    omega
  have zX : GU FC SF U nm X' (pcC X) (pcR v) (h + 1) (w2 + 1) 0 c := by
    have pq : PQX SF U (pcC X) (pcR v) := ⟨by omega, by omega, fr.1.2.2⟩
    have e3 : (3 : Int32).toInt = 3 := by decide
    refine gi_URai (pq.hc (hc.up (Nat.le_succ _))) pq.2.1 ⟨h, w2 - 1, rfl, by omega, hc.2.2.2, ty.up (by omega), ?_, ?_, ?_, ?_, ?_⟩
    · rw [aX.1]
      exact k5
    · rw [uX.1]
      exact v3
    · rw [aX.2, uX.2.1, k5', v3']
    · rw [aX.2, k5', e3]
      omega
    · rw [aX.2, k5', e3]
      omega
  have z21 := r2 FC SF nm X' c h (w2 + 1) W 0 ps'.2 fcX frk ngk hc (by omega) ty (by omega) True.intro zX
  rw [p21C, kC] at z21
  have zP : GU FC SF U nm X' (pcC P) (pcR u) (h + 1) (w2 + 1 + (pcC X - (pcC P + 2)) + 2) 2 c := by
    have pq : PQX SF U (pcC P) (pcR u) := ⟨by omega, by omega, fr.1.2.2⟩
    refine gi_UJnf (pq.hc (hc.up (Nat.le_succ _))) pq.2.1 ⟨⟨?_, ?_, o2, by omega⟩, rfl, h, rfl, ⟨pcC R, pcR V, w, ⟨?_, ?_⟩, by omega, hg.1⟩, ⟨_, Nat.le_refl _, z21⟩⟩
    · rw [aP.1, x17.1]
      exact g3
    · rw [aP1.1, x21.1]
      exact i3
    · rw [aP1.2, x21.2, i3']
      exact tg
    · rw [uP.2.1, v6]
      exact VI
  have z9 := r1 FC SF nm X' c h (w2 + 1 + (pcC X - (pcC P + 2)) + 2) W 0 ps'.1 fcP frz ngz hc (by omega) ty (by omega) True.intro zP
  rw [p9C, zC] at z9
  have pq : PQX SF U (pcC S) (pcR s) := ⟨by omega, by omega, fr.1.2.2⟩
  rw [RC, show w2 + (pcC X + 1 - pcC S) = w2 + 1 + (pcC X - (pcC P + 2)) + 2 + (pcC P - (pcC S + 1)) + 1 by omega]
  refine gi_UAsr (pq.hc hc) pq.2.1 ⟨?_, o1, ⟨pcC R, pcR V, w, ⟨?_, ?_⟩, by omega, hg.1⟩, ⟨_, Nat.le_refl _, z9⟩⟩
  · rw [aS.1, x9.1]
    exact d3
  · rw [aS.2, x9.2, d3']
    exact tg
  · rw [uS.2.1, v5]
    exact VI
set_option maxHeartbeats 4000000 in
theorem sx_assert {N : Nat} (hN : 1000 ≤ N) {E1 : CS → Option (Unit × CS)} {E2 : CS → Option (Int32 × CS)} (hm1 : ∀ σ, Kf (CS.i σ 32) (E1 σ)) (hm2 : ∀ σ, Kf (CS.i σ 32) (E2 σ)) (hE : SXR N 18 E1) (hE2 : SXN N 22 E2) : SXK N 8 217 (fun S s => (S.i 21).toInt ≤ 3 * (s.i 11).toInt) (f_X7_claim N E1 E2) (fun U S s R u => R.i 36 = 1 ∧ CDG (-1) (fun FC SF nm X c h w2 => JGO U R u FC SF nm X c h w2 ∧ JK3 U s FC SF nm X c h w2) U S s R u) := by
  intro d S s U n t R hv h21 h36 ht hk hs h2 h43 e g
  obtain ⟨m, V, hV, g2⟩ := rl_8 g ht hv.1.2.1 hk
  unfold f_X12_asserted at hV
  obtain ⟨hib, hV⟩ := hf_ite hV
  have t9 : t < 1000 := by
    have h2 : (s.i 63).toInt = (t : Int) := ht
    have := hib.2
    omega
  rw [tp_nat ht, if_pos hs] at hV
  obtain ⟨q, hq, hV⟩ := hf_bind hV
  obtain ⟨y, hy, hV⟩ := hf_bind hV
  rw [ob_id] at hV
  unfold f_X7_claim at e
  obtain ⟨w0, e0, e⟩ := hf_bind e
  obtain ⟨p5, e5, e⟩ := hf_bind e
  obtain ⟨p9, e9, e⟩ := hf_bind e
  obtain ⟨p13, e13, e⟩ := hf_bind e
  obtain ⟨p17, e17, e⟩ := hf_bind e
  obtain ⟨p21, e21, e⟩ := hf_bind e
  obtain ⟨p25, e25, e⟩ := hf_bind e
  obtain ⟨a1, tq, fq, kq, cq, l11, pq, q17, q19⟩ := y_ntx hN hv ht (by omega) (by rw [h43]; decide) e0 e5 hq
  obtain ⟨b1, c1, -, -⟩ := y_add a1 e9
  obtain ⟨n1, n2, n3, n4, n5, n6, n7, n8, n9, n10', -⟩ := y_emit b1 tq (by omega) hy
  have s20 := hv.2.2.2.2.2.2.1
  have q20 : (s.i 20).toInt ≤ (q.i 20).toInt := kq.2.1
  have y66 : (RS.setA y.2 66 t y.1).a 66 t = y.1 := setA_at
  have ey : ENV d p9.2 (RS.setA y.2 66 t y.1) := setA_env (Or.inr (by omega)) n1
  have fy : FRB t y.2 (RS.setA y.2 66 t y.1) := setA_frb (Or.inr ⟨by omega, by omega, Nat.le_refl _⟩)
  have ky : TBK y.2 (RS.setA y.2 66 t y.1) := setA_tbk (by omega)
  have y64 : (RS.setA y.2 66 t y.1).a 64 t = 8 := (n3 (t + 1) t (by omega)).1.trans ((fq (t + 1) t (by omega)).1.trans hk)
  obtain ⟨z, hz⟩ : ∃ z, z = RS.setA y.2 66 t y.1 := ⟨_, rfl⟩
  have iz : z.i = y.2.i := by rw [hz]; rfl
  have qz : qe z = qe y.2 := by rw [hz]; rfl
  rw [← hz] at hV y66 ey fy ky y64
  clear hz
  have tz : tpI z = t := by
    show (z.i 63).toInt = (t : Int)
    rw [iz]
    exact n2
  have pz : phI z = phI s + 2 := by
    have : phI z = phI y.2 := by unfold phI; rw [iz]
    omega
  have fin74 : ∀ {X : CS}, ¬ X.i 32 = 0 → f_X7_claim_74 N E1 E2 X w0.1 = some R → ¬ R.2.i 32 = 0 := fun z e => by rw [kF_X7_claim_74 N E1 E2 hm1 hm2 _ w0.1 R e z]; exact z
  have f25 : ¬ p25.2.i 32 = 0 → ¬ R.2.i 32 = 0 := fun z => by
    by_cases c : p25.1 = 0
    · rw [if_pos c] at e
      obtain ⟨w, ew, e⟩ := hf_bind e
      exact fin74 (by rw [fst_add ew]; exact z) e
    · rw [if_neg c] at e
      obtain ⟨w, ew, e⟩ := hf_bind e
      exact fin74 (by rw [kF_X1_expression N E1 E2 hm1 hm2 p25.2 w ew z]; exact z) e
  have f13 : ¬ p13.2.i 32 = 0 → ¬ R.2.i 32 = 0 := fun z => by
    have z1 : ¬ p17.2.i 32 = 0 := by rw [fst_add e17]; exact z
    have z2 : ¬ p21.2.i 32 = 0 := by rw [fst_add e21]; exact z1
    exact f25 (by rw [kF_X1_skip N p21.2 58 p25 e25 z2]; exact z2)
  rcases y_cond hN hm1 hm2 hE2 ey tz (by omega) e13 hV g2 with ⟨x1, x2⟩ | ⟨m2, u, g3, ⟨w1, w2, ⟨f0, f1, f2, -⟩, w4, w5, w6, w7, w8, w9, w10⟩, -, -, xc⟩
  · exact Or.inl ⟨f13 x1, x2⟩
  obtain ⟨m3, V3, hV3, g4⟩ := rl_8 g3 w2 w1.1.2.1 (f0.trans y64)
  unfold f_X12_asserted at hV3
  obtain ⟨-, hV3⟩ := hf_ite hV3
  rw [tp_nat w2, if_neg (show ¬ u.a 65 t = 0 by rw [f1]; decide), if_pos f1] at hV3
  obtain ⟨j, hj, hV3⟩ := hf_bind hV3
  obtain ⟨j1, j2, j3, j4, j5, j6, j7, j8, j9, j10, j11⟩ := y_emit w1 w2 (by omega) hj
  obtain ⟨a17, c17, i17, -⟩ := y_add j1 e17
  obtain ⟨a21, c21, i21, -⟩ := y_add a17 e21
  -- behind the condition: the frame's second mark
  obtain ⟨k, hk2⟩ : ∃ k, k = RS.setA j.2 67 t j.1 := ⟨_, rfl⟩
  have ek : ENV d p21.2 k := by rw [hk2]; exact setA_env (Or.inr (by omega)) a21
  have fk : FRB t j.2 k := by rw [hk2]; exact setA_frb (Or.inr ⟨by omega, by omega, Nat.le_refl _⟩)
  have kk : TBK j.2 k := by rw [hk2]; exact setA_tbk (by omega)
  have ik : k.i = j.2.i := by rw [hk2]; rfl
  have qk : qe k = qe j.2 := by rw [hk2]; rfl
  have k67 : k.a 67 t = j.1 := by rw [hk2]; exact setA_at
  have k66 : k.a 66 t = y.1 := by
    rw [hk2]
    show j.2.a 66 t = y.1
    rw [(j3 (t + 1) t (by omega)).2.2.1, f2]
    exact y66
  have k64 : k.a 64 t = 8 := by
    rw [hk2]
    show j.2.a 64 t = 8
    rw [(j3 (t + 1) t (by omega)).1, f0]
    exact y64
  rw [← hk2] at hV3
  clear hk2
  have tk : tpI k = t := by
    show (k.i 63).toInt = (t : Int)
    rw [ik]
    exact j2
  have pk : phI k = phI u - 1 := by
    have : phI k = phI j.2 := by unfold phI; rw [ik]
    omega
  have u20 : (y.2.i 20).toInt ≤ (u.i 20).toInt := by
    have := w5.2.1
    rw [iz] at this
    exact this
  have k20 : (k.i 20).toInt = (u.i 20).toInt + 1 := by rw [ik]; exact j7
  have y1i : y.1.toInt = (q.i 20).toInt := by rw [n6]
  have j1i : j.1.toInt = (u.i 20).toInt := by rw [j6]
  have tbk : TBK s k := ((((kq.tr n4).tr ky).tr w5).tr j4).tr kk
  have frk : FRB t s k := (((((fq t).tr (n3 t)).tr fy).tr w4).tr (j3 t)).tr fk
  have ckk : CKX S p21.2 := (((cq.tr c1).tr w6).tr c17).tr c21
  have k11 : (s.i 11).toInt + 1 ≤ (k.i 11).toInt := by
    rw [ik, j8]
    rw [iz, n8] at w7
    omega
  have k17 : (s.i 17).toInt + 1 ≤ (k.i 17).toInt := by
    rw [ik, j9]
    rw [iz, n9] at w9
    omega
  have k19 : k.i 19 = s.i 19 := by rw [ik, j10, w10, iz, n10', q19]
  have w8' : phI s + 3 ≤ phI u := by omega
  -- the last steps
  have last : ∀ (X : CS) (v V4 : RS) (m4 : Nat), ENV d X v → tpI v = t → v.a 64 t = 8 → v.a 65 t = 2 → v.a 66 t = y.1 → v.a 67 t = j.1 → FRB t k v → TBK k v → CKX p21.2 X → CDM U p21.2 k X v → (k.i 11).toInt ≤ (v.i 11).toInt → 1 ≤ phI v → phI s - 1 ≤ phI v → (k.i 17).toInt ≤ (v.i 17).toInt → v.i 19 = k.i 19 → f_X7_claim_74 N E1 E2 X w0.1 = some R → f_X12_parse_10 N m4 v = some U → (¬ R.2.i 32 = 0 ∧ ¬ U.i 15 = 0) ∨ ∃ (m : Nat) (u : RS), f_X12_parse_10 N m u = some U ∧ XO d t S s (CS.setI R.2 36 1) u ∧ (u.i 75 = R.2.i 36 ∧ (R.2.i 36 = 0 ∨ R.2.i 36 = 1)) ∧ R.2.i 36 = 1 ∧ CDG (-1) (fun FC SF nm X c h w2 => JGO U R.2 u FC SF nm X c h w2 ∧ JK3 U s FC SF nm X c h w2) U S s R.2 u := fun X v V4 m4 h1 h2 h3 h4 h5 h6 h7 h8 h9 hm h10 h11 h12 h13 h14 eX gX => by
    obtain ⟨m5, V5, hV5, g6⟩ := rl_8 gX h2 h1.1.2.1 h3
    have v20 := h8.2.1
    rcases y_ast2 (c0 := (s.i 20).toInt) hN h1 h2 t9 h11 h4 ⟨by omega, by rw [h5]; omega, by rw [h6]; omega⟩ (by omega) eX hV5 with ⟨z1, z2⟩ | ⟨o1, o2, o3, o4, o5, o6, o7, o8, o9, o10, o11, o12, ast⟩
    · exact Or.inl ⟨z1, u_flt g6 z2⟩
    · have ck : CKX S R.2 := (ckk.tr h9).tr o6
      refine Or.inr ⟨m5, V5, g6, ⟨o1.s36, o2, (frk.tr h7).tr o3, ⟨(tbk.1.tr h8.1).tr o4, (tbk.2.tr (h8.2.wk (by omega))).tr o5⟩, ck.s36 h36, by omega, by omega, by omega, by rw [o11, h14, k19]⟩, ?_, by rw [ck.1.2.1]; exact h36, ?_⟩
      rotate_left
      · rw [h5, h6] at ast
        have z19 : z.i 19 = s.i 19 := by rw [iz, n10', q19]
        exact cdg_ast hN hv h43 e0 (hv.nt (by omega) e0).1 (nt_i e0).2.1 e5 hq a1 (by omega) e9 hy qz xc.1 w1 (by omega) e17 e21 hj qk ek hm h1 ast ((kq.tr n4).tr ky) tbk (by rw [iz, n8]; omega) (by omega) z19 k19
      rw [o7, ck.1.2.1]
      exact ⟨h36.symm, Or.inr h36⟩
  have i58 := tk_is ek (a := 58) (b := 58) (Or.inl ⟨by decide, by decide⟩) (by decide)
  by_cases c58 : p21.2.i 43 = 58
  · have t58 := i58.mp c58
    rw [if_pos (show j.2.i 10 = 58 by rw [← ik]; exact t58)] at hV3
    obtain ⟨b, eb, hb⟩ := e_skip1 c58 e25
    rw [hb, if_neg n10] at e
    obtain ⟨r, er, e⟩ := hf_bind e
    obtain ⟨q2, hq2, hV3⟩ := hf_bind hV3
    rw [ob_id] at hV3
    obtain ⟨d1, d2, d3, d4, d5, d6, d7, d8, d9⟩ := y_nx hN ek tk (by rw [c58]; decide) eb hq2
    rcases y_expr hN hm1 hm2 hE d1 d2 (by omega) er hV3 g4 with ⟨x1, x2⟩ | ⟨m4, v, g5, ⟨y1, y2, ⟨r0, r1, r2, r3, -⟩, y4, y5, y6, y7, y8, y9, y10⟩, xe⟩
    · exact Or.inl ⟨fin74 x1 e, x2⟩
    · obtain ⟨l1, l2, l3, l4, -, l6, -⟩ := adv_cd hN ek (by rw [c58]; decide) eb hq2
      have cm : CDM U p21.2 k r.2 v := cdm_pre xe l1 (by omega) (by omega) (l2 _ _) l3 l4 l6 ek.2.1.1 d4.1.1.2.2.2.1 (fun jj hjj => (d4.1.2.1 jj hjj).2.1) (by omega) (by rw [d9]; exact Int.le_refl _)
      exact last r.2 v V3 m4 y1 y2 (r0.trans ((d3 (t + 1) t (by omega)).1.trans k64)) r1 (r2.trans ((d3 (t + 1) t (by omega)).2.2.1.trans k66)) (r3.trans ((d3 (t + 1) t (by omega)).2.2.2.1.trans k67)) ((d3 t).tr y4) (d4.tr y5) (d5.tr y6) cm (by omega) (by omega) (by omega) (by omega) (y10.trans d9) e g5
  · have t58 : ¬ k.i 10 = 58 := fun z => c58 (i58.mpr z)
    rw [if_neg (show ¬ j.2.i 10 = 58 by rw [← ik]; exact t58)] at hV3
    rw [e_skip0 c58] at e25
    cases e25
    have e' : ((f_X0_add N p21.2 0 0).bind fun p30 => f_X7_claim_74 N E1 E2 p30.2 w0.1) = some R := (if_pos rfl).symm.trans e
    obtain ⟨r, er, e'⟩ := hf_bind e'
    obtain ⟨x, hx, hV3⟩ := hf_bind hV3
    cases hV3
    obtain ⟨b1', b2', b3', b4', b5', b6', b7', b8', b9', b10', -⟩ := y_emit ek tk (by omega) hx
    obtain ⟨ar, cr, -, -⟩ := y_add b1' er
    obtain ⟨v, hv2⟩ : ∃ v, v = RS.setA x.2 65 t 2 := ⟨_, rfl⟩
    have ev : ENV d r.2 v := by rw [hv2]; exact setA_env (Or.inr (by omega)) ar
    have fv : FRB t x.2 v := by rw [hv2]; exact setA_frb (Or.inr ⟨by omega, by omega, Nat.le_refl _⟩)
    have kv : TBK x.2 v := by rw [hv2]; exact setA_tbk (by omega)
    have iv : v.i = x.2.i := by rw [hv2]; rfl
    have qv : qe v = qe x.2 := by rw [hv2]; rfl
    have v65 : v.a 65 t = 2 := by rw [hv2]; exact setA_at
    have v6x : ∀ k : Nat, ¬ k = 65 → v.a k t = x.2.a k t := fun k h => by rw [hv2]; exact congrFun (setA_nk h) t
    rw [← hv2] at g4
    clear hv2
    have pv : phI v = phI k - 1 := by
      have : phI v = phI x.2 := by unfold phI; rw [iv]
      omega
    refine last r.2 v V m3 ev ?_ ?_ v65 ?_ ?_ ((b3' t).tr fv) (b4'.tr kv) cr (cdm_psh ek (by omega) er hx qv) (by rw [iv, b8']; exact Int.le_refl _) (by omega) (by omega) (by rw [iv, b9']; exact Int.le_refl _) (by rw [iv, b10']) e' g4
    · show (v.i 63).toInt = (t : Int)
      rw [iv]
      exact b2'
    · rw [v6x 64 (by decide), (b3' (t + 1) t (by omega)).1]
      exact k64
    · rw [v6x 66 (by decide), (b3' (t + 1) t (by omega)).2.2.1]
      exact k66
    · rw [v6x 67 (by decide), (b3' (t + 1) t (by omega)).2.2.2.1]
      exact k67
end
section
/-! both readers: a name gets a value -/
theorem gat_k {A : Nat → Int32} {x : Int32} {k : Nat} (h : x.toInt = (k : Int)) (l : (k : Int) < 128) : gAt A 128 x = A k := by
  unfold gAt
  rw [if_pos (show ib x 128 from ⟨by omega, by omega⟩)]
  show A x.toInt.toNat = A k
  rw [h, Int.toNat_natCast]
/-- found, and not one of a catch -/
theorem y_got {N : Nat} {d : Int32} {S : CS} {s : RS} {l : Int64} {w : Int32} {P : Int32 × CS} {Q : Int32 × RS} (h : ENV d S s) (e : f_X4_find N S l = some P) (g : f_X12_got N s l w = some Q) : P.2 = S ∧ ((P.1 < 0 ∧ ¬ Q.2.i 15 = 0) ∨ (¬ P.1 < 0 ∧ ∃ C : Int32 × CS, f_X4_isCaught N S P.1 = some C ∧ C.2 = S ∧ ((C.1 = 0 ∧ Q.2 = s ∧ ∃ k : Nat, P.1.toInt = (k : Int) ∧ (k : Int) < (s.i 38).toInt ∧ (S.a 49 k).toInt < 0 ∧ Q.1 = s.a 40 k) ∨ (¬ C.1 = 0 ∧ ¬ Q.2.i 15 = 0)))) := by
  have h15 := h.1.2.1
  unfold f_X12_got at g
  obtain ⟨q, gq, g⟩ := hf_bind g
  obtain ⟨z1, z2, z3, z4, z5⟩ := y_find h e gq
  have r22 : f_X12_got_22 N s w = some Q → ¬ Q.2.i 15 = 0 := fun g => by
    unfold f_X12_got_22 at g
    rw [e_fail, ob_some, if_pos h15] at g
    cases g
    show ¬ (3 : Int32) = 0
    decide
  refine ⟨z1, ?_⟩
  by_cases c : P.1 < 0
  · rw [if_pos (show q.1 < 0 by rw [← z3]; exact c), z2] at g
    exact Or.inl ⟨c, r22 g⟩
  · rw [if_neg (show ¬ q.1 < 0 by rw [← z3]; exact c), z2] at g
    obtain ⟨hib2, g⟩ := hf_ite g
    have em : (-1 : Int32).toInt = -1 := by decide
    obtain ⟨k, k1, k3, -, -⟩ := z4.resolve_left (fun z => by
      refine c ?_
      rw [z, Int32.lt_iff_toInt_lt, z_t0, em]
      omega)
    have hk := nms_hi h
    have Qk : q.1.toNatClampNeg = k := by
      show q.1.toInt.toNat = k
      rw [← z3, k1]
      exact Int.toNat_natCast _
    have cau := (h.2.1.2.2.1 k k3).2
    have gat : gAt (S.a 49) 128 P.1 = S.a 49 k := by
      unfold gAt
      rw [if_pos (show ib P.1 128 from ⟨by omega, by omega⟩)]
      show S.a 49 P.1.toInt.toNat = S.a 49 k
      rw [k1, Int.toNat_natCast]
    rw [Qk] at g
    refine Or.inr ⟨c, ?_⟩
    unfold f_X4_isCaught
    rw [gat]
    by_cases cc : s.a 41 k = 0
    · rw [if_pos cc] at g
      have lt : S.a 49 k < 0 := by
        rw [Int32.lt_iff_toInt_lt, z_t0]
        by_cases z : 0 ≤ (S.a 49 k).toInt
        · exact absurd cc (cau.mp z)
        · omega
      cases g
      exact ⟨(0, S), if_pos lt, rfl, Or.inl ⟨rfl, rfl, k, k1, k3, by have z := lt_int lt; rw [z_t0] at z; exact z, rfl⟩⟩
    · rw [if_neg cc] at g
      have nlt : ¬ S.a 49 k < 0 := fun z => by
        have z' := lt_int z
        rw [z_t0] at z'
        have := cau.mpr cc
        omega
      exact ⟨(1, S), if_neg nlt, rfl, Or.inr ⟨n10, r22 g⟩⟩
/-- NAME = EXPR; or NAME ++; -/
theorem y_assign {N : Nat} (hN : 1000 ≤ N) {E1 : CS → Option (Unit × CS)} {E2 : CS → Option (Int32 × CS)} (hm1 : ∀ σ, Kf (CS.i σ 32) (E1 σ)) (hm2 : ∀ σ, Kf (CS.i σ 32) (E2 σ)) (hE : SXR N 18 E1) {d : Int32} {X : CS} {q V U : RS} {n t : Nat} {l : Int64} {w pl : Int32} {R : Unit × CS} (hv : ENV d X q) (tq : tpI q = t) (t9 : t < 1000) (hk : q.a 64 t = 5) (h3 : 2 ≤ phI q) (e : ((f_X7_change N E1 E2 X l pl 1).bind fun p39 => (f_X1_expect N p39.2 59).bind fun p43 => some ((), p43.2)) = some R) (hV : ((f_X12_got N q l w).bind fun p7 => (if (p7.2.i 15) = 0 then (if (p7.2.i 10) = 61 then (f_X12_can N p7.2 1).bind fun p11 => (if p11.1 = 0 then some p11.2 else f_X12_named_183 N p11.2 (q.i 63) p7.1) else (if (p7.2.i 10) = 307 then (f_X12_can N p7.2 1).bind fun p33 => (if p33.1 = 0 then some p33.2 else f_X12_named_183 N p33.2 (q.i 63) p7.1) else (f_X12_can N p7.2 0).bind fun p30 => (if p30.1 = 0 then some p30.2 else f_X12_named_183 N p30.2 (q.i 63) p7.1))) else some p7.2)) = some V) (g : f_X12_parse_10 N n V = some U) : (¬ R.2.i 32 = 0 ∧ ¬ U.i 15 = 0) ∨ ∃ (m : Nat) (u : RS), f_X12_parse_10 N m u = some U ∧ XO d t X q R.2 u ∧ u.i 75 = 1 ∧ ∃ y : Int32 × RS, f_X12_emit N q 1 0 = some y ∧ CDG (-1) (JGO U R.2 u) U X y.2 R.2 u := by
  have q15 := hv.1.2.1
  obtain ⟨p39, e39, e⟩ := hf_bind e
  obtain ⟨p43, e43, e⟩ := hf_bind e
  cases e
  have flt : ¬ p39.2.i 32 = 0 → ¬ p43.2.i 32 = 0 := fun z => by rw [kF_X1_expect N p39.2 59 p43 e43 z]; exact z
  obtain ⟨Q, hQ, hV⟩ := hf_bind hV
  unfold f_X7_change at e39
  obtain ⟨P, eP, e39⟩ := hf_bind e39
  obtain ⟨z1, z2⟩ := y_got hv eP hQ
  rw [z1] at e39
  have i61 := tk_is hv (a := 61) (b := 61) (Or.inl ⟨by decide, by decide⟩) (by decide)
  have i307 := tk_is hv (a := 135) (b := 307) (Or.inl ⟨by decide, by decide⟩) (by decide)
  -- what the class does, by what stands there
  have cls : (f_X7_change_41 N E1 E2 X pl P.1 1 = some p39 ∧ (X.i 43 = 61 ∨ X.i 43 = 135)) ∨ (f_X7_change_41 N E1 E2 X pl P.1 0 = some p39 ∧ ¬ X.i 43 = 61 ∧ ¬ X.i 43 = 135) := by
    by_cases c1 : X.i 43 = 61
    · rw [e_fnd1 c1, ob_some, if_neg n10] at e39
      exact Or.inl ⟨e39, Or.inl c1⟩
    · rw [e_fnd0 c1, ob_some, if_pos rfl, if_neg n10] at e39
      by_cases c2 : X.i 43 = 135
      · rw [e_fnd1 c2, ob_some, if_neg n10] at e39
        exact Or.inl ⟨e39, Or.inr c2⟩
      · rw [e_fnd0 c2, ob_some, if_pos rfl] at e39
        exact Or.inr ⟨e39, c1, c2⟩
  have f63 : ∀ Y : CS, f_X7_change_63 N E1 E2 Y pl = some p39 → ¬ p39.2.i 32 = 0 := fun Y h => by
    unfold f_X7_change_63 at h
    obtain ⟨f, ef, h⟩ := hf_bind h
    cases h
    exact y_fail (by decide) ef
  rcases z2 with ⟨y1, y2⟩ | ⟨y1, C, y2, y3, y4⟩
  · rw [if_neg y2] at hV
    cases hV
    refine Or.inl ⟨flt ?_, u_flt g y2⟩
    rcases cls with ⟨c, -⟩ | ⟨c, -, -⟩
    · unfold f_X7_change_41 at c
      rw [if_pos y1] at c
      exact f63 _ c
    · unfold f_X7_change_41 at c
      rw [if_pos y1] at c
      exact f63 _ c
  · rcases y4 with ⟨C0, Q2, kx, kx1, kx2, kx3, kx4⟩ | ⟨C1, Q15⟩
    · rw [Q2, if_pos q15] at hV
      rcases cls with ⟨c, ct⟩ | ⟨c, ct1, ct2⟩
      · unfold f_X7_change_41 at c
        rw [if_neg y1, if_neg n10, y2, ob_some, if_pos C0, y3] at c
        unfold f_X7_change_72 at c
        rw [if_neg n10] at c
        have go : f_X12_named_183 N q (q.i 63) Q.1 = some V := by
          rcases ct with ct | ct
          · have k := i61.mp ct
            rw [if_pos k, y_can1 q15 (by rw [k]; decide), ob_some, if_neg n10] at hV
            exact hV
          · have k := i307.mp ct
            rw [if_neg (show ¬ q.i 10 = 61 by rw [k]; decide), if_pos k, y_can1 q15 (by rw [k]; decide), ob_some, if_neg n10] at hV
            exact hV
        unfold f_X12_named_183 at go
        obtain ⟨y, hy, go⟩ := hf_bind go
        obtain ⟨n1, n2, n3, n4, n5, n6, n7, n8, n9, n10', n11⟩ := y_emit hv tq (by omega) hy
        by_cases c135 : X.i 43 = 135
        · have k := i307.mp c135
          rw [if_pos (show y.2.i 10 = 307 by rw [n11]; exact k)] at go
          unfold f_X12_named_207 at go
          obtain ⟨q2, hq2, go⟩ := hf_bind go
          rw [if_neg n10] at go
          obtain ⟨j, hj, go⟩ := hf_bind go
          obtain ⟨b, hb, go⟩ := hf_bind go
          rw [ob_id] at go
          obtain ⟨r, er, c⟩ := hf_bind c
          obtain ⟨v, ev, hr⟩ := e_skip1 c135 er
          rw [hr, if_neg n10] at c
          unfold f_X4_cellOf at c
          rw [ob_some] at c
          obtain ⟨x, ex, c⟩ := hf_bind c
          cases c
          obtain ⟨d1, d2, d3, d4, d5, d6, d7, d8, d9⟩ := y_nx hN n1 n2 (by rw [c135]; decide) ev hq2
          rcases y_tail hN d1 d2 t9 (by omega) ex e43 hj hb go with ⟨w1, w2⟩ | ⟨⟨w1, w2, w3, w4, w5, w6, w7, w8, w9, w10⟩, -, -, one⟩
          · exact Or.inl ⟨w1, u_flt g w2⟩
          · have l19 : (y.2.i 19).toInt ≤ (q2.i 19).toInt := by rw [d9]; exact Int.le_refl _
            have l11 : (y.2.i 11).toInt ≤ (q2.i 11).toInt := by omega
            rw [n8] at d6
            have hk8 := (nms_hi hv).2
            have n50 := hv.2.1.1
            obtain ⟨k1, k2, k3, k4, -, k6, -⟩ := adv_cd hN n1 (by rw [c135]; decide) ev hq2
            have y38 : y.2.i 38 = q.i 38 := n4.1.1.2.2.2.1
            have q38 : q2.i 38 = y.2.i 38 := d4.1.1.2.2.2.1
            have y40 : q2.a 40 kx = q.a 40 kx := ((d4.1.2.1 kx (by rw [y38]; exact kx2)).2.1).trans (n4.1.2.1 kx kx2).2.1
            have v48 := k1.2.2.2.2.1 kx (by rw [n50]; exact kx2)
            have cd := CDO.g <| one U (JGO U p43.2 V) (fun FC SF nm Xa c h w2 W g0 pq hc h6 ng ty hW x1 x2 x3 x4 x5 x6 tt => by
              obtain ⟨w, hw, hg⟩ := tt
              obtain ⟨a, b, y1, y2, y3⟩ := (ng.1 kx (by rw [q38, y38]; exact kx2)).1 (by rw [v48.2]; exact kx3)
              refine gi_UStor (pq.hc hc) pq.2.1 ⟨⟨a, b, ?_, ?_, y3⟩, Or.inr ⟨x1, x3, w, by omega, by rw [← x5, ← x6]; exact hg.1⟩⟩
              · rw [x2, gat_k kx1 (by omega)]
                exact y1
              · rw [x4, kx4, ← y40]
                exact y2)
            refine Or.inr ⟨n, V, g, ⟨w1, w2, ((n3 t).tr (d3 t)).tr (w3 t), (n4.tr d4).tr w4, d5.tr w5, by omega, by omega, ?_, by rw [w10, d9, n10']⟩, w6, y, hy, cd.pre k1 (by omega) (by omega) (by omega) (k2 _ _) k3 k4 k6 n1.2.1.1 q38 (fun j hj => (d4.1.2.1 j hj).2.1) l11 l19⟩
            rw [n9] at d8
            omega
        · have c61 := ct.resolve_right c135
          have k := i61.mp c61
          rw [if_neg (show ¬ y.2.i 10 = 307 by rw [n11, k]; decide)] at go
          unfold f_X12_named_207 at go
          obtain ⟨q2, hq2, go⟩ := hf_bind go
          rw [if_pos rfl] at go
          obtain ⟨-, go⟩ := hf_ite go
          rw [ob_id, tp_nat tq] at go
          rw [e_skip0 c135, ob_some] at c
          have c' : ((f_X9_advance N X).bind fun p22 => (f_X1_expression N E1 E2 p22.2).bind fun p26 => (f_X4_cellOf N p26.2 P.1).bind fun p30 => (f_X0_add N p30.2 2 p30.1).bind fun p34 => some ((), p34.2)) = some p39 := (if_pos rfl).symm.trans c
          obtain ⟨v, ev, c'⟩ := hf_bind c'
          obtain ⟨x, ex, c'⟩ := hf_bind c'
          unfold f_X4_cellOf at c'
          rw [ob_some] at c'
          obtain ⟨a, ea, c'⟩ := hf_bind c'
          cases c'
          obtain ⟨d1, d2, d3, d4, d5, d6, d7, d8, d9⟩ := y_nx hN n1 n2 (by rw [c61]; decide) ev hq2
          have s1 : ENV d v.2 (RS.setA q2 66 t Q.1) := setA_env (Or.inr (by omega)) d1
          have s2 : FRB t q2 (RS.setA q2 66 t Q.1) := setA_frb (Or.inr ⟨by omega, by omega, Nat.le_refl _⟩)
          have s3 : TBK q2 (RS.setA q2 66 t Q.1) := setA_tbk (by omega)
          have s64 : (RS.setA q2 66 t Q.1).a 64 t = 5 := (d3 (t + 1) t (by omega)).1.trans ((n3 (t + 1) t (by omega)).1.trans hk)
          rcases y_expr (q := RS.setA q2 66 t Q.1) hN hm1 hm2 hE s1 d2 (show 3 ≤ phI q2 by omega) ex go g with ⟨x1, x2⟩ | ⟨m2, u, g3, xo, xc⟩
          · refine Or.inl ⟨flt ?_, x2⟩
            show ¬ a.2.i 32 = 0
            rw [fst_add ea]
            exact x1
          · obtain ⟨w1, w2, ⟨f0, f1, f2, -⟩, w4, w5, w6, w7, w8, w9, w10⟩ := id xo
            obtain ⟨m3, V3, hV3, g4⟩ := rl_5 g3 w2 w1.1.2.1 (f0.trans s64)
            unfold f_X12_named at hV3
            obtain ⟨-, hV3⟩ := hf_ite hV3
            rw [tp_nat w2, if_neg (show ¬ u.a 65 t = 1 by rw [f1]; decide), if_pos f1] at hV3
            obtain ⟨j, hj, hV3⟩ := hf_bind hV3
            obtain ⟨b, hb, hV3⟩ := hf_bind hV3
            rw [ob_id] at hV3
            have w8' : phI q2 + 1 ≤ phI u := w8
            have w7' : (q2.i 11).toInt + 1 ≤ (u.i 11).toInt := w7
            rcases y_tail hN w1 w2 t9 (by omega) ea e43 hj hb hV3 with ⟨w1', w2'⟩ | ⟨tl, eun, -, -⟩
            · exact Or.inl ⟨w1', u_flt g4 w2'⟩
            · obtain ⟨x3, x4⟩ := xo.tl tl
              have l19 : (y.2.i 19).toInt ≤ (q2.i 19).toInt := by rw [d9]; exact Int.le_refl _
              have l11 : (y.2.i 11).toInt ≤ (q2.i 11).toInt := by omega
              have hk8 := (nms_hi hv).2
              have n50 := hv.2.1.1
              obtain ⟨k1, k2, k3, k4, -, k6, -⟩ := adv_cd hN n1 (by rw [c61]; decide) ev hq2
              have y38 : y.2.i 38 = q.i 38 := n4.1.1.2.2.2.1
              have q38 : q2.i 38 = y.2.i 38 := d4.1.1.2.2.2.1
              have y40 : q2.a 40 kx = q.a 40 kx := ((d4.1.2.1 kx (by rw [y38]; exact kx2)).2.1).trans (n4.1.2.1 kx kx2).2.1
              have v48 := k1.2.2.2.2.1 kx (by rw [n50]; exact kx2)
              have f66 : u.a 66 t = Q.1 := f2.trans setA_at
              have cdg : CDG (-1) (JGO U p43.2 V3) U X y.2 p43.2 V3 := by
                intro cr
                have z48 := (xc (cr.of k1 (by omega) (by omega))).1.2.2.2.2.1 kx (by rw [d1.2.1.1, q38, y38]; exact kx2)
                have eu := eun U v.2 (RS.setA q2 66 t Q.1) s1 xc w5 w10
                have cd : CDG 0 (JGO U p43.2 V3) U v.2 (RS.setA q2 66 t Q.1) p43.2 V3 := eu.cdg rfl rfl rfl rfl rfl rfl (fun FC SF nm Xa c h w2 W p q' hc h6 ty hW tt ng pq x1 x2 x3 x4 x5 x6 x7 => by
                  obtain ⟨w, hw, hg⟩ := tt
                  obtain ⟨a, b, y1, y2, y3⟩ := (ng.1 kx (show (kx : Int) < (q2.i 38).toInt by rw [q38, y38]; exact kx2)).1 (by rw [v48.2]; exact kx3)
                  have y2' : (q2.a 40 kx).toInt = (b : Int) := y2
                  refine gi_UStor (pq.hc (hc.up (Nat.le_succ _))) pq.2.1 ⟨⟨a, b, ?_, ?_, y3⟩, Or.inl ⟨x1, x3, h, rfl, w, by omega, by rw [x6, x7]; exact hg.1⟩⟩
                  · rw [x2, gat_k kx1 (by omega), z48.1]
                    exact y1
                  · rw [x4, f66, kx4, ← y40]
                    exact y2') (show (q2.i 11).toInt ≤ 900 from (i11_hi d1).2)
                exact (cd.pre (k' := -1) k1 (by omega) (by omega) (by omega) (k2 _ _) (fun c => (k3 c).tr (CD2.qe rfl)) k4 k6 n1.2.1.1 q38 (fun j hj => (d4.1.2.1 j hj).2.1) l11 l19) cr
              rw [n8] at d6
              rw [n9] at d8
              exact Or.inr ⟨m3, V3, g4, XO.pre (((n3 t).tr (d3 t)).tr s2) ((n4.tr d4).tr s3) d5 (show (q.i 11).toInt ≤ (q2.i 11).toInt by omega) (show phI q ≤ phI q2 by omega) (show (q.i 17).toInt ≤ (q2.i 17).toInt by omega) (show q2.i 19 = q.i 19 by rw [d9, n10']) x3, x4, y, hy, cdg⟩
      · have k1 : ¬ q.i 10 = 61 := fun z => ct1 (i61.mpr z)
        have k2 : ¬ q.i 10 = 307 := fun z => ct2 (i307.mpr z)
        rw [if_neg k1, if_neg k2] at hV
        obtain ⟨f, hf, hV⟩ := hf_bind hV
        obtain ⟨f1, f2⟩ := y_can0 hf
        rw [if_pos f1] at hV
        cases hV
        refine Or.inl ⟨flt ?_, u_flt g f2⟩
        unfold f_X7_change_41 at c
        rw [if_neg y1, if_pos rfl] at c
        unfold f_X7_change_72 at c
        rw [if_pos rfl] at c
        obtain ⟨x, ex, c⟩ := hf_bind c
        cases c
        exact y_misp ex
    · rw [if_neg Q15] at hV
      cases hV
      refine Or.inl ⟨flt ?_, u_flt g Q15⟩
      rcases cls with ⟨c, -⟩ | ⟨c, -, -⟩
      · unfold f_X7_change_41 at c
        rw [if_neg y1, if_neg n10, y2, ob_some, if_neg C1] at c
        exact f63 _ c
      · unfold f_X7_change_41 at c
        rw [if_neg y1, if_pos rfl] at c
        unfold f_X7_change_72 at c
        rw [if_pos rfl] at c
        obtain ⟨x, ex, c⟩ := hf_bind c
        cases c
        exact y_misp ex
end
section
/-! both readers: a name is told -/
theorem ENV.nm {N : Nat} {d : Int32} {S : CS} {s : RS} {l : Int64} {v y : Int32} {w : Unit × CS} {z : Int32 × RS} {c : Int32} (h : ENV d S s) (hb : 8 * ((s.i 38).toInt - 1) ≤ (s.i 11).toInt + 1) (hn : ∀ k : Nat, (k : Int) < (s.i 38).toInt → ¬ s.b 39 k = l) (hv : 0 ≤ v.toInt ↔ ¬ vp_nar .boolean y = 0) (e : f_X4_add N S l c v = some w) (g : f_X12_see N s l y = some z) : ENV d w.2 z.2 := by
  have hh := nms_hi h
  unfold f_X12_see at g
  obtain ⟨i1, g⟩ := hf_ite g
  cases g
  obtain ⟨⟨h1, h2, h3, h4, h5, h6, h7, h8⟩, ⟨n1, n2, n3, n4⟩, o, cc, ll, k, ⟨r1, r2, r3, r4, r5, r6, r7, r8, r9, r10, r11⟩⟩ := h
  have e128 : (128 : Int32).toInt = 128 := by decide
  unfold f_X4_add at e
  rw [if_neg (show ¬ 128 ≤ S.i 50 from fun q => by have := le_int q; rw [n1] at this; omega)] at e
  obtain ⟨i2, e⟩ := hf_ite e
  cases e
  have u38 : (s.i 38 + 1).toInt = (s.i 38).toInt + 1 := ad1 i1.1 (by omega)
  have ck := clampI i1.1
  refine ⟨⟨h1, h2, h3, h4, h5, h6, h7, h8⟩, ⟨?_, ?_, fun k hk => ?_, fun j k hj hk => ?_⟩, o, cc, ll, k, ⟨r1, r2, r3, r4, r5, r6, r7, r8.mv rfl rfl rfl rfl ⟨rfl, rfl, rfl⟩ r8.2.2.2.2.2.2 (Int.le_refl _), r9, r10, r11⟩⟩
  · show S.i 50 + 1 = s.i 38 + 1
    rw [n1]
  · show 2 ≤ (s.i 38 + 1).toInt ∧ 8 * ((s.i 38 + 1).toInt - 2) ≤ (s.i 11).toInt + 1
    omega
  · have hk' : (k : Int) < (s.i 38 + 1).toInt := hk
    show (if k = (S.i 50).toNatClampNeg then l else S.b 47 k) = (if k = (s.i 38).toNatClampNeg then l else s.b 39 k) ∧ (0 ≤ (if k = (S.i 50).toNatClampNeg then v else S.a 49 k).toInt ↔ ¬ (if k = (s.i 38).toNatClampNeg then vp_nar .boolean y else s.a 41 k) = 0)
    rw [n1]
    by_cases q : k = (s.i 38).toNatClampNeg
    · rw [if_pos q, if_pos q, if_pos q, if_pos q]
      exact ⟨rfl, hv⟩
    · rw [if_neg q, if_neg q, if_neg q, if_neg q]
      exact n3 k (by omega)
  · have hk' : (k : Int) < (s.i 38 + 1).toInt := hk
    show ¬ (if j = (s.i 38).toNatClampNeg then l else s.b 39 j) = (if k = (s.i 38).toNatClampNeg then l else s.b 39 k)
    rw [if_neg (show ¬ j = (s.i 38).toNatClampNeg by omega)]
    by_cases q : k = (s.i 38).toNatClampNeg
    · rw [if_pos q]
      exact hn j (by omega)
    · rw [if_neg q]
      exact n4 j k hj (by omega)
/-- the tellings: d ahead, or d + 1 -/
theorem ENV.ahead {d : Int32} {S : CS} {s : RS} {l : Int64} {t : Nat} (h : ENV d S s) : ENV (d + 1) S (RS.setB (RS.setI s 54 ((s.i 54) + 1)) 74 t l) := by
  obtain ⟨⟨h1, h2, h3, h4, h5, h6, h7, h8⟩, n, o, ⟨c1, c2, c3⟩, ll, k, r⟩ := h
  refine ⟨⟨h1, h2, h3, h4, h5, h6, h7, h8⟩, n, o, ⟨c1, c2, ?_⟩, ll, k, r⟩
  show S.i 25 + (d + 1) = s.i 54 + 1
  rw [← c3, Int32.add_assoc]
theorem ENV.told {d : Int32} {S : CS} {s : RS} (h : ENV (d + 1) S s) : ENV d (CS.setI S 25 ((S.i 25) + 1)) s := by
  obtain ⟨⟨h1, h2, h3, h4, h5, h6, h7, h8⟩, n, o, ⟨c1, c2, c3⟩, ll, k, ⟨r1, r2, r3, r4, r5, r6, r7, r8, r9, r10, r11⟩⟩ := h
  refine ⟨⟨h1, h2, h3, h4, h5, h6, h7, h8⟩, n, o, ⟨c1, c2, ?_⟩, ll, k, ⟨r1, r2, r3, r4, r5, r6, r7, r8.mv rfl rfl rfl rfl ⟨rfl, rfl, rfl⟩ r8.2.2.2.2.2.2 (Int.le_refl _), r9, r10, r11⟩⟩
  show S.i 25 + 1 + d = s.i 54
  rw [← c3, Int32.add_assoc, Int32.add_comm 1 d]
/-- a new name in both, or a fault in both; the class's name is the reference's fn -/
theorem y_newName {N : Nat} (hN : 1000 ≤ N) {d : Int32} {S : CS} {s : RS} {t : Nat} {P : Int64 × CS} {Q : Int32 × RS} (h : ENV d S s) (ht : tpI s = t) (e : f_X7_newName N S = some P) (g : f_X12_telling N s (s.i 63) = some Q) : (Q.1 = 0 ∧ ¬ P.2.i 32 = 0 ∧ ¬ Q.2.i 15 = 0) ∨ (Q.1 = 1 ∧ S.i 43 = 2 ∧ P.1 = s.l ∧ Q.2.b 74 t = s.l ∧ (∀ k : Nat, (k : Int) < (s.i 38).toInt → ¬ s.b 39 k = s.l) ∧ ENV (d + 1) P.2 Q.2 ∧ tpI Q.2 = t ∧ FRB t s Q.2 ∧ (∀ k : Nat, 64 ≤ k → k ≤ 73 → Q.2.a k t = s.a k t) ∧ TBK s Q.2 ∧ CKX S P.2 ∧ (s.i 11).toInt + 1 ≤ (Q.2.i 11).toInt ∧ phI Q.2 = phI s + 3 ∧ (Q.2.i 17).toInt = (s.i 17).toInt + 1 ∧ Q.2.i 19 = s.i 19) := by
  have h15 := h.1.2.1
  have i2 := tk_is h (a := 2) (b := 2) (Or.inl ⟨by decide, by decide⟩) (by decide)
  unfold f_X7_newName f_X7_newName_56 at e
  unfold f_X12_telling f_X12_telling_20 f_X12_telling_22 at g
  by_cases c : S.i 43 = 2
  · have k := i2.mp c
    have ll : S.l = s.l := h.1.2.2.2.1.2.2.2.2.1 c
    rw [e_fnd1 c, ob_some, if_neg n10] at e
    rw [if_pos k, y_can1 h15 (by rw [k]; decide), ob_some, if_neg n10] at g
    obtain ⟨F, eF, e⟩ := hf_bind e
    obtain ⟨G, gG, g⟩ := hf_bind g
    have eF' : f_X4_find N S s.l = some F := by rw [← ll]; exact eF
    obtain ⟨z1, z2, z3, z4, z5⟩ := y_find h eF' gG
    have em : (-1 : Int32).toInt = -1 := by decide
    by_cases cF : F.1 < 0
    · rw [if_pos cF, z1] at e
      rw [if_pos (show G.1 < 0 by rw [← z3]; exact cF), z2] at g
      obtain ⟨-, g⟩ := hf_ite g
      obtain ⟨a, ea, e⟩ := hf_bind e
      obtain ⟨b, gb, g⟩ := hf_bind g
      cases e
      cases g
      rw [tp_nat ht] at gb
      have ev := h.ahead (l := s.l) (t := t)
      have F1 : F.1 = -1 := by
        rcases z4 with q | ⟨k, k1, -⟩
        · exact q
        · exfalso
          have := lt_int cF
          rw [z_t0] at this
          omega
      obtain ⟨s1, hs1⟩ : ∃ y, y = RS.setB (RS.setI s 54 ((s.i 54) + 1)) 74 t s.l := ⟨_, rfl⟩
      rw [← hs1] at gb ev
      have i1 : ∀ k : Nat, k ≠ 54 → s1.i k = s.i k := by
        rw [hs1]
        exact fun k h => if_neg h
      have a1 : s1.a = s.a := by rw [hs1]; rfl
      have b1 : ∀ k : Nat, k ≠ 74 → s1.b k = s.b k := by
        rw [hs1]
        exact fun k h => if_neg h
      have b74 : s1.b 74 t = s.l := by
        rw [hs1]
        show (if t = t then s.l else s.b 74 t) = s.l
        exact if_pos rfl
      have b74j : ∀ j : Nat, ¬ j = t → s1.b 74 j = s.b 74 j := by
        rw [hs1]
        exact fun j h => if_neg h
      clear hs1
      have t1 : tpI s1 = t := by
        show (s1.i 63).toInt = (t : Int)
        rw [i1 63 (by decide)]
        exact ht
      obtain ⟨d1, d2, d3, d4, d5, d6, d7, d8, d9⟩ := y_nx hN ev t1 (by rw [c]; decide) ea gb
      have p1 : phI s1 = phI s := by
        unfold phI
        rw [i1 17 (by decide), i1 20 (by decide)]
      have fs : FRB t s s1 := fun j hj => ⟨by rw [a1], by rw [a1], by rw [a1], by rw [a1], by rw [a1], by rw [a1], by rw [a1], by rw [a1], by rw [a1], by rw [a1], b74j j (by omega)⟩
      have ks : TBK s s1 := ⟨⟨⟨i1 2 (by decide), i1 3 (by decide), i1 8 (by decide), i1 38 (by decide), i1 43 (by decide), i1 2 (by decide), i1 56 (by decide), by rw [a1], by rw [a1], b1 9 (by decide)⟩, fun j _ => ⟨by rw [b1 39 (by decide)], by rw [a1], by rw [a1]⟩, fun j _ => ⟨by rw [a1], by rw [b1 45 (by decide)], by rw [a1], by rw [a1], by rw [a1], by rw [a1], by rw [a1], by rw [a1]⟩, fun j _ => ⟨by rw [a1], by rw [a1]⟩, ⟨by rw [i1 59 (by decide)]; exact Int.le_refl _, fun j k1 k2 => by rw [i1 59 (by decide)] at k2; omega⟩, fun j _ => ⟨by rw [a1], by rw [a1], by rw [a1]⟩, by rw [i1 29 (by decide)]; exact Int.le_refl _, fun j _ => by rw [a1], by rw [i1 33 (by decide)]; exact Int.le_refl _, fun j _ => ⟨by rw [a1], by rw [a1]⟩, by rw [i1 24 (by decide)]; exact Int.le_refl _, fun j _ => ⟨by rw [a1], by rw [a1], by rw [a1]⟩⟩, by rw [i1 20 (by decide)]; exact Int.le_refl _, fun j _ => by rw [a1]⟩
      rw [i1 11 (by decide)] at d6
      rw [i1 17 (by decide)] at d8
      refine Or.inr ⟨rfl, c, ll, ((d3 (t + 1) t (by omega)).2.2.2.2.2.2.2.2.2.2).trans b74, z5 F1, d1, d2, fs.tr (d3 t), fun k k1 k2 => ?_, ks.tr d4, d5, d6, by rw [d7, p1], d8, by rw [d9, i1 19 (by decide)]⟩
      obtain ⟨f0, f1, f2, f3, f4, f5, f6, f7, f8, f9, -⟩ := d3 (t + 1) t (by omega)
      rw [a1] at f0 f1 f2 f3 f4 f5 f6 f7 f8 f9
      have : k = 64 ∨ k = 65 ∨ k = 66 ∨ k = 67 ∨ k = 68 ∨ k = 69 ∨ k = 70 ∨ k = 71 ∨ k = 72 ∨ k = 73 := by omega
      rcases this with q | q | q | q | q | q | q | q | q | q <;> rw [q]
      · exact f0
      · exact f1
      · exact f2
      · exact f3
      · exact f4
      · exact f5
      · exact f6
      · exact f7
      · exact f8
      · exact f9
    · rw [if_neg cF] at e
      rw [if_neg (show ¬ G.1 < 0 by rw [← z3]; exact cF), z2, e_fail, ob_some, if_pos h15] at g
      cases g
      obtain ⟨f, ef, e⟩ := hf_bind e
      cases e
      refine Or.inl ⟨rfl, y_fail (by decide) ef, ?_⟩
      show ¬ (4 : Int32) = 0
      decide
  · have k : ¬ s.i 10 = 2 := fun z => c (i2.mpr z)
    rw [e_fnd0 c, ob_some, if_pos rfl] at e
    rw [if_neg k] at g
    obtain ⟨f, ef, e⟩ := hf_bind e
    cases e
    obtain ⟨q, gq, g⟩ := hf_bind g
    obtain ⟨q1, q2⟩ := y_can0 gq
    rw [if_pos q1] at g
    cases g
    exact Or.inl ⟨rfl, y_misp ef, q2⟩
end
section
/-! both readers: int NAME = EXPR; -/
def RTE (S R : CS) : Prop := (R.i 21).toInt + 2 * (S.i 44).toInt ≤ (S.i 21).toInt + 2 * (R.i 44).toInt ∧ (R.i 54).toInt + (S.i 44).toInt ≤ (S.i 54).toInt + (R.i 44).toInt ∧ 6 * (R.i 55).toInt + (S.i 44).toInt ≤ 6 * (S.i 55).toInt + (R.i 44).toInt
/-- what stays but the names -/
def NMO (s u : RS) : Prop := u.i 2 = s.i 2 ∧ u.i 3 = s.i 3 ∧ u.i 8 = s.i 8 ∧ u.i 43 = s.i 43 ∧ u.i 2 = s.i 2 ∧ u.i 56 = s.i 56 ∧ u.a 1 = s.a 1 ∧ u.a 4 = s.a 4 ∧ u.b 9 = s.b 9
/-- a statement is done in both -/
def DON (d : Int32) (t : Nat) (S : CS) (s : RS) (R : CS) (u : RS) : Prop := ENV d R u ∧ tpI u = (t : Int) - 1 ∧ FRB t s u ∧ TBR s u ∧ CDK (s.i 20).toInt s u ∧ NMO s u ∧ CKZ S R ∧ (R.i 38 = S.i 38 ∧ R.i 53 = S.i 53 ∧ R.i 56 = S.i 56) ∧ RTE S R ∧ ((s.i 11).toInt + 1 ≤ (u.i 11).toInt ∧ phI s + 1 ≤ phI u ∧ (s.i 17).toInt + 1 ≤ (u.i 17).toInt ∧ u.i 19 = s.i 19) ∧ (u.i 75 = R.i 36 ∧ (R.i 36 = 0 ∨ R.i 36 = 1)) ∧ (8 * ((s.i 38).toInt - 2) ≤ (s.i 11).toInt → 8 * ((u.i 38).toInt - 2) ≤ (u.i 11).toInt) ∧ (s.i 38).toInt ≤ (u.i 38).toInt
theorem XO.don {d : Int32} {t : Nat} {S R : CS} {s u : RS} (x : XO d t S s (CS.setI R 36 1) u) (h75 : u.i 75 = R.i 36 ∧ (R.i 36 = 0 ∨ R.i 36 = 1)) : DON d t S s R u ∧ u.i 38 = s.i 38 := by
  obtain ⟨w1, w2, w3, w4, w5, w6, w7, w8, w9⟩ := x
  obtain ⟨⟨t1, t2, t3, t4, t5, t6, t7, t8, t9, t10⟩, tr⟩ := w4.1
  obtain ⟨⟨a1, -, a3, a4, a5, a6⟩, b1, b2, b3, b4, b5, b6, b7, b8⟩ := w5
  obtain ⟨⟨h1, h2, h3, h4, h5, h6, h7, h8⟩, n, o, c, l, k, ⟨r1, r2, r3, r4, r5, r6, r7, r8, r9, r10, r11⟩⟩ := w1
  have ev : ENV d R u := ⟨⟨h1, h2, h3, h4, h5, h6, h7, h8⟩, n, o, c, l, k, ⟨r1, r2, r3, r4, r5, r6, r7, r8.mv rfl rfl rfl rfl ⟨rfl, rfl, rfl⟩ r8.2.2.2.2.2.2 (Int.le_refl _), r9, r10, r11⟩⟩
  exact ⟨⟨ev, w2, w3, tr, w4.2, ⟨t1, t2, t3, t5, t6, t7, t8, t9, t10⟩, ⟨a1, b1, b2, b3, b4, b5, b6, b7⟩, ⟨a3, a5, a6⟩, b8, ⟨w6, w7, w8, w9⟩, h75, fun q => by rw [t4]; omega, by rw [t4]; exact Int.le_refl _⟩, t4⟩
theorem TBR.tr {s u w : RS} (h : TBR s u) (g : TBR u w) (h38 : (s.i 38).toInt ≤ (u.i 38).toInt) (h43 : (s.i 43).toInt ≤ (u.i 43).toInt) (h56 : (s.i 56).toInt ≤ (u.i 56).toInt) : TBR s w := by
  obtain ⟨p0, p1, p2, ⟨p3a, p3b⟩, p4, p5, p6, p7, p8, p9, p10⟩ := h
  obtain ⟨q0, q1, q2, ⟨q3a, q3b⟩, q4, q5, q6, q7, q8, q9, q10⟩ := g
  refine ⟨fun j hj => ?_, fun j hj => ?_, fun j hj => ?_, ⟨by omega, fun j h1 h2 => ?_⟩, fun j hj => ?_, by omega, fun j hj => (q6 j (by omega)).trans (p6 j hj), by omega, fun j hj => ?_, by omega, fun j hj => ?_⟩
  · obtain ⟨x1, x2, x3⟩ := p0 j hj
    obtain ⟨y1, y2, y3⟩ := q0 j (by omega)
    exact ⟨y1.trans x1, y2.trans x2, y3.trans x3⟩
  · obtain ⟨x1, x2, x3, x4, x5, x6, x7, x8⟩ := p1 j hj
    obtain ⟨y1, y2, y3, y4, y5, y6, y7, y8⟩ := q1 j (by omega)
    exact ⟨y1.trans x1, y2.trans x2, y3.trans x3, y4.trans x4, y5.trans x5, y6.trans x6, y7.trans x7, y8.trans x8⟩
  · obtain ⟨x1, x2⟩ := p2 j hj
    obtain ⟨y1, y2⟩ := q2 j (by omega)
    exact ⟨y1.trans x1, y2.trans x2⟩
  · by_cases c : (j : Int) < (u.i 59).toInt
    · rw [(q4 j c).2.2]
      exact p3b j h1 c
    · exact q3b j (by omega) h2
  · obtain ⟨x1, x2, x3⟩ := p4 j hj
    obtain ⟨y1, y2, y3⟩ := q4 j (by omega)
    exact ⟨y1.trans x1, y2.trans x2, y3.trans x3⟩
  · obtain ⟨x1, x2⟩ := p8 j hj
    obtain ⟨y1, y2⟩ := q8 j (by omega)
    exact ⟨y1.trans x1, y2.trans x2⟩
  · obtain ⟨x1, x2, x3⟩ := p10 j hj
    obtain ⟨y1, y2, y3⟩ := q10 j (by omega)
    exact ⟨y1.trans x1, y2.trans x2, y3.trans x3⟩
/-- a name more in the reference -/
theorem y_see {N : Nat} {s : RS} {l : Int64} {y : Int32} {z : Int32 × RS} (g : f_X12_see N s l y = some z) : (0 ≤ (s.i 38).toInt ∧ (s.i 38).toInt < 460) ∧ z.2.i 38 = s.i 38 + 1 ∧ (∀ k : Nat, k ≠ 38 → k ≠ 42 → z.2.i k = s.i k) ∧ (∀ k : Nat, k ≠ 40 → k ≠ 41 → z.2.a k = s.a k) ∧ (∀ k : Nat, k ≠ 39 → z.2.b k = s.b k) ∧ z.2.l = s.l ∧ (∀ j : Nat, (j : Int) < (s.i 38).toInt → z.2.b 39 j = s.b 39 j ∧ z.2.a 40 j = s.a 40 j ∧ z.2.a 41 j = s.a 41 j) := by
  unfold f_X12_see at g
  obtain ⟨i1, g⟩ := hf_ite g
  cases g
  have ck := clampI i1.1
  refine ⟨⟨i1.1, i1.2⟩, rfl, fun k h1 h2 => (if_neg h2).trans (if_neg h1), fun k h1 h2 => (if_neg h2).trans (if_neg h1), fun k h => if_neg h, rfl, fun j hj => ⟨if_neg (by omega), if_neg (by omega), if_neg (by omega)⟩⟩
theorem see_tbr {N : Nat} {s : RS} {l : Int64} {y : Int32} {z : Int32 × RS} (g : f_X12_see N s l y = some z) : TBR s z.2 ∧ CDK (s.i 20).toInt s z.2 ∧ NMO s z.2 ∧ (∀ r : Nat, FRB r s z.2) ∧ phI z.2 = phI s ∧ (z.2.i 38).toInt = (s.i 38).toInt + 1 := by
  obtain ⟨⟨g0, g9⟩, g1, gi, ga, gb, gl, gr⟩ := y_see g
  have i2 : ∀ k : Nat, k ≠ 38 → k ≠ 42 → z.2.i k = s.i k := gi
  refine ⟨⟨gr, fun j _ => ⟨by rw [ga 44 (by decide) (by decide)], by rw [gb 45 (by decide)], by rw [ga 46 (by decide) (by decide)], by rw [ga 47 (by decide) (by decide)], by rw [ga 50 (by decide) (by decide)], by rw [ga 51 (by decide) (by decide)], by rw [ga 48 (by decide) (by decide)], by rw [ga 49 (by decide) (by decide)]⟩, fun j _ => ⟨by rw [ga 57 (by decide) (by decide)], by rw [ga 58 (by decide) (by decide)]⟩, ⟨by rw [i2 59 (by decide) (by decide)]; exact Int.le_refl _, fun j k1 k2 => by rw [i2 59 (by decide) (by decide)] at k2; omega⟩, fun j _ => ⟨by rw [ga 60 (by decide) (by decide)], by rw [ga 61 (by decide) (by decide)], by rw [ga 62 (by decide) (by decide)]⟩, by rw [i2 29 (by decide) (by decide)]; exact Int.le_refl _, fun j _ => by rw [ga 30 (by decide) (by decide)], by rw [i2 33 (by decide) (by decide)]; exact Int.le_refl _, fun j _ => ⟨by rw [ga 34 (by decide) (by decide)], by rw [ga 37 (by decide) (by decide)]⟩, by rw [i2 24 (by decide) (by decide)]; exact Int.le_refl _, fun j _ => ⟨by rw [ga 25 (by decide) (by decide)], by rw [ga 27 (by decide) (by decide)], by rw [ga 28 (by decide) (by decide)]⟩⟩, ⟨by rw [i2 20 (by decide) (by decide)]; exact Int.le_refl _, fun j _ => by rw [ga 22 (by decide) (by decide)]⟩, ⟨i2 2 (by decide) (by decide), i2 3 (by decide) (by decide), i2 8 (by decide) (by decide), i2 43 (by decide) (by decide), i2 2 (by decide) (by decide), i2 56 (by decide) (by decide), ga 1 (by decide) (by decide), ga 4 (by decide) (by decide), gb 9 (by decide)⟩, fun r j _ => ⟨by rw [ga 64 (by decide) (by decide)], by rw [ga 65 (by decide) (by decide)], by rw [ga 66 (by decide) (by decide)], by rw [ga 67 (by decide) (by decide)], by rw [ga 68 (by decide) (by decide)], by rw [ga 69 (by decide) (by decide)], by rw [ga 70 (by decide) (by decide)], by rw [ga 71 (by decide) (by decide)], by rw [ga 72 (by decide) (by decide)], by rw [ga 73 (by decide) (by decide)], by rw [gb 74 (by decide)]⟩, ?_, by rw [g1]; exact ad1 g0 (by omega)⟩
  unfold phI
  rw [i2 17 (by decide) (by decide), i2 20 (by decide) (by decide)]
end
section
/-! both readers: int NAME = EXPR; whole -/
/-- the class's name and what is told with it -/
theorem y_tell {N : Nat} {d : Int32} {S : CS} {s : RS} {l : Int64} {w : Int32 × CS} {v : Int32 × RS} (h : ENV (d + 1) S s) (hb : 8 * ((s.i 38).toInt - 1) ≤ (s.i 11).toInt + 1) (hn : ∀ k : Nat, (k : Int) < (s.i 38).toInt → ¬ s.b 39 k = l) (e : f_X7_tell N S l = some w) (g : f_X12_see N s l 0 = some v) : ENV d w.2 v.2 ∧ CKX S (CS.setI w.2 50 (S.i 50)) ∧ w.2.i 50 = S.i 50 + 1 ∧ w.2.i 43 = S.i 43 ∧ w.2.i 21 = S.i 21 ∧ w.2.i 36 = S.i 36 := by
  unfold f_X7_tell at e
  obtain ⟨a, ea, e⟩ := hf_bind e
  obtain ⟨b, eb, e⟩ := hf_bind e
  cases e
  have ka := kd_X0_newCells N S 1 a ea
  have kp := pj2_eq ka
  have va := h.kd ka
  have em : ¬ (0 ≤ (-1 : Int32).toInt) := by decide
  have bz : vp_nar .boolean (0 : Int32) = 0 := by decide
  have nm := ENV.nm va hb hn ⟨fun q => absurd q em, fun q => absurd bz q⟩ eb g
  have hh := nms_hi va
  have n1 := va.2.1.1
  unfold f_X4_add at eb
  have e128 : (128 : Int32).toInt = 128 := by decide
  rw [if_neg (show ¬ 128 ≤ a.2.i 50 from fun q => by have := le_int q; rw [n1] at this; omega)] at eb
  obtain ⟨i2, eb⟩ := hf_ite eb
  cases eb
  have i50 : a.2.i 50 = S.i 50 := (pj_eq kp.1).2.2.2.2.2.2.2.2.2.2.2.2.2.1
  have ck : CKX S a.2 := CKX.of kp.1 kp.2.2.2.2.1 kp.2.2.2.2.2.2.2.2.2.2.2
  refine ⟨nm.told, ?_, ?_, (show a.2.i 43 = S.i 43 from kp.2.2.2.2.2.2.2.1), (show a.2.i 21 = S.i 21 from pj_21 kp.1), (show a.2.i 36 = S.i 36 from ck.1.2.1)⟩
  · obtain ⟨⟨a1, a2, a3, a4, a5, a6⟩, b1, b2, b3, b4, b5, b6, b7, b8⟩ := ck
    exact ⟨⟨a1, a2, a3, ci_at _ _ _, a5, a6⟩, b1, b2, b3, b4, b5, b6, b7, b8⟩
  · show a.2.i 50 + 1 = S.i 50 + 1
    rw [i50]
/-- a name more: the class's cell -/
theorem cd_tell {N : Nat} {S : CS} {l : Int64} {w : Int32 × CS} (e : f_X7_tell N S l = some w) (h0 : 0 ≤ (S.i 50).toInt) (h1 : (S.i 50).toInt < 128) (c0 : 0 ≤ (S.i 23).toInt) (c1 : (S.i 23).toInt < 1000) : CD1 0 2 S w.2 ∧ w.1 = S.i 23 ∧ (w.2.i 23).toInt = (S.i 23).toInt + 1 ∧ w.2.a 17 = S.a 17 ∧ w.2.i 20 = S.i 20 ∧ w.2.i 21 = S.i 21 ∧ w.2.i 44 = S.i 44 ∧ (w.2.i 50).toInt = (S.i 50).toInt + 1 ∧ (w.2.a 48 (S.i 50).toNatClampNeg = S.i 23 ∧ w.2.a 49 (S.i 50).toNatClampNeg = -1) := by
  have e128 : (128 : Int32).toInt = 128 := by decide
  unfold f_X7_tell at e
  obtain ⟨a, ea, e⟩ := hf_bind e
  obtain ⟨b, eb, e⟩ := hf_bind e
  cases e
  unfold f_X0_newCells at ea
  cases ea
  unfold f_X4_add at eb
  have nlt : ¬ 128 ≤ S.i 50 := fun q => by
    have := le_int q
    omega
  rw [if_neg (show ¬ 128 ≤ (CS.setI S 23 (S.i 23 + 1)).i 50 from nlt)] at eb
  obtain ⟨i2, eb⟩ := hf_ite eb
  cases eb
  have s50 : (S.i 50 + 1).toInt = (S.i 50).toInt + 1 := ad1 h0 (by omega)
  have s23 : (S.i 23 + 1).toInt = (S.i 23).toInt + 1 := ad1 c0 (by omega)
  have ck := clampI h0
  have cc : ((S.i 23 + 1) - 1) = S.i 23 := Int32.add_sub_cancel _ _
  refine ⟨⟨⟨Int.le_refl _, ?_, ?_⟩, fun j _ => ⟨rfl, rfl⟩, Int.le_refl _, ?_, fun k hk => ⟨?_, ?_⟩, ⟨?_, ?_⟩, rfl, Int.le_refl _, fun _ _ => rfl⟩, cc, s23, rfl, rfl, rfl, rfl, s50, ⟨?_, ?_⟩⟩
  · show (S.i 20).toInt + (S.i 44).toInt ≤ (S.i 20).toInt + (S.i 44).toInt + 0
    omega
  · show (S.i 21).toInt + (S.i 44).toInt ≤ (S.i 21).toInt + (S.i 44).toInt + 2
    omega
  · show (S.i 50).toInt ≤ (S.i 50 + 1).toInt
    omega
  · exact if_neg (show ¬ k = (S.i 50).toNatClampNeg by omega)
  · exact if_neg (show ¬ k = (S.i 50).toNatClampNeg by omega)
  · show (S.i 23).toInt ≤ (S.i 23 + 1).toInt
    omega
  · show 2 * (S.i 23 + 1).toInt + (S.i 44).toInt ≤ 2 * (S.i 23).toInt + (S.i 44).toInt + 2
    omega
  · exact (if_pos rfl).trans cc
  · exact if_pos rfl
/-- the reference's slot -/
theorem see_cd {N : Nat} {s : RS} {l : Int64} {y : Int32} {z : Int32 × RS} (g : f_X12_see N s l y = some z) : z.1 = s.i 42 ∧ z.2.i 42 = s.i 42 + 1 ∧ z.2.a 40 (s.i 38).toNatClampNeg = s.i 42 := by
  unfold f_X12_see at g
  obtain ⟨i1, g⟩ := hf_ite g
  cases g
  exact ⟨Int32.add_sub_cancel _ _, rfl, if_pos rfl⟩
/-- a new name in the class: nothing else -/
theorem nn_pj {N : Nat} {S : CS} {P : Int64 × CS} (e : f_X7_newName N S = some P) (c : S.i 43 = 2) (h32 : P.2.i 32 = 0) : pj P.2 = pj S := by
  unfold f_X7_newName f_X7_newName_56 at e
  rw [e_fnd1 c, ob_some, if_neg n10] at e
  obtain ⟨F, eF, e⟩ := hf_bind e
  have k1 : pj F.2 = pj S := kc_X4_find N S _ F eF
  by_cases cF : F.1 < 0
  · rw [if_pos cF] at e
    obtain ⟨a, ea, e⟩ := hf_bind e
    cases e
    exact (kc_X9_advance N F.2 a ea).trans k1
  · rw [if_neg cF] at e
    obtain ⟨f, ef, e⟩ := hf_bind e
    cases e
    exact absurd h32 (y_fail (by decide) ef)
/-- a statement's code, with the names behind it -/
def CDW (a : Int) (T : JT9) (U : RS) (S : CS) (s : RS) (R : CS) (u : RS) : Prop := CRB S → CD1 a (-1) S R ∧ CT7 0 (S.i 21).toInt S R ∧ CD2 (s.i 20).toInt s u ∧ ∃ Ψ : GPS, SAT Ψ S s R u ∧ (∀ (FC : Nat → Prop) (nm : Nat → Nat → Prop) (c : List Ent), Ψ FC nm → NMG nm c S s → NMG nm c R u) ∧ ∀ (FC : Nat → Prop) (SF : CS) (nm : Nat → Nat → Prop) (X : Als) (c : List Ent) (h w2 W g0 : Nat), Ψ FC nm → FGC S R SF → FGR s u U → NMG nm c S s → HC0 nm h c → ((2 * h + 0 + msr c : Nat) : Int) ≤ (s.i 11).toInt → TYC SF U (GU FC SF U nm X) W c → W + 1 ≤ w2 → T FC SF nm X c h w2 → GU FC SF U nm X (pcC S) (pcR s) h (w2 + (pcC R - pcC S)) g0 c
theorem CDG.t {a : Int} {T : JT9} {U : RS} {S R : CS} {s u : RS} (h : CDG a T U S s R u) (n50 : S.i 50 = s.i 38) (e38 : u.i 38 = s.i 38) (a40 : ∀ j : Nat, (j : Int) < (s.i 38).toInt → u.a 40 j = s.a 40 j) (l19 : (s.i 19).toInt ≤ (u.i 19).toInt) : CDW a T U S s R u := fun cr => by
  obtain ⟨h1, h2, h3, Ψ, sat, h4⟩ := h cr
  exact ⟨h1, h2, h3, Ψ, sat, fun FC nm c _ ng => ng.mv n50 h1 h3 e38 a40 l19, h4⟩
/-- int NAME = EXPR: its code -/
theorem cdw_tell {N : Nat} {d d' : Int32} {S X1 X5 : CS} {s B u V U : RS} {l : Int64} {x9 : Int32 × CS} {z : Int32 × RS} {R : CS} (hv : ENV d S s) (pre1 : CD1 (-6) (-6) S X1) (pre7 : ∀ a b : Int, CT7 a b S X1) (pre2 : ∀ c : Int, CD2 c s B) (pC : X1.i 20 = S.i 20) (pR : B.i 20 = s.i 20) (B38 : B.i 38 = s.i 38) (B40 : ∀ j : Nat, (j : Int) < (s.i 38).toInt → B.a 40 j = s.a 40 j) (B11 : (s.i 11).toInt ≤ (B.i 11).toInt) (B19 : B.i 19 = s.i 19) (xc : CDE 0 U X1 B X5 u) (w1 : ENV d' X5 u) (u38 : u.i 38 = s.i 38) (u40 : ∀ j : Nat, (j : Int) < (s.i 38).toInt → u.a 40 j = s.a 40 j) (u19 : u.i 19 = s.i 19) (u11 : (s.i 11).toInt + 7 ≤ (u.i 11).toInt) (e9 : f_X7_tell N X5 l = some x9) (t50 : x9.2.i 50 = z.2.i 38) (hz : f_X12_see N u l 0 = some z) (v42 : V.i 42 = z.2.i 42 ∧ (V.i 20).toInt = (z.2.i 20).toInt + 1) (V38 : V.i 38 = z.2.i 38) (V40 : ∀ j : Nat, (j : Int) < (z.2.i 38).toInt → V.a 40 j = z.2.a 40 j) (V19 : V.i 19 = s.i 19) (one : ∀ (T : JT9), (∀ (FC : Nat → Prop) (SF : CS) (nm : Nat → Nat → Prop) (X : Als) (c : List Ent) (h w2 W g0 : Nat), PQX SF U (pcC x9.2) (pcR z.2) → HC0 nm h c → h < 600 → NM4 nm c x9.2 z.2 → TYC SF U (GU FC SF U nm X) W c → W + 1 ≤ w2 → SF.a 15 (pcC x9.2) = 2 → SF.a 16 (pcC x9.2) = x9.1 → U.a 21 (pcR z.2) = 5 → U.a 22 (pcR z.2) = z.1 → pcC R = pcC x9.2 + 1 → pcR V = pcR z.2 + 1 → T FC SF nm X c h w2 → GU FC SF U nm X (pcC x9.2) (pcR z.2) h (w2 + 1) g0 c) → CDO 0 T U x9.2 z.2 R V) : CDW (-1) (JGO U R V) U S s R V := by
  intro cr
  have n50 := hv.2.1.1
  have n5 := w1.2.1.1
  have hk8 := nms_hi w1
  have cr1 : CRB X1 := cr.of pre1 (by omega) (by omega)
  obtain ⟨f1, f2, f3, Ψ1, sat1, r1⟩ := xc cr1
  have cr5 : CRB X5 := cr1.of f1 (by omega) (by omega)
  have hi5 := (i11_hi w1).2
  have u44 : (X5.i 44).toInt = (u.i 11).toInt := by rw [w1.p44.1]
  have h50 : 0 ≤ (X5.i 50).toInt ∧ (X5.i 50).toInt < 128 := by rw [n5]; exact ⟨by omega, by omega⟩
  obtain ⟨d1, d2, d3, d4, d5, d6, d7, d8, d9, d10⟩ := cd_tell e9 h50.1 h50.2 cr5.2.2.2.1 (by have := cr5.2.2; omega)
  obtain ⟨g1, g2, g3⟩ := see_cd hz
  obtain ⟨⟨z0, z9⟩, zi38, zi, za, -, -, zr⟩ := y_see hz
  have c59 : CD1 0 0 X1 x9.2 → CRB x9.2 := fun q => cr1.of q (by omega) (by omega)
  have cS9 : CD1 (-6) (-5) S x9.2 := ((pre1.tr f1).tr d1).wk (by omega) (by omega)
  have cr9 : CRB x9.2 := cr.of cS9 (by omega) (by omega)
  obtain ⟨k1, k2, k3, k4⟩ := one (fun FC SF nm X c h' w2 => ∃ h w : Nat, h' = h + 1 ∧ w ≤ w2 ∧ GU2 FC SF U nm X (pcC R) (pcR V) h w c ∧ ∃ a b : Nat, x9.1.toInt = (a : Int) ∧ z.1.toInt = (b : Int) ∧ nm a b) (fun FC SF nm X c h' w2 W g0 pq hc h6 ng ty hW x1 x2 x3 x4 x5 x6 tt => by
    obtain ⟨h, w, eh, hw, hg, a, b, y1, y2, y3⟩ := tt
    exact gi_UStor (pq.hc hc) pq.2.1 ⟨⟨a, b, by rw [x2]; exact y1, by rw [x4]; exact y2, y3⟩, Or.inl ⟨x1, x3, h, eh, w, by omega, by rw [← x5, ← x6]; exact hg.1⟩⟩) cr9
  have z20 : z.2.i 20 = u.i 20 := zi 20 (by decide) (by decide)
  have pu := w1.p20
  -- the reference behind the formula
  have cuV : CD2 (u.i 20).toInt u V := by
    have k3' := k3.2
    rw [z20] at k3'
    refine ⟨⟨by rw [← z20]; exact k3.1.1, ?_, ?_, ?_, fun sl => ?_, ?_⟩, fun j hj => ?_, fun j hj => ?_, fun j hj => ?_, fun j hj => ?_⟩
    · rw [← zi 24 (by decide) (by decide)]
      exact k3.1.2.1
    · rw [← zi 29 (by decide) (by decide)]
      exact k3.1.2.2.1
    · rw [← zi 33 (by decide) (by decide)]
      exact k3.1.2.2.2.1
    · have s1 : (u.i 42 + 1).toInt = (u.i 42).toInt + 1 := ad1 sl.1 (by have := sl.2; omega)
      refine ⟨by rw [v42.1, g2, s1]; omega, by rw [v42.1, g2, s1]; have := sl.1; omega, by rw [v42.1, g2, s1, v42.2, z20]; have := sl.2; omega⟩
    · rw [← zi 52 (by decide) (by decide)]
      exact k3.1.2.2.2.2.2
    · rw [← za 21 (by decide) (by decide), ← za 22 (by decide) (by decide), ← za 23 (by decide) (by decide)]
      exact k3'.1 j hj
    · rw [← za 25 (by decide) (by decide), ← za 26 (by decide) (by decide), ← za 27 (by decide) (by decide), ← za 28 (by decide) (by decide)]
      exact k3'.2.1 j (by rw [zi 24 (by decide) (by decide)]; exact hj)
    · rw [← za 30 (by decide) (by decide), ← za 31 (by decide) (by decide), ← za 32 (by decide) (by decide)]
      exact k3'.2.2.1 j (by rw [zi 29 (by decide) (by decide)]; exact hj)
    · rw [← za 34 (by decide) (by decide), ← za 35 (by decide) (by decide), ← za 36 (by decide) (by decide), ← za 37 (by decide) (by decide)]
      exact k3'.2.2.2 j (by rw [zi 33 (by decide) (by decide)]; exact hj)
  have c5R : CD1 0 2 X5 R := (d1.tr k1).wk (by omega) (by omega)
  have l20 := f3.1.1
  have lB : (B.i 20).toInt = (s.i 20).toInt := by rw [pR]
  have csV : CD2 (s.i 20).toInt s V := (pre2 _).tr ((f3.wk (by omega)).tr (cuV.wk (by omega)))
  have cSR : CD1 (-6) (-5) S R := ((pre1.tr f1).tr c5R).wk (by omega) (by omega)
  -- the names behind
  have ngE : ∀ (nm : Nat → Nat → Prop) (c : List Ent), (∃ a b : Nat, x9.1.toInt = (a : Int) ∧ z.1.toInt = (b : Int) ∧ nm a b) → NMG nm c S s → NM4 nm c x9.2 z.2 ∧ NMG nm c R V := fun nm c hn ng => by
    obtain ⟨a, b, y1, y2, y3⟩ := hn
    have i38 : (z.2.i 38).toInt = (s.i 38).toInt + 1 := by
      rw [zi38, ad1 z0 (by omega), u38]
    have ck : (((s.i 38).toNatClampNeg : Nat) : Int) = (s.i 38).toInt := clampI (by rw [← u38]; exact z0)
    have n55 : X5.i 50 = s.i 38 := n5.trans u38
    rw [n55] at d9 d10 d8
    rw [u38] at g3
    have n9 : NM4 nm c x9.2 z.2 := by
      refine ⟨fun k hk => ?_, by rw [cS9.2.2.2.2.2.2.1]; exact ng.2.1, by rw [zi 52 (by decide) (by decide), f3.1.2.2.2.2.2, (pre2 0).1.2.2.2.2.2]; exact ng.2.2.1, by rw [zi 19 (by decide) (by decide), u19]; exact ng.2.2.2.1⟩
      rw [i38] at hk
      by_cases q : (k : Int) < (s.i 38).toInt
      · obtain ⟨x1, x2⟩ := cS9.2.2.2.2.1 k (by rw [n50]; exact q)
        rw [x1, x2, (zr k (by rw [u38]; exact q)).2.1, u40 k q]
        exact ng.1 k q
      · have ek : k = (s.i 38).toNatClampNeg := by omega
        rw [ek, d9, d10, g3]
        have em : (-1 : Int32).toInt = -1 := by decide
        refine ⟨fun _ => ⟨a, b, by rw [← d2]; exact y1, by rw [← g1]; exact y2, y3⟩, fun z => ?_⟩
        rw [em] at z
        omega
    exact ⟨n9, (n9.mv t50 k1 k3 V38 V40 (by rw [V19, zi 19 (by decide) (by decide), u19]; exact Int.le_refl _)).g (ng.2.2.2.2.mv cSR.2.2.2.2.2.1.1 csV.1.2.2.2.2.1)⟩
  refine ⟨cSR.wk (by omega) (by omega), ?_, csV, GPS.an Ψ1 (fun _ nm => ∃ a b : Nat, x9.1.toInt = (a : Int) ∧ z.1.toInt = (b : Int) ∧ nm a b), ?_, fun FC nm c ps ng => (ngE nm c ps.2 ng).2, ?_⟩
  · exact ((pre7 _ _).tr (f2.wk (Int.le_refl _) pre1.2.2.1)).tr ((CT7.eq d4).tr (k2.wk (Int.le_refl _) (by rw [d6]; have := pre1.2.2.1; have := f1.2.2.1; omega)))
  · have satP : SAT (fun _ nm => ∃ a b : Nat, x9.1.toInt = (a : Int) ∧ z.1.toInt = (b : Int) ∧ nm a b) X5 u R V := fun sl => by
      have s1 : (u.i 42 + 1).toInt = (u.i 42).toInt + 1 := ad1 sl.1 (by have := sl.2; omega)
      have ca : ((x9.1.toNatClampNeg : Nat) : Int) = x9.1.toInt := clampI (by rw [d2]; exact cr5.2.2.2.1)
      have cb : ((z.1.toNatClampNeg : Nat) : Int) = z.1.toInt := clampI (by rw [g1]; exact sl.1)
      have R23 := k1.2.2.2.2.2.1.1
      have ea : x9.1.toInt = (X5.i 23).toInt := by rw [d2]
      have eb : z.1.toInt = (u.i 42).toInt := by rw [g1]
      have V42 : (V.i 42).toInt = (u.i 42).toInt + 1 := by rw [v42.1, g2, s1]
      refine ⟨(cuV.1.2.2.2.2.1 sl).2, fun _ => True, fun k l => k = x9.1.toNatClampNeg ∧ l = z.1.toNatClampNeg, ⟨fun k l h => ?_, fun c l c' l' h h' => ?_⟩, fun FC nm g => ⟨_, _, ca.symm, cb.symm, (g.2 _ _ (Or.inl ⟨by omega, by omega⟩)).mpr ⟨rfl, rfl⟩⟩⟩
      · obtain ⟨h1, h2⟩ := h
        rw [h1, h2]
        exact ⟨⟨by omega, by omega⟩, by omega, by omega⟩
      · exact ⟨fun _ => h.2.trans h'.2.symm, fun _ => h.1.trans h'.1.symm⟩
    exact (SAT.an sat1 satP (MNO.of f1 f3) (MNO.of c5R cuV)).wd (MNO.of pre1 (pre2 0)) (MNO.of (CD1.rf R) (CD2.rf 0 V))
  intro FC SF nm X c h w2 W g0 ps fc fr ng hc hh ty hW tt
  obtain ⟨w, hw, hg⟩ := tt
  have pcX : pcC x9.2 = pcC X5 := by unfold pcC; rw [d5]
  have prZ : pcR z.2 = pcR u := by unfold pcR; rw [z20]
  have pcS : pcC X1 = pcC S := by unfold pcC; rw [pC]
  have prS : pcR B = pcR s := by unfold pcR; rw [pR]
  have fc9 : FGC x9.2 R SF := fc.sub cS9 (CD1.rf R) (CT7.rf _ _ R)
  have csu : CD2 (s.i 20).toInt s u := (pre2 _).tr (f3.wk (by omega))
  have fru : FGR u V U := fr.sub csu (CD2.rf 0 V) (fun _ _ _ => ⟨rfl, rfl, rfl⟩)
  have frz : FGR z.2 V U := by
    unfold FGR at fru ⊢
    rw [z20, zi 24 (by decide) (by decide), zi 29 (by decide) (by decide), zi 33 (by decide) (by decide)]
    exact fru
  have z11 : z.2.i 11 = u.i 11 := zi 11 (by decide) (by decide)
  have zz := k4 FC SF nm X c (h + 1) w2 W 0 fc9 frz (ngE nm c ps.2 ng).1 (hc.up (Nat.le_succ _)) (by rw [z11]; omega) ty hW ⟨h, w, rfl, hw, hg, ps.2⟩
  rw [pcX, prZ] at zz
  have ngB : NMG nm c X1 B := ng.mv n50 pre1 (pre2 0) B38 B40 (by rw [B19]; exact Int.le_refl _)
  have fc1 : FGC X1 X5 SF := fc.sub pre1 c5R ((CT7.eq d4).tr (k2.wk cr1.2.1 (by rw [d6]; exact Int.le_refl _)))
  have fr1 : FGR B u U := fr.sub (pre2 0) cuV (cuV.c3 (Int.le_refl _))
  have zf := r1 FC SF nm X c h (w2 + (pcC R - pcC X5)) W g0 ps.1 fc1 fr1 ngB hc (by omega) ty (by omega) True.intro zz
  rw [pcS, prS] at zf
  have le1 : pcC S ≤ pcC X5 := by
    have a := pre1.1.1
    have b := f1.1.1
    unfold pcC
    omega
  have le2 : pcC X5 ≤ pcC R := by
    have a := c5R.1.1
    unfold pcC
    omega
  rw [show w2 + (pcC R - pcC S) = w2 + (pcC R - pcC X5) + (pcC X5 - pcC S) by omega]
  exact zf
def SXD (N : Nat) (K : Int32) (P : CS → RS → Prop) (Q : RS → CS → RS → CS → RS → Prop) (F : CS → Option (Unit × CS)) : Prop := ∀ (d : Int32) (S : CS) (s U : RS) (n t : Nat) (R : Unit × CS), ENV d S s → P S s → S.i 36 = 1 → tpI s = t → s.a 64 t = K → s.a 65 t = 0 → 2 ≤ phI s → F S = some R → f_X12_parse_10 N n s = some U → (¬ R.2.i 32 = 0 ∧ ¬ U.i 15 = 0) ∨ ∃ (m : Nat) (u : RS), f_X12_parse_10 N m u = some U ∧ DON d t S s R.2 u ∧ Q U S s R.2 u
theorem SXK.d {N : Nat} {K tok : Int32} {P : CS → RS → Prop} {F : CS → Option (Unit × CS)} {Q : RS → CS → RS → CS → RS → Prop} (h : SXK N K tok P F Q) : SXD N K (fun S s => P S s ∧ S.i 43 = tok) (fun U S s R u => u.i 38 = s.i 38 ∧ Q U S s R u) F := by
  intro d S s U n t R hv hP h36 ht hk hs h2 e g
  rcases h d S s U n t R hv hP.1 h36 ht hk hs h2 hP.2 e g with z | ⟨m, u, g2, xo, x75, xq⟩
  · exact Or.inl z
  · obtain ⟨dn, u38⟩ := xo.don x75
    exact Or.inr ⟨m, u, g2, dn, u38, xq⟩
set_option maxHeartbeats 4000000 in
theorem sx_tell {N : Nat} (hN : 1000 ≤ N) {E1 : CS → Option (Unit × CS)} {E2 : CS → Option (Int32 × CS)} (hm1 : ∀ σ, Kf (CS.i σ 32) (E1 σ)) (hm2 : ∀ σ, Kf (CS.i σ 32) (E2 σ)) (hE : SXR N 18 E1) : SXD N 4 (fun S s => (S.i 43 = 200 ∨ S.i 43 = 201) ∧ 8 * ((s.i 38).toInt - 2) ≤ (s.i 11).toInt) (fun U S s R u => R.i 36 = 1 ∧ CDW (-1) (JGO U R u) U S s R u) (fun S => (f_X9_advance N S).bind fun p7 => (f_X7_newName N p7.2).bind fun p11 => (f_X7_define N E1 E2 p11.2 p11.1).bind fun p15 => (f_X1_expect N p15.2 59).bind fun p19 => some ((), p19.2)) := by
  intro d S s U n t R hv hP h36 ht hk hs h2 e g
  obtain ⟨h43, h8⟩ := hP
  obtain ⟨m, V, hV, g2⟩ := rl_4 g ht hv.1.2.1 hk
  unfold f_X12_tell at hV
  obtain ⟨hib, hV⟩ := hf_ite hV
  have t9 : t < 1000 := by
    have h2 : (s.i 63).toInt = (t : Int) := ht
    have := hib.2
    omega
  rw [tp_nat ht, if_pos hs] at hV
  obtain ⟨q, hq, hV⟩ := hf_bind hV
  obtain ⟨p7, e7, e⟩ := hf_bind e
  obtain ⟨p11, e11, e⟩ := hf_bind e
  obtain ⟨p15, e15, e⟩ := hf_bind e
  obtain ⟨p19, e19, e⟩ := hf_bind e
  cases e
  have nz : ¬ S.i 43 = 0 := fun z => by
    rcases h43 with y | y <;> rw [y] at z <;> exact absurd z (by decide)
  obtain ⟨a1, tq, fq, kq, cq, l11, pq, q17, q19⟩ := y_nx hN hv ht nz e7 hq
  obtain ⟨-, adv, -, b9⟩ := y_adv hN hv.1 e7 hq
  rw [if_pos a1.1.2.1] at hV
  obtain ⟨Q, hQ, hV⟩ := hf_bind hV
  have e63 : q.i 63 = s.i 63 := Int32.toInt_inj.mp (by
    have x : (q.i 63).toInt = (t : Int) := tq
    have y : (s.i 63).toInt = (t : Int) := ht
    omega)
  rw [← e63] at hQ
  unfold f_X7_define at e15
  obtain ⟨x1, ex1, e15⟩ := hf_bind e15
  obtain ⟨x5, ex5, e15⟩ := hf_bind e15
  obtain ⟨x9, ex9, e15⟩ := hf_bind e15
  obtain ⟨x13, ex13, e15⟩ := hf_bind e15
  cases e15
  have f5 : ¬ x5.2.i 32 = 0 → ¬ p19.2.i 32 = 0 := fun z => by
    have z1 : ¬ x9.2.i 32 = 0 := by rw [kF_X7_tell N x5.2 p11.1 x9 ex9 z]; exact z
    have z2 : ¬ x13.2.i 32 = 0 := by rw [fst_add ex13]; exact z1
    rw [kF_X1_expect N x13.2 59 p19 e19 z2]
    exact z2
  have f1 : ¬ x1.2.i 32 = 0 → ¬ p19.2.i 32 = 0 := fun z => f5 (by rw [kF_X1_expression N E1 E2 hm1 hm2 x1.2 x5 ex5 z]; exact z)
  rcases y_newName hN a1 tq e11 hQ with ⟨o1, o2, o3⟩ | ⟨o1, c2, l1, b74, fresh, v1, v2, v3, v4, v5, v6, v7, v8, v9, v10⟩
  · rw [if_pos o1] at hV
    cases hV
    refine Or.inl ⟨f1 ?_, u_flt g2 o3⟩
    rw [kF_X1_expect N p11.2 61 x1 ex1 o2]
    exact o2
  rw [if_neg (show ¬ Q.1 = 0 by rw [o1]; decide)] at hV
  obtain ⟨b, hb, hV⟩ := hf_bind hV
  rw [ob_id] at hV
  rcases y_need hN v1 (c := 61) (d := 61) (Or.inl ⟨by decide, by decide⟩) (by decide) (by decide) (by decide) ex1 hb with ⟨o1', o2, o3⟩ | ⟨o1', o2, o3, o4, o5, o6, o7, o8, o9, o10, o11, o12⟩
  · exact Or.inl ⟨f1 o2, u_flt g2 (krf_f_X12_then N b.2 1 16 V hV o3)⟩
  have tb := qj_63 o4 v2
  have b17 : (b.2.i 17).toInt = (Q.2.i 17).toInt + 1 := by rw [o6]; exact t17_up (N := N) v1
  have pb : phI b.2 = phI Q.2 + 3 := by
    unfold phI
    rw [o8, b17]
    omega
  have fb : FRB (t + 1) Q.2 b.2 := FRB.of o4
  have kb : TBK Q.2 b.2 := TBK.of o4 (by rw [o8]; exact Int.le_refl _) (fun j _ => by rw [o9])
  have b64 : b.2.a 64 t = 4 := by
    rw [(fb t (by omega)).1, v4 64 (by decide) (by decide), (fq (t + 1) t (by omega)).1]
    exact hk
  have bb74 : b.2.b 74 t = q.l := ((fb t (by omega)).2.2.2.2.2.2.2.2.2.2).trans b74
  rcases y_expr hN hm1 hm2 hE o3 tb (by omega) ex5 hV g2 with ⟨x1', x2'⟩ | ⟨m2, u, g3, ⟨w1, w2, ⟨r0, r1, -, -, -, -, -, -, -, -, r10⟩, w4, w5, w6, w7, w8, w9, w10⟩, xc⟩
  · exact Or.inl ⟨f5 x1', x2'⟩
  obtain ⟨m3, V3, hV3, g4⟩ := rl_4 g3 w2 w1.1.2.1 (r0.trans b64)
  unfold f_X12_tell at hV3
  obtain ⟨-, hV3⟩ := hf_ite hV3
  rw [tp_nat w2, if_neg (show ¬ u.a 65 t = 0 by rw [r1]; decide), r10.trans bb74] at hV3
  obtain ⟨z, hz, hV3⟩ := hf_bind hV3
  obtain ⟨y, hy, hV3⟩ := hf_bind hV3
  obtain ⟨c, hc, hV3⟩ := hf_bind hV3
  rw [ob_id] at hV3
  -- places
  have tbu : TBK q u := (v5.tr kb).tr w5
  have u38 : u.i 38 = s.i 38 := tbu.1.1.2.2.2.1.trans kq.1.1.2.2.2.1
  have q38 : q.i 38 = s.i 38 := kq.1.1.2.2.2.1
  have p4 : (s.i 11).toInt + 4 ≤ (q.i 11).toInt := by
    have l3 := hv.lb.1.2.1 h43
    have al : ALW (S.i 43) := Or.inr (by rcases h43 with y | y <;> rw [y] <;> decide)
    have an : ALN (p7.2.i 43) := Or.inl (by rw [c2]; decide)
    have gp := adv.2.2.2.1 al an
    rw [hv.1.2.2.2.1.1, hv.1.2.2.2.1.2.1] at l3
    rw [hv.1.2.2.2.1.2.1, a1.1.2.2.2.1.1] at gp
    omega
  have u11 : (s.i 11).toInt + 7 ≤ (u.i 11).toInt := by omega
  have fr : ∀ k : Nat, (k : Int) < (u.i 38).toInt → ¬ u.b 39 k = q.l := fun k hk z => by
    rw [u38, ← q38] at hk
    rw [(tbu.1.2.1 k hk).1] at z
    exact fresh k hk z
  rw [l1] at ex9
  obtain ⟨t1, t2, t3, t4, t5, t6⟩ := y_tell w1 (by rw [u38]; omega) fr ex9 hz
  obtain ⟨s1, s2, s3, s4, s5, s6⟩ := see_tbr hz
  have tz : tpI z.2 = t := by
    show (z.2.i 63).toInt = (t : Int)
    rw [(y_see hz).2.2.1 63 (by decide) (by decide)]
    exact w2
  rcases y_tail hN t1 tz t9 (by omega) ex13 e19 hy hc hV3 with ⟨j1, j2⟩ | ⟨⟨j1, j2, j3, j4, j5, j6, j7, j8, j9, j10⟩, -, v42, one⟩
  · exact Or.inl ⟨j1, u_flt g4 j2⟩
  have zi := (y_see hz).2.2.1
  have z11 : z.2.i 11 = u.i 11 := zi 11 (by decide) (by decide)
  have z17 : z.2.i 17 = u.i 17 := zi 17 (by decide) (by decide)
  have z19 : z.2.i 19 = u.i 19 := zi 19 (by decide) (by decide)
  have z20 : z.2.i 20 = u.i 20 := zi 20 (by decide) (by decide)
  -- the class, all of it
  have ck1 : CKX S x5.2 := (((cq.tr v6).tr (CKX.of o5 o10 o11)).tr w6)
  have ck2 : CKX S (CS.setI x9.2 50 (x5.2.i 50)) := ck1.tr t2
  have V38 : V3.i 38 = z.2.i 38 := j4.1.1.2.2.2.1
  have tbs : TBK s u := kq.tr tbu
  have tr1 : TBR s V3 := (tbs.1.r.tr s1 (by rw [u38]; exact Int.le_refl _) (by rw [tbs.1.1.2.2.2.2.1]; exact Int.le_refl _) (by rw [tbs.1.1.2.2.2.2.2.2.1]; exact Int.le_refl _)).tr j4.1.r (by rw [s6, u38]; omega) (by rw [s3.2.2.2.1, tbs.1.1.2.2.2.2.1]; exact Int.le_refl _) (by rw [s3.2.2.2.2.2.1, tbs.1.1.2.2.2.2.2.2.1]; exact Int.le_refl _)
  have l20 : (s.i 20).toInt ≤ (u.i 20).toInt := tbs.2.1
  obtain ⟨⟨a1', a2', a3', -, a5', a6'⟩, b1', b2', b3', b4', b5', b6', b7', b8'⟩ := ck2
  obtain ⟨⟨c1', c2', c3', c4', c5', c6'⟩, d1', d2', d3', d4', d5', d6', d7', d8'⟩ := j5
  have A1 : x9.2.i 22 = S.i 22 := a1'
  have A2 : x9.2.i 36 = S.i 36 := a2'
  have A3 : x9.2.i 38 = S.i 38 := a3'
  have A5 : x9.2.i 53 = S.i 53 := a5'
  have A6 : x9.2.i 56 = S.i 56 := a6'
  have B1 : ∀ k : Nat, (k : Int) < (S.i 53).toInt → x9.2.r 51 k = S.r 51 k := b1'
  have B2 : ∀ k a : Nat, (k : Int) < (S.i 53).toInt → S.r 51 k = some a → x9.2.o a = S.o a ∧ x9.2.ol a = S.ol a := b2'
  have B3 : ∀ k : Nat, (k : Int) < (S.i 22).toInt → x9.2.a 18 k = S.a 18 k := b3'
  have B4 : (S.i 54).toInt ≤ (x9.2.i 54).toInt := b4'
  have B5 : (S.i 55).toInt ≤ (x9.2.i 55).toInt := b5'
  have B6 : ∀ k : Nat, (k : Int) < (S.i 55).toInt → x9.2.a 52 k = S.a 52 k := b6'
  have B7 : ∀ k : Nat, (S.i 55).toInt ≤ (k : Int) → (k : Int) < (x9.2.i 55).toInt → x9.2.a 52 k = 0 ∨ (2 * (S.i 54).toInt + 1 < (x9.2.a 52 k).toInt ∧ (x9.2.a 52 k).toInt ≤ 2 * (x9.2.i 54).toInt + 1) := b7'
  have B8 : RTE S x9.2 := b8'
  have B9 : RTE x9.2 p19.2 := d8'
  have ckz : CKZ S p19.2 := by
    refine ⟨c1'.trans A1, fun k hk => (d1' k (by rw [A5]; exact hk)).trans (B1 k hk), fun k a hk ha => ?_, fun k hk => (d3' k (by rw [A1]; exact hk)).trans (B3 k hk), Int.le_trans B4 d4', Int.le_trans B5 d5', fun k hk => (d6' k (by omega)).trans (B6 k hk), fun k h1 h2 => ?_⟩
    · have e := B2 k a hk ha
      have f := d2' k a (by rw [A5]; exact hk) ((B1 k hk).trans ha)
      exact ⟨f.1.trans e.1, f.2.trans e.2⟩
    · by_cases cc : (k : Int) < (x9.2.i 55).toInt
      · rw [d6' k cc]
        rcases B7 k h1 cc with z | z
        · exact Or.inl z
        · exact Or.inr ⟨z.1, by omega⟩
      · rcases d7' k (by omega) h2 with z | z
        · exact Or.inl z
        · exact Or.inr ⟨by omega, z.2⟩
  have rte : RTE S p19.2 := by
    unfold RTE at *
    omega
  obtain ⟨t21, t22, t23, t24, t25, t26, t27, t28, t29, t210⟩ := tbs.1.1
  obtain ⟨n21, n22, n23, n24, n25, n26, n27, n28, n29⟩ := s3
  obtain ⟨k21, k22, k23, -, k25, k26, k27, k28, k29, k210⟩ := j4.1.1
  have j7' : (u.i 11).toInt + 1 ≤ (V3.i 11).toInt := by rw [← z11]; exact j7
  have j9' : (u.i 17).toInt + 1 ≤ (V3.i 17).toInt := by rw [← z17]; exact j9
  refine Or.inr ⟨m3, V3, g4, ⟨j1, j2, (((fq t).tr (v3.tr (FRB.of o4))).tr w4).tr ((s4 t).tr (j3 t)), tr1, (tbs.2.tr (s2.wk l20)).tr (j4.2.wk (by rw [z20]; exact l20)), ⟨k21.trans (n21.trans t21), k22.trans (n22.trans t22), k23.trans (n23.trans t23), k25.trans (n24.trans t25), k26.trans (n25.trans t26), k27.trans (n26.trans t27), k28.trans (n27.trans t28), k29.trans (n28.trans t29), k210.trans (n29.trans t210)⟩, ckz, ⟨c3'.trans A3, c5'.trans A5, c6'.trans A6⟩, rte, ⟨by omega, by omega, by omega, by rw [j10, z19, w10, o12, v10, q19]⟩, ?_, fun _ => ?_, ?_⟩, c2'.trans (A2.trans h36), ?_⟩
  rotate_right
  · obtain ⟨-, -, -, -, -, -, -, -, -, -, -, -, -, i50, -, -, -, -, -, -, a48, a49, -, -, -, -, -, i21, -⟩ := pj_eq (kc_X9_advance N S p7 e7)
    have ke7 := ke_X9_advance N S p7 e7
    have h44 : (S.i 44).toInt + 4 ≤ (p7.2.i 44).toInt := by rw [hv.p44.1, a1.p44.1]; exact p4
    have y1 : CD1 (-4) (-4) S p7.2 := CD1.pe (b := 4) ke7 i21 i50 a48 a49 h44
    obtain ⟨y2, y3, y4, y5, -, y6⟩ := tok_cd a1 v1 (nn_pj e11 c2 v1.1.1) (ke_X7_newName N p7.2 p11 e11) (kre_f_X12_telling N q _ Q hQ) v7
    obtain ⟨y7, y8, y9, y10, -, y11⟩ := tok_cd v1 o3 o5 (ke_X1_expect N p11.2 61 x1 ex1) (kre_f_X12_need N Q.2 61 b hb) o7
    have qq := kre_f_X12_next N s q hq
    have tsb : TBK s b.2 := (kq.tr v5).tr kb
    exact cdw_tell hv (((y1.tr y2).tr y7).wk (by omega) (by omega)) (fun a b => ((CT7.eq (pe_eq ke7).2.2.2.1).tr (y3 a b)).tr (y8 a b)) (fun c => ((CD2.qe qq).tr (y4 c)).tr (y9 c)) (y10.trans (y5.trans (pe_eq ke7).1)) (y11.trans (y6.trans (qe_eq qq).1.1)) tsb.1.1.2.2.2.1 (fun j hj => (tsb.1.2.1 j hj).2.1) (by omega) (by rw [o12, v10, q19]) xc w1 u38 (fun j hj => (tbs.1.2.1 j hj).2.1) (by rw [w10, o12, v10, q19]) u11 ex9 t1.2.1.1 hz v42 V38 (fun j hj => (j4.1.2.1 j hj).2.1) (by rw [j10, z19, w10, o12, v10, q19]) (one U)
  · rw [j6]
    exact ⟨(c2'.trans (A2.trans h36)).symm, Or.inr (c2'.trans (A2.trans h36))⟩
  · rw [V38, s6, u38]
    rw [z11] at j7
    omega
  · rw [V38, s6, u38]
    omega
end
section
/-! both readers: the reference's instructions that wait for their aim -/
/-- an instruction of the row that is aimed at its end -/
def PLF (S : CS) (s : RS) (c : CEL) (k : Int) : Prop := ((S.o c.2.1 0 = 203 ∨ S.o c.2.1 0 = 304) ∧ k = (s.a 66 (ceT c)).toInt) ∨ (S.o c.2.1 0 = 204 ∧ k = (s.a 68 (ceT c)).toInt) ∨ ((S.o c.2.1 0 = 205 ∨ S.o c.2.1 0 = 207) ∧ k = (s.a 67 (ceT c)).toInt)
/-- the jumps to a goal lie on its chain: col says to which one each belongs (true: breaks) -/
def COL (S : CS) (s : RS) (L : List CEL) (col : Nat → Option (Nat × Bool)) (b20 : Int) : Prop :=
  (∀ (k : Nat) (x : Nat × Bool), col k = some x → b20 ≤ (k : Int) ∧ (k : Int) < (s.i 20).toInt) ∧
  (∀ (k : Nat) (x : Nat × Bool), col k = some x → (s.a 22 k).toInt < 0 ∨ ∃ j : Nat, (s.a 22 k).toInt = (j : Int) ∧ j < k ∧ col j = some x) ∧
  (∀ c ∈ L, isGo (S.o c.2.1 0) → ((s.a 48 (ceG c)).toInt < 0 ∨ ∃ j : Nat, (s.a 48 (ceG c)).toInt = (j : Int) ∧ col j = some (ceG c, true)) ∧ ((s.a 49 (ceG c)).toInt < 0 ∨ ∃ j : Nat, (s.a 49 (ceG c)).toInt = (j : Int) ∧ col j = some (ceG c, false))) ∧
  (∀ (k g : Nat) (e : Bool), col k = some (g, e) → ∃ c ∈ L, isGo (S.o c.2.1 0) ∧ ceG c = g) ∧
  (∀ c ∈ L, S.o c.2.1 0 = 218 → b20 ≤ (s.a 66 (ceT c)).toInt ∧ (s.a 66 (ceT c)).toInt < (s.i 20).toInt ∧ col (s.a 66 (ceT c)).toInt.toNat = none) ∧
  (∀ c ∈ L, ∀ q ∈ L, S.o c.2.1 0 = 218 → S.o q.2.1 0 = 218 → c.1 < q.1 → (s.a 66 (ceT c)).toInt < (s.a 66 (ceT q)).toInt) ∧
  (∀ c ∈ L, ∀ k : Int, PLF S s c k → b20 ≤ k ∧ k < (s.i 20).toInt ∧ col k.toNat = none ∧ ∀ q ∈ L, S.o q.2.1 0 = 218 → ¬ k = (s.a 66 (ceT q)).toInt)
theorem COL.mv {S R : CS} {s u : RS} {T : Nat} {L : List CEL} {col : Nat → Option (Nat × Bool)} {b20 : Int} (h : COL S s L col b20) (h0 : 0 ≤ b20) (hin : INL S s T L) (ck : CKZ S R) (f : FRB T s u) (tb : TBR s u) (cd : CDK (s.i 20).toInt s u) : COL R u L col b20 := by
  obtain ⟨h1, h2, h3, h4, h5, h6, h7⟩ := h
  have eo := fun c hc => (hin.o ck c hc).1
  have w1 : ∀ v : Int32, 1 ≤ wid v := fun v => by
    unfold wid
    by_cases c1 : v = 301 ∨ v = 302 ∨ v = 218
    · rw [if_pos c1]; decide
    · rw [if_neg c1]
      by_cases c2 : v = 212 ∨ v = 213 ∨ v = 215 ∨ v = 216
      · rw [if_pos c2]; decide
      · rw [if_neg c2]; exact Nat.le_refl _
  have fr : ∀ c ∈ L, u.a 66 (ceT c) = s.a 66 (ceT c) ∧ u.a 67 (ceT c) = s.a 67 (ceT c) ∧ u.a 68 (ceT c) = s.a 68 (ceT c) := fun c hc => by
    have a := (hin c hc).2.2.1
    have b := w1 (S.o c.2.1 0)
    have z := f (ceT c) (by omega)
    exact ⟨z.2.2.1, z.2.2.2.1, z.2.2.2.2.1⟩
  have l20 := cd.1
  refine ⟨fun k x e => ?_, fun k x e => ?_, fun c hc q => ?_, fun k g e q => ?_, fun c hc q => ?_, fun c hc q hq t1 t2 l => ?_, fun c hc k p => ?_⟩
  · have := h1 k x e
    omega
  · rw [cd.2 k (h1 k x e).2]
    exact h2 k x e
  · rw [eo c hc] at q
    have z := tb.2.1 (ceG c) ((hin c hc).2.2.2.1 q)
    rw [z.2.2.2.2.2.2.1, z.2.2.2.2.2.2.2]
    exact h3 c hc q
  · obtain ⟨c, hc, g1, g2⟩ := h4 k g e q
    exact ⟨c, hc, by rw [eo c hc]; exact g1, g2⟩
  · rw [eo c hc] at q
    rw [(fr c hc).1]
    have z := h5 c hc q
    exact ⟨z.1, by omega, z.2.2⟩
  · rw [eo c hc] at t1
    rw [eo q hq] at t2
    rw [(fr c hc).1, (fr q hq).1]
    exact h6 c hc q hq t1 t2 l
  · have p' : PLF S s c k := by
      unfold PLF at *
      rw [eo c hc, (fr c hc).1, (fr c hc).2.1, (fr c hc).2.2] at p
      exact p
    obtain ⟨z1, z2, z3, z4⟩ := h7 c hc k p'
    exact ⟨z1, by omega, z3, fun q hq t => by rw [eo q hq] at t; rw [(fr q hq).1]; exact z4 q hq t⟩
/-- a row more that has no goal, is no switch and waits for nothing -/
theorem COL.add {S : CS} {s : RS} {L : List CEL} {c1 : CEL} {col : Nat → Option (Nat × Bool)} {b20 : Int} (h : COL S s L col b20) (ng : ¬ isGo (S.o c1.2.1 0)) (ns : ¬ S.o c1.2.1 0 = 218) (np : ∀ k : Int, ¬ PLF S s c1 k) : COL S s (c1 :: L) col b20 := by
  obtain ⟨h1, h2, h3, h4, h5, h6, h7⟩ := h
  refine ⟨h1, h2, fun c hc q => ?_, fun k g e q => ?_, fun c hc q => ?_, fun c hc q hq t1 t2 l => ?_, fun c hc k p => ?_⟩
  · rcases List.mem_cons.mp hc with rfl | hc
    · exact absurd q ng
    · exact h3 c hc q
  · obtain ⟨c, hc, g1, g2⟩ := h4 k g e q
    exact ⟨c, List.mem_cons_of_mem _ hc, g1, g2⟩
  · rcases List.mem_cons.mp hc with rfl | hc
    · exact absurd q ns
    · exact h5 c hc q
  · rcases List.mem_cons.mp hc with rfl | hc
    · exact absurd t1 ns
    · rcases List.mem_cons.mp hq with rfl | hq
      · exact absurd t2 ns
      · exact h6 c hc q hq t1 t2 l
  · rcases List.mem_cons.mp hc with rfl | hc
    · exact absurd p (np k)
    · obtain ⟨z1, z2, z3, z4⟩ := h7 c hc k p
      refine ⟨z1, z2, z3, fun q hq t => ?_⟩
      rcases List.mem_cons.mp hq with rfl | hq
      · exact absurd t ns
      · exact z4 q hq t
end
section
/-! both readers: what stands between two turns -/
def dbt (v : Int32) : Int := if v = 205 ∨ v = 207 then 1 else if v = 304 then 2 else 0
def DSM (S : CS) : List CEL → Int
  | [] => 0
  | c :: L => (nDp (S.o c.2.1 0) : Int) + DSM S L
def PDM (S : CS) : List CEL → Int
  | [] => 0
  | c :: L => dbt (S.o c.2.1 0) + PDM S L
theorem DSM.eq {S R : CS} : ∀ (L : List CEL), (∀ c ∈ L, R.o c.2.1 = S.o c.2.1) → DSM R L = DSM S L ∧ PDM R L = PDM S L
  | [], _ => ⟨rfl, rfl⟩
  | c :: L, h => by
    obtain ⟨h1, h2⟩ := DSM.eq L (fun d hd => h d (List.mem_cons_of_mem _ hd))
    unfold DSM PDM
    rw [h1, h2, h c List.mem_cons_self]
    exact ⟨rfl, rfl⟩
theorem PDM.ge (S : CS) : ∀ L : List CEL, 0 ≤ PDM S L ∧ 0 ≤ DSM S L
  | [] => ⟨Int.le_refl _, Int.le_refl _⟩
  | c :: L => by
    obtain ⟨h1, h2⟩ := PDM.ge S L
    unfold PDM DSM dbt
    refine ⟨?_, by omega⟩
    by_cases c1 : S.o c.2.1 0 = 205 ∨ S.o c.2.1 0 = 207
    · rw [if_pos c1]; omega
    · rw [if_neg c1]
      by_cases c2 : S.o c.2.1 0 = 304
      · rw [if_pos c2]; omega
      · rw [if_neg c2]; omega
/-- the reference's tables below b's counts -/
def TBB (b s : RS) : Prop := (b.i 38).toInt ≤ (s.i 38).toInt ∧ (b.i 43).toInt ≤ (s.i 43).toInt ∧ (b.i 56).toInt ≤ (s.i 56).toInt ∧ (∀ j : Nat, (j : Int) < (b.i 38).toInt → s.b 39 j = b.b 39 j ∧ s.a 40 j = b.a 40 j ∧ s.a 41 j = b.a 41 j) ∧ (∀ j : Nat, (j : Int) < (b.i 43).toInt → s.a 44 j = b.a 44 j ∧ s.b 45 j = b.b 45 j ∧ s.a 46 j = b.a 46 j ∧ s.a 47 j = b.a 47 j ∧ s.a 50 j = b.a 50 j ∧ s.a 51 j = b.a 51 j ∧ s.a 48 j = b.a 48 j ∧ s.a 49 j = b.a 49 j) ∧ (∀ j : Nat, (j : Int) < (b.i 56).toInt → s.a 57 j = b.a 57 j ∧ s.a 58 j = b.a 58 j) ∧ (b.i 59).toInt ≤ (s.i 59).toInt ∧ (∀ j : Nat, (j : Int) < (b.i 59).toInt → s.a 60 j = b.a 60 j ∧ s.a 61 j = b.a 61 j ∧ s.a 62 j = b.a 62 j) ∧ (b.i 29).toInt ≤ (s.i 29).toInt ∧ (∀ j : Nat, (j : Int) < (b.i 29).toInt → s.a 30 j = b.a 30 j) ∧ (b.i 33).toInt ≤ (s.i 33).toInt ∧ (∀ j : Nat, (j : Int) < (b.i 33).toInt → s.a 34 j = b.a 34 j ∧ s.a 37 j = b.a 37 j) ∧ (b.i 24).toInt ≤ (s.i 24).toInt ∧ (∀ j : Nat, (j : Int) < (b.i 24).toInt → s.a 25 j = b.a 25 j ∧ s.a 27 j = b.a 27 j ∧ s.a 28 j = b.a 28 j)
theorem TBB.mv {b s u : RS} (h : TBB b s) (g : TBR s u) (h38 : (b.i 38).toInt ≤ (u.i 38).toInt) (h43 : (b.i 43).toInt ≤ (u.i 43).toInt) (h56 : (b.i 56).toInt ≤ (u.i 56).toInt) : TBB b u := by
  obtain ⟨a1, a2, a3, p0, p1, p2, p3, p4, p5, p6, p7, p8, p9, p10⟩ := h
  obtain ⟨q0, q1, q2, ⟨q3a, q3b⟩, q4, q5, q6, q7, q8, q9, q10⟩ := g
  refine ⟨h38, h43, h56, fun j hj => ?_, fun j hj => ?_, fun j hj => ?_, by omega, fun j hj => ?_, by omega, fun j hj => (q6 j (by omega)).trans (p6 j hj), by omega, fun j hj => ?_, by omega, fun j hj => ?_⟩
  · obtain ⟨x1, x2, x3⟩ := p0 j hj
    obtain ⟨y1, y2, y3⟩ := q0 j (by omega)
    exact ⟨y1.trans x1, y2.trans x2, y3.trans x3⟩
  · obtain ⟨x1, x2, x3, x4, x5, x6, x7, x8⟩ := p1 j hj
    obtain ⟨y1, y2, y3, y4, y5, y6, y7, y8⟩ := q1 j (by omega)
    exact ⟨y1.trans x1, y2.trans x2, y3.trans x3, y4.trans x4, y5.trans x5, y6.trans x6, y7.trans x7, y8.trans x8⟩
  · obtain ⟨x1, x2⟩ := p2 j hj
    obtain ⟨y1, y2⟩ := q2 j (by omega)
    exact ⟨y1.trans x1, y2.trans x2⟩
  · obtain ⟨x1, x2, x3⟩ := p4 j hj
    obtain ⟨y1, y2, y3⟩ := q4 j (by omega)
    exact ⟨y1.trans x1, y2.trans x2, y3.trans x3⟩
  · obtain ⟨x1, x2⟩ := p8 j hj
    obtain ⟨y1, y2⟩ := q8 j (by omega)
    exact ⟨y1.trans x1, y2.trans x2⟩
  · obtain ⟨x1, x2, x3⟩ := p10 j hj
    obtain ⟨y1, y2, y3⟩ := q10 j (by omega)
    exact ⟨y1.trans x1, y2.trans x2, y3.trans x3⟩
/-- the class since the base -/
def CBB (B S : CS) : Prop := (∀ k : Nat, (k : Int) < (B.i 53).toInt → S.r 51 k = B.r 51 k) ∧ (∀ k a : Nat, (k : Int) < (B.i 53).toInt → B.r 51 k = some a → S.o a = B.o a ∧ S.ol a = B.ol a) ∧ (B.i 53).toInt ≤ (S.i 53).toInt ∧ (B.i 22).toInt ≤ (S.i 22).toInt ∧ (∀ k : Nat, (k : Int) < (B.i 22).toInt → S.a 18 k = B.a 18 k) ∧ (B.i 54).toInt ≤ (S.i 54).toInt ∧ (B.i 55).toInt ≤ (S.i 55).toInt ∧ (∀ k : Nat, (k : Int) < (B.i 55).toInt → S.a 52 k = B.a 52 k) ∧ (∀ k : Nat, (B.i 55).toInt ≤ (k : Int) → (k : Int) < (S.i 55).toInt → S.a 52 k = 0 ∨ 2 * (B.i 54).toInt + 1 < (S.a 52 k).toInt) ∧ RTE B S ∧ S.i 56 = B.i 56
theorem CBB.mv {B S R : CS} (h : CBB B S) (ck : CKZ S R) (r : RTE S R) (h53 : (B.i 53).toInt ≤ (R.i 53).toInt) (e56 : R.i 56 = S.i 56) : CBB B R := by
  obtain ⟨a1, a2, a3, a4, a5, a6, a7, a8, a9, a10, a11⟩ := h
  obtain ⟨c1, c2, c3, c4, c5, c6, c7, c8⟩ := ck
  refine ⟨fun k hk => (c2 k (by omega)).trans (a1 k hk), fun k a hk ha => ?_, h53, by rw [c1]; exact a4, fun k hk => (c4 k (by omega)).trans (a5 k hk), by omega, by omega, fun k hk => (c7 k (by omega)).trans (a8 k hk), fun k h1 h2 => ?_, ?_, e56.trans a11⟩
  · have e := a2 k a hk ha
    have f := c3 k a (by omega) ((a1 k hk).trans ha)
    exact ⟨f.1.trans e.1, f.2.trans e.2⟩
  · by_cases c : (k : Int) < (S.i 55).toInt
    · rw [c7 k c]
      exact a9 k h1 c
    · rcases c8 k (by omega) h2 with z | z
      · exact Or.inl z
      · exact Or.inr (by omega)
  · unfold RTE at *
    omega
/-- where the cases of the base end -/
def cfl (S : CS) : List CEL → Int → Int
  | [], m => m
  | c :: L, m => cfl S L (if S.o c.2.1 0 = 218 then (S.o c.2.1 13).toInt else m)
theorem cfl.eq {S R : CS} : ∀ (L : List CEL) (m : Int), (∀ y ∈ L, R.o y.2.1 = S.o y.2.1) → cfl R L m = cfl S L m
  | [], _, _ => rfl
  | c :: L, m, h => by
    unfold cfl
    rw [h c List.mem_cons_self]
    exact cfl.eq L _ (fun y hy => h y (List.mem_cons_of_mem _ hy))
/-- a row's names are not fewer than at the base; the cases below the rows' are the base's -/
def OBS (B : CS) (b : RS) (S : CS) (s : RS) (L : List CEL) : Prop := (∀ y ∈ L, (b.i 38).toInt ≤ (S.o y.2.1 3).toInt ∧ (S.o y.2.1 3).toInt ≤ (S.i 50).toInt) ∧ (∀ y ∈ L, ∀ z ∈ L, y.1 < z.1 → (S.o y.2.1 3).toInt ≤ (S.o z.2.1 3).toInt) ∧ cfl S L (S.i 22).toInt = (B.i 22).toInt ∧ ∀ y ∈ L, (isTy (S.o y.2.1 0) → 0 ≤ (s.a 72 (ceT y)).toInt → (b.i 33).toInt ≤ (s.a 72 (ceT y)).toInt) ∧ (S.o y.2.1 0 = 218 → 0 ≤ (s.a 67 (ceT y)).toInt → (b.i 24).toInt ≤ (s.a 67 (ceT y)).toInt)
theorem FRB72 {S : CS} {s u : RS} {T : Nat} {L : List CEL} (hin : INL S s T L) (f : FRB T s u) : ∀ y ∈ L, u.a 72 (ceT y) = s.a 72 (ceT y) ∧ u.a 67 (ceT y) = s.a 67 (ceT y) := fun y hy => by
  have a := (hin y hy).2.2.1
  have w1 : 1 ≤ wid (S.o y.2.1 0) := by
    unfold wid
    by_cases c1 : S.o y.2.1 0 = 301 ∨ S.o y.2.1 0 = 302 ∨ S.o y.2.1 0 = 218
    · rw [if_pos c1]; decide
    · rw [if_neg c1]
      by_cases c2 : S.o y.2.1 0 = 212 ∨ S.o y.2.1 0 = 213 ∨ S.o y.2.1 0 = 215 ∨ S.o y.2.1 0 = 216
      · rw [if_pos c2]; decide
      · rw [if_neg c2]; exact Nat.le_refl _
  exact ⟨(f (ceT y) (by omega)).2.2.2.2.2.2.2.2.1, (f (ceT y) (by omega)).2.2.2.1⟩
theorem OBS.mv {B : CS} {b : RS} {S R : CS} {s u : RS} {L : List CEL} (h : OBS B b S s L) (e : ∀ y ∈ L, R.o y.2.1 = S.o y.2.1) (e22 : R.i 22 = S.i 22) (l : (S.i 50).toInt ≤ (R.i 50).toInt) (e72 : ∀ y ∈ L, u.a 72 (ceT y) = s.a 72 (ceT y) ∧ u.a 67 (ceT y) = s.a 67 (ceT y)) : OBS B b R u L := by
  refine ⟨fun y hy => ?_, fun y hy z hz q => ?_, ?_, fun y hy => ⟨fun t z => ?_, fun t z => ?_⟩⟩
  · rw [e y hy]
    have := h.1 y hy
    omega
  · rw [e y hy, e z hz]
    exact h.2.1 y hy z hz q
  · rw [cfl.eq L _ e, e22]
    exact h.2.2.1
  · rw [e y hy] at t
    rw [(e72 y hy).1] at z ⊢
    exact (h.2.2.2 y hy).1 t z
  · rw [e y hy] at t
    rw [(e72 y hy).2] at z ⊢
    exact (h.2.2.2 y hy).2 t z
/-- the sign of a row -/
def nSg (v : Int32) : Nat := if v = 301 ∨ v = 302 ∨ v = 212 ∨ v = 213 ∨ v = 215 ∨ v = 216 ∨ v = 218 then 1 else 0
def SSM (S : CS) : List CEL → Int
  | [] => 0
  | c :: L => (nSg (S.o c.2.1 0) : Int) + SSM S L
theorem SSM.eq {S R : CS} : ∀ (L : List CEL), (∀ c ∈ L, R.o c.2.1 0 = S.o c.2.1 0) → SSM R L = SSM S L
  | [], _ => rfl
  | c :: L, h => by
    have z := SSM.eq L (fun d hd => h d (List.mem_cons_of_mem _ hd))
    unfold SSM
    rw [z, h c List.mem_cons_self]
theorem SSM.ge (S : CS) : ∀ L : List CEL, 0 ≤ SSM S L
  | [] => Int.le_refl _
  | c :: L => by
    have := SSM.ge S L
    unfold SSM
    omega
theorem SSM.eo {S R : CS} (L : List CEL) (h : ∀ c ∈ L, R.o c.2.1 = S.o c.2.1) : SSM R L = SSM S L := SSM.eq L (fun c hc => by rw [h c hc])
theorem rsI_id {r : RS} {k : Nat} {v : Int32} (h : r.i k = v) : RS.setI r k v = r := by
  have e : va_up r.i k v = r.i := by
    funext j
    show (if j = k then v else r.i j) = r.i j
    by_cases z : j = k
    · rw [if_pos z, z, h]
    · exact if_neg z
  show ((va_up r.i k v, r.l, r.a, r.b) : RS) = r
  rw [e]
  rfl
/-- all that stands, with L the rows from the top down to the base's; x: what the labels at the top must have -/
def COR (d : Int32) (B : CS) (b : RS) (t0 : Nat) (L : List CEL) (x : Int) (S : CS) (s : RS) : Prop := ENV d S s ∧ STK S s L (S.i 22).toInt (s.i 24).toInt (s.i 33).toInt ∧ JMQ S s L (b.i 59).toInt (b.i 29).toInt ∧ LBC S s L x ∧ CBB B S ∧ (FRB t0 b s ∧ TBB b s ∧ CDK (b.i 20).toInt b s ∧ (s.i 2 = b.i 2 ∧ s.i 3 = b.i 3 ∧ s.i 8 = b.i 8 ∧ s.a 1 = b.a 1 ∧ s.a 4 = b.a 4 ∧ s.b 9 = b.b 9)) ∧ ((b.i 11).toInt + 1 ≤ (s.i 11).toInt ∧ phI b + PDM S L ≤ phI s ∧ (b.i 17).toInt ≤ (s.i 17).toInt ∧ (s.i 19).toInt = (b.i 19).toInt + SSM S L) ∧ ((S.i 38).toInt = (B.i 38).toInt + DSM S L ∧ OBS B b S s L) ∧ ((S.i 21).toInt ≤ 3 * (s.i 11).toInt ∧ 8 * ((s.i 38).toInt - 2) ≤ (s.i 11).toInt ∧ (S.i 54).toInt ≤ (s.i 11).toInt + 1) ∧ IAR S s ∧ (0 ≤ (b.i 29).toInt ∧ 3 ≤ phI b ∧ 0 ≤ (b.i 20).toInt ∧ ∃ col : Nat → Option (Nat × Bool), COL S s L col (b.i 20).toInt)
/-- the row at the top -/
def TOP (S : CS) (s : RS) (c : CEL) : Prop := (S.i 53).toInt = (c.1 : Int) + 1 ∧ (s.i 43).toInt = (ceG c : Int) + (nGo (S.o c.2.1 0) : Int) ∧ (s.i 56).toInt = (ceW c : Int) + (nWl (S.o c.2.1 0) : Int)
/-- the rows, their frames, goals and walls lie where they should -/
theorem STK.inl {S : CS} {s : RS} : ∀ (L : List CEL) (c : CEL) (m e k : Int), STK S s (c :: L) m e k → (c.1 : Int) < (S.i 53).toInt → (ceG c : Int) + (nGo (S.o c.2.1 0) : Int) ≤ (s.i 43).toInt → (ceW c : Int) + (nWl (S.o c.2.1 0) : Int) ≤ (s.i 56).toInt → INL S s (ceT c + wid (S.o c.2.1 0)) (c :: L)
  | L, c, m, e, k, h, h1, h2, h3 => by
    obtain ⟨m', e', k', q1, q2, q3⟩ := h
    have gg : isGo (S.o c.2.1 0) → nGo (S.o c.2.1 0) = 1 := fun q => by
      unfold nGo
      exact if_pos q
    have ww : isWl (S.o c.2.1 0) → nWl (S.o c.2.1 0) = 1 := fun q => by
      unfold nWl
      exact if_pos q
    have here : (c.1 : Int) < (S.i 53).toInt ∧ S.r 51 c.1 = some c.2.1 ∧ ceT c + wid (S.o c.2.1 0) ≤ ceT c + wid (S.o c.2.1 0) ∧ (isGo (S.o c.2.1 0) → (ceG c : Int) < (s.i 43).toInt) ∧ (isWl (S.o c.2.1 0) → (ceW c : Int) < (s.i 56).toInt) := ⟨h1, q1.1, Nat.le_refl _, fun q => by have := gg q; omega, fun q => by have := ww q; omega⟩
    cases L with
    | nil =>
      intro x hx
      rcases List.mem_cons.mp hx with rfl | hx
      · exact here
      · exact absurd hx List.not_mem_nil
    | cons c0 L =>
      obtain ⟨l1, -⟩ := q2 c0 rfl
      obtain ⟨y1, y2, y3, y4, -⟩ := l1
      have ih0 := STK.inl L c0 m' e' k' q3 (by omega) (by omega) (by omega)
      intro x hx
      rcases List.mem_cons.mp hx with rfl | hx
      · exact here
      · obtain ⟨z1, z2, z3, z4, z5⟩ := ih0 x hx
        exact ⟨z1, z2, by omega, z4, z5⟩
/-- over a piece that keeps all rows -/
theorem COR.mv {d : Int32} {B : CS} {b : RS} {t0 T : Nat} {L : List CEL} {x : Int} {S R : CS} {s u : RS} (h : COR d B b t0 L x S s) (hin : INL S s T L) (hT : t0 ≤ T) (ev : ENV d R u) (f : FRB T s u) (tb : TBR s u) (cd : CDK (s.i 20).toInt s u) (nm : NMO s u) (ck : CKZ S R) (i3 : R.i 38 = S.i 38 ∧ R.i 53 = S.i 53 ∧ R.i 56 = S.i 56) (rt : RTE S R) (q : (s.i 11).toInt ≤ (u.i 11).toInt ∧ phI s ≤ phI u ∧ (s.i 17).toInt ≤ (u.i 17).toInt ∧ (u.i 19).toInt = (s.i 19).toInt) (n8 : 8 * ((u.i 38).toInt - 2) ≤ (u.i 11).toInt) (l38 : (s.i 38).toInt ≤ (u.i 38).toInt) : COR d B b t0 L x R u := by
  obtain ⟨h1, h2, h3, h4, h5, ⟨h6, h7, h8, h9⟩, ⟨h10, h11, h12, hsg⟩, h13, ⟨h14, h15, h16⟩, h17, ⟨h18, h19, h20, col, h21⟩⟩ := h
  have eo := fun c hc => (hin.o ck c hc).1
  obtain ⟨d1, d2⟩ := DSM.eq L eo
  obtain ⟨m1, m2, m3, m4, m5, m6, m7, m8, m9⟩ := nm
  have k11 := h1.1.2.2.2.1.1
  have k11' := ev.1.2.2.2.1.1
  have rt' := rt
  unfold RTE at rt'
  rw [k11, k11'] at rt'
  have sj := h1.sj
  refine ⟨ev, ?_, h3.mv h18 sj.1 hin ck f tb, LBC.mv L x h4 eo (fun c hc z => ?_), h5.mv ck rt (by rw [i3.2.1]; exact h5.2.2.1) i3.2.2, ⟨h6.tr (f.mo hT), h7.mv tb (by have := h7.1; omega) (by rw [m4]; exact h7.2.1) (by rw [m6]; exact h7.2.2.1), h8.tr (cd.wk h8.1), ⟨m1.trans h9.1, m2.trans h9.2.1, m3.trans h9.2.2.1, m7.trans h9.2.2.2.1, m8.trans h9.2.2.2.2.1, m9.trans h9.2.2.2.2.2⟩⟩, ⟨by omega, by rw [d2]; omega, by omega, by rw [SSM.eo L eo]; omega⟩, ⟨by rw [i3.1, d1]; exact h13.1, h13.2.mv eo ck.1 (by rw [h1.2.1.1, ev.2.1.1]; exact l38) (FRB72 hin f)⟩, ⟨by omega, n8, by omega⟩, ?_, h18, h19, h20, col, h21.mv h20 hin ck f tb cd⟩
  · have st := STK.mv ck f tb cd L _ _ _ h2 hin (Int.le_refl _) (Int.le_refl _) (Int.le_refl _)
    rw [ck.1]
    exact st.hi (tb.2.2.2.2.2.2.2.2.2.1) (tb.2.2.2.2.2.2.2.1)
  · exact (tb.2.1 (ceG c) ((hin c hc).2.2.2.1 (Or.inl z))).2.2.1
  · obtain ⟨⟨a1, a2⟩, a3⟩ := h17
    unfold IAR
    rw [i3.2.2, i3.2.1, m4]
    refine ⟨⟨fun z => ?_, fun z => ?_⟩, fun z => ?_⟩
    · obtain ⟨g, g1, g2⟩ := a1 z
      exact ⟨g, g1, (tb.2.1 g g1).1.trans g2⟩
    · obtain ⟨g, g1, g2⟩ := z
      exact a2 ⟨g, g1, (tb.2.1 g g1).1.symm.trans g2⟩
    · obtain ⟨y1, y2, a, y3⟩ := a3 z
      exact ⟨y1, y2, a, (ck.2.1 _ (by omega)).trans y3⟩
/-- the base's signs are counted otherwise -/
theorem COR.rb {d : Int32} {B : CS} {b : RS} {t0 : Nat} {L : List CEL} {x : Int} {S : CS} {s : RS} {w : Int32} (h : COR d B b t0 L x S s) (hw : (s.i 19).toInt = w.toInt + SSM S L) : COR d B (RS.setI b 19 w) t0 L x S s := by
  obtain ⟨h1, h2, h3, h4, h5, h6, ⟨h10, h11, h12, -⟩, h13, h14, h17, h18⟩ := h
  exact ⟨h1, h2, h3, h4, h5, h6, ⟨h10, h11, h12, hw⟩, h13, h14, h17, h18⟩
end
section
/-! both readers: a statement begins -/
theorem ENV.late {d : Int32} {S : CS} {s : RS} {v w : Int32} (h : ENV d S s) (hv : 0 ≤ v.toInt) (hw : 0 ≤ w.toInt) : ENV d (CS.setI S 37 v) (RS.setI s 18 w) := by
  obtain ⟨⟨h1, h2, h3, h4, h5, h6, h7, h8⟩, n, o, c, l, k, ⟨r1, r2, r3, r4, r5, r6, r7, r8, r9, r10, r11⟩⟩ := h
  exact ⟨⟨h1, h2, h3, h4, h5, h6, h7, h8⟩, n, o, c, ⟨fun _ => hw, fun _ => hv⟩, k, ⟨r1, r2, r3, r4, r5, r6, r7, r8.mv rfl rfl rfl rfl ⟨rfl, rfl, rfl⟩ r8.2.2.2.2.2.2 (Int.le_refl _), r9, r10, r11⟩⟩
/-- what cannot be reached is noted in both -/
theorem y_note {N : Nat} {d : Int32} {S : CS} {s V : RS} {R : Unit × CS} (h : ENV d S s) (e : f_X7_notReached N S (S.i 44) = some R) (g : f_X12_note N s (s.i 11) = some V) : ENV d R.2 V ∧ (R.2 = S ∨ R.2 = CS.setI S 37 (S.i 44)) ∧ (V = s ∨ V = RS.setI s 18 (s.i 11)) := by
  have hi := i11_hi h
  have h15 := h.1.2.1
  have k11 := h.1.2.2.2.1.1
  have lt := h.2.2.2.2.1
  unfold f_X7_notReached at e
  unfold f_X12_note at g
  rw [if_pos h15] at g
  by_cases c : 0 ≤ S.i 37
  · rw [if_pos c] at e
    cases e
    have c' : 0 ≤ (S.i 37).toInt := by
      have := le_int c
      rw [z_t0] at this
      exact this
    rw [if_pos (show 0 ≤ s.i 18 by rw [Int32.le_iff_toInt_le, z_t0]; exact lt.mp c')] at g
    cases g
    exact ⟨h, Or.inl rfl, Or.inl rfl⟩
  · rw [if_neg c] at e
    cases e
    have c' : ¬ 0 ≤ (S.i 37).toInt := fun z => c (by rw [Int32.le_iff_toInt_le, z_t0]; exact z)
    rw [if_neg (show ¬ 0 ≤ s.i 18 from fun z => c' (lt.mpr (by have := le_int z; rw [z_t0] at this; exact this)))] at g
    cases g
    exact ⟨h.late (by rw [k11]; exact hi.1) hi.1, Or.inr rfl, Or.inr rfl⟩
/-- only frames are other -/
def QLS (s V : RS) : Prop := (∀ k : Nat, k ≠ 18 → k ≠ 63 → V.i k = s.i k) ∧ ∀ k : Nat, k < 64 → V.a k = s.a k
/-- a list goes on: the statement's frame stands above it -/
theorem y_list {N : Nat} (hN : 1000 ≤ N) {E1 : CS → Option (Unit × CS)} {E2 : CS → Option (Int32 × CS)} {d : Int32} {S : CS} {s U : RS} {n t : Nat} {R : Unit × CS} (hv : ENV d S s) (ht : tpI s = t) (hk : s.a 64 t = 1) (hm : (s.a 65 t = 0 ∧ S.i 36 = 1) ∨ (s.a 65 t = 1 ∧ s.i 75 = S.i 36)) (hb : S.i 36 = 0 ∨ S.i 36 = 1) (n125 : ¬ s.i 10 = 125) (n429 : ¬ s.i 10 = 429) (n430 : ¬ s.i 10 = 430) (n0 : ¬ s.i 10 = 0) (e : f_X7_statement N E1 E2 S 0 = some R) (g : f_X12_parse_10 N n s = some U) : ∃ (S' : CS) (m : Nat) (V : RS), (S' = S ∨ S' = CS.setI S 37 (S.i 44)) ∧ f_X7_statement_18 N E1 E2 S' 0 = some R ∧ f_X12_parse_10 N m V = some U ∧ ENV d S' V ∧ tpI V = ((t + 1 : Nat) : Int) ∧ V.a 64 t = 1 ∧ V.a 65 t = 1 ∧ V.a 64 (t + 1) = 2 ∧ V.a 65 (t + 1) = 0 ∧ FRB t s V ∧ TBK s V ∧ phI V = phI s ∧ V.i 11 = s.i 11 ∧ V.i 17 = s.i 17 ∧ V.i 19 = s.i 19 ∧ QLS s V := by
  obtain ⟨m, V, hV, g2⟩ := rl_1 g ht hv.1.2.1 hk
  unfold f_X12_list at hV
  obtain ⟨hib, hV⟩ := hf_ite hV
  rw [tp_nat ht] at hV
  have core : ∀ (v : Int32) (S' : CS) (y : RS), ENV d S' y → (y = RS.setA s 66 t v ∨ y = RS.setI (RS.setA s 66 t v) 18 (s.i 11)) → f_X12_list_110 N y = some V → ENV d S' V ∧ tpI V = ((t + 1 : Nat) : Int) ∧ V.a 64 t = 1 ∧ V.a 65 t = 1 ∧ V.a 64 (t + 1) = 2 ∧ V.a 65 (t + 1) = 0 ∧ FRB t s V ∧ TBK s V ∧ phI V = phI s ∧ V.i 11 = s.i 11 ∧ V.i 17 = s.i 17 ∧ V.i 19 = s.i 19 ∧ QLS s V := fun v S' y ey hy h => by
    unfold f_X12_list_110 at h
    rw [ob_id] at h
    have yi : ∀ k : Nat, k ≠ 18 → y.i k = s.i k := by
      rcases hy with q | q <;> rw [q]
      · exact fun _ _ => rfl
      · exact fun k h => if_neg h
    have ya : ∀ k : Nat, k ≠ 66 → y.a k = s.a k := by
      rcases hy with q | q <;> rw [q]
      · exact fun k h => if_neg h
      · exact fun k h => if_neg h
    have yb : y.b = s.b := by
      rcases hy with q | q <;> rw [q] <;> rfl
    have yj : ∀ j : Nat, ¬ j = t → y.a 66 j = s.a 66 j := by
      rcases hy with q | q <;> rw [q]
      · exact fun j h => setA_ne h
      · exact fun j h => setA_ne h
    have ty : tpI y = t := by
      show (y.i 63).toInt = (t : Int)
      rw [yi 63 (by decide)]
      exact ht
    obtain ⟨hV', t9⟩ := r_then ty h
    rw [hV']
    have fy : FRB t s y := fun j hj => ⟨by rw [ya 64 (by decide)], by rw [ya 65 (by decide)], yj j (by omega), by rw [ya 67 (by decide)], by rw [ya 68 (by decide)], by rw [ya 69 (by decide)], by rw [ya 70 (by decide)], by rw [ya 71 (by decide)], by rw [ya 72 (by decide)], by rw [ya 73 (by decide)], by rw [yb]⟩
    have ky : TBK s y := ⟨⟨⟨yi 2 (by decide), yi 3 (by decide), yi 8 (by decide), yi 38 (by decide), yi 43 (by decide), yi 2 (by decide), yi 56 (by decide), ya 1 (by decide), ya 4 (by decide), by rw [yb]⟩, fun j _ => ⟨by rw [yb], by rw [ya 40 (by decide)], by rw [ya 41 (by decide)]⟩, fun j _ => ⟨by rw [ya 44 (by decide)], by rw [yb], by rw [ya 46 (by decide)], by rw [ya 47 (by decide)], by rw [ya 50 (by decide)], by rw [ya 51 (by decide)], by rw [ya 48 (by decide)], by rw [ya 49 (by decide)]⟩, fun j _ => ⟨by rw [ya 57 (by decide)], by rw [ya 58 (by decide)]⟩, ⟨by rw [yi 59 (by decide)]; exact Int.le_refl _, fun j k1 k2 => by rw [yi 59 (by decide)] at k2; omega⟩, fun j _ => ⟨by rw [ya 60 (by decide)], by rw [ya 61 (by decide)], by rw [ya 62 (by decide)]⟩, by rw [yi 29 (by decide)]; exact Int.le_refl _, fun j _ => by rw [ya 30 (by decide)], by rw [yi 33 (by decide)]; exact Int.le_refl _, fun j _ => ⟨by rw [ya 34 (by decide)], by rw [ya 37 (by decide)]⟩, by rw [yi 24 (by decide)]; exact Int.le_refl _, fun j _ => ⟨by rw [ya 25 (by decide)], by rw [ya 27 (by decide)], by rw [ya 28 (by decide)]⟩⟩, by rw [yi 20 (by decide)]; exact Int.le_refl _, fun j _ => by rw [ya 22 (by decide)]⟩
    have py : phI y = phI s := by
      unfold phI
      rw [yi 17 (by decide), yi 20 (by decide)]
    exact ⟨ey.th, TH.tp ty (by omega), (TH.fk0 (Nat.le_refl t)).trans (by rw [ya 64 (by decide)]; exact hk), TH.st, TH.fk, TH.fs, fy.tr TH.frb, ky.tr TH.tbk, py, yi 11 (by decide), yi 17 (by decide), yi 19 (by decide), fun k k1 k2 => by rw [← yi k k1]; exact if_neg k2, fun k hk => (TH.loc (by omega) (by omega)).trans (ya k (by omega))⟩
  have go : ∀ v : Int32, f_X12_list_37 N (RS.setA s 66 t v) (s.i 63) = some V → (v = 0 ∧ S.i 36 = 0) ∨ (v = 1 ∧ S.i 36 = 1) → ∃ (S' : CS) (m : Nat) (V : RS), (S' = S ∨ S' = CS.setI S 37 (S.i 44)) ∧ f_X7_statement_18 N E1 E2 S' 0 = some R ∧ f_X12_parse_10 N m V = some U ∧ ENV d S' V ∧ tpI V = ((t + 1 : Nat) : Int) ∧ V.a 64 t = 1 ∧ V.a 65 t = 1 ∧ V.a 64 (t + 1) = 2 ∧ V.a 65 (t + 1) = 0 ∧ FRB t s V ∧ TBK s V ∧ phI V = phI s ∧ V.i 11 = s.i 11 ∧ V.i 17 = s.i 17 ∧ V.i 19 = s.i 19 ∧ QLS s V := fun v h hv2 => by
    unfold f_X12_list_37 at h
    have ev : ENV d S (RS.setA s 66 t v) := setA_env (Or.inr (by omega)) hv
    rw [if_neg (show ¬ (RS.setA s 66 t v).i 10 = 125 from n125), if_neg (show ¬ (RS.setA s 66 t v).i 10 = 429 from n429), if_neg (show ¬ (RS.setA s 66 t v).i 10 = 430 from n430), if_neg (show ¬ (RS.setA s 66 t v).i 10 = 0 from n0)] at h
    obtain ⟨-, h⟩ := hf_ite h
    rw [tp_nat ht, show (RS.setA s 66 t v).a 66 t = v from setA_at] at h
    unfold f_X7_statement at e
    rcases hv2 with ⟨y1, y2⟩ | ⟨y1, y2⟩
    · rw [if_pos y1] at h
      rw [if_pos y2] at e
      obtain ⟨p, ep, e⟩ := hf_bind e
      obtain ⟨y, hy, h⟩ := hf_bind h
      obtain ⟨z1, z2, z3⟩ := y_note ev ep hy
      exact ⟨p.2, m, V, z2, e, g2, core v p.2 y z1 z3 h⟩
    · rw [if_neg (show ¬ v = 0 by rw [y1]; decide)] at h
      rw [if_neg (show ¬ S.i 36 = 0 by rw [y2]; decide)] at e
      exact ⟨S, m, V, Or.inl rfl, e, g2, core v S _ ev (Or.inl rfl) h⟩
  rcases hm with ⟨m1, m2⟩ | ⟨m1, m2⟩
  · rw [if_pos m1] at hV
    exact go 1 hV (Or.inr ⟨rfl, m2⟩)
  · rw [if_neg (show ¬ s.a 65 t = 0 by rw [m1]; decide)] at hV
    by_cases c : s.i 75 = 0
    · rw [if_pos c] at hV
      exact go 0 hV (Or.inl ⟨rfl, m2.symm.trans c⟩)
    · rw [if_neg c] at hV
      refine go 1 hV (Or.inr ⟨rfl, ?_⟩)
      rw [m2] at c
      exact hb.resolve_left c
/-- the statement's frame gets its sort, the statement is counted -/
theorem ENV.stm {d : Int32} {S : CS} {s : RS} {t : Nat} {K : Int32} (h : ENV d S s) : ENV d (CS.setI (CS.setI S 36 1) 24 ((S.i 24) + 1)) (RS.setA (RS.setI s 53 ((s.i 53) + 1)) 64 t K) := by
  obtain ⟨⟨h1, h2, h3, h4, h5, h6, h7, h8⟩, n, o, ⟨c1, c2, c3⟩, l, k, ⟨r1, r2, r3, r4, r5, r6, r7, r8, r9, r10, r11⟩⟩ := h
  refine ⟨⟨h1, h2, h3, h4, h5, h6, h7, h8⟩, n, o, ⟨?_, c2, c3⟩, l, k, ⟨r1, r2, r3, r4, r5, r6, r7, r8.mv rfl rfl rfl rfl ⟨rfl, rfl, rfl⟩ r8.2.2.2.2.2.2 (Int.le_refl _), r9, r10, r11⟩⟩
  show S.i 24 + 1 = s.i 53 + 1
  rw [c1]
end
section
/-! both readers: a row more: the jumps -/
theorem JMQ.push {S R : CS} {s u : RS} {T : Nat} {L : List CEL} {B59 B29 : Int} {c1 : CEL} (h : JMQ S s L B59 B29) (hin : INL S s T L) (eo : ∀ c ∈ L, R.o c.2.1 = S.o c.2.1) (e55 : R.i 55 = S.i 55) (e52 : R.a 52 = S.a 52) (e54 : (R.i 54).toInt = (S.i 54).toInt + 1) (f : FRB T s u) (hf : ∀ c ∈ L, isGo (S.o c.2.1 0) → ∀ b : Int, flg u (ceG c) b = flg s (ceG c) b) (e59 : u.i 59 = s.i 59) (e60 : u.a 60 = s.a 60) (e61 : u.a 61 = s.a 61) (e62 : u.a 62 = s.a 62) (h0 : 0 ≤ (S.i 54).toInt ∧ 0 ≤ (S.i 55).toInt) (s1 : (R.o c1.2.1 1).toInt = (S.i 54).toInt + 1) (s14 : R.o c1.2.1 14 = S.i 55) (hn : ∀ c ∈ L, c.1 < c1.1) (n216 : ¬ R.o c1.2.1 0 = 216) (hg : isGo (R.o c1.2.1 0) → ∀ b : Int, flg u (ceG c1) b = 0) (hy : isTy (R.o c1.2.1 0) → (u.a 66 (ceT c1)).toInt = (s.i 29).toInt) (hB : B29 ≤ (s.i 29).toInt) (hid : ∀ q ∈ L, isTy (S.o q.2.1 0) → (s.a 66 (ceT q)).toInt < (s.i 29).toInt) (hw : ∀ j : Nat, (j : Int) < (s.i 59).toInt → (s.a 62 j).toInt < (s.i 29).toInt) : JMQ R u (c1 :: L) B59 B29 := by
  obtain ⟨h1, h2, h3, h4, h5, h6, h7, h8⟩ := h
  have w1 : ∀ v : Int32, 1 ≤ wid v := fun v => by
    unfold wid
    by_cases c1 : v = 301 ∨ v = 302 ∨ v = 218
    · rw [if_pos c1]; decide
    · rw [if_neg c1]
      by_cases c2 : v = 212 ∨ v = 213 ∨ v = 215 ∨ v = 216
      · rw [if_pos c2]; decide
      · rw [if_neg c2]; exact Nat.le_refl _
  have e66 : ∀ c ∈ L, u.a 66 (ceT c) = s.a 66 (ceT c) := fun c hc => by
    have a := (hin c hc).2.2.1
    have b := w1 (S.o c.2.1 0)
    exact (f (ceT c) (by omega)).2.2.1
  have rc : ∀ c ∈ L, ∀ (b : Int) (i : Nat), RCD R c b i ↔ RCD S c b i := fun c hc b i => by
    unfold RCD
    rw [eo c hc, e55, e52]
  have rn : ∀ (b : Int) (i : Nat), b = 0 ∨ b = 1 → ¬ RCD R c1 b i := fun b i hb q => by
    obtain ⟨q1, -, q2⟩ := q
    rw [e55] at q1
    rw [s14] at q2
    omega
  have inr : ∀ q ∈ L, ∀ i : Nat, INR R q i ↔ INR S q i := fun q hq i => by
    unfold INR
    rw [eo q hq]
  have inn : ∀ i : Nat, (i : Int) < (S.i 55).toInt → ¬ INR R c1 i := fun i hi q => by
    have := q.1
    rw [s14] at this
    omega
  have saf : ∀ n i : Nat, (i : Int) < (S.i 55).toInt → SAF S L n i → SAF R (c1 :: L) n i := fun n i hi g q hq t l y => by
    rcases List.mem_cons.mp hq with rfl | hq
    · exact inn i hi y
    · exact g q hq (by rw [← eo q hq]; exact t) l ((inr q hq i).mp y)
  have pn : ∀ c q, q ∈ L → ∀ (b : Int) (k : Nat), PND s c q b k → PND u c q b k := fun c q hq b k g => by
    unfold PND at *
    rw [e59, e60, e61, e62, e66 q hq]
    exact g
  refine ⟨fun c hc q b hb i r => ?_, fun c hc q b hb r => ?_, fun k hk q hq t r => ?_, fun k k1 k2 => ?_, fun q hq t => ?_, fun q hq p hp t1 t2 l => ?_, fun c hc => ?_, ⟨fun i hi hg9 => ?_, fun c hc q b => ?_⟩⟩
  · rcases List.mem_cons.mp hc with rfl | hc
    · exact absurd r (rn b i hb)
    · rw [eo c hc] at q
      rcases h1 c hc q b hb i ((rc c hc b i).mp r) with z | ⟨k, p, hp, t, l, g, y⟩
      · exact Or.inl (by rw [hf c hc q]; exact z)
      · exact Or.inr ⟨k, p, List.mem_cons_of_mem _ hp, by rw [eo p hp]; exact t, l, pn c p hp b k g, (inr p hp i).mpr y⟩
  · rcases List.mem_cons.mp hc with rfl | hc
    · exact absurd r (by rw [hg q b]; decide)
    · rw [eo c hc] at q
      rw [hf c hc q] at r
      obtain ⟨i, i1, i2, i3⟩ := h2 c hc q b hb r
      exact ⟨i, (rc c hc b i).mpr i1, by rw [eo c hc]; exact i2, saf _ _ i1.1 i3⟩
  · rw [e59] at hk
    rw [e62] at r
    rcases List.mem_cons.mp hq with rfl | hq
    · exfalso
      have := hw k hk
      rw [r, hy t] at this
      omega
    · rw [eo q hq] at t
      rw [e66 q hq] at r
      obtain ⟨c, hc, g, l, b, hb, p, i, i1, i2, i3⟩ := h3 k hk q hq t r
      exact ⟨c, List.mem_cons_of_mem _ hc, by rw [eo c hc]; exact g, l, b, hb, pn c q hq b k p, i, (rc c hc b i).mpr i1, (inr q hq i).mpr i2, saf _ _ i1.1 i3⟩
  · rw [e59] at k2
    rw [e62]
    rcases h4 k k1 k2 with y | ⟨q, hq, t, r⟩
    · exact Or.inl y
    · exact Or.inr ⟨q, List.mem_cons_of_mem _ hq, by rw [eo q hq]; exact t, by rw [e66 q hq]; exact r⟩
  · rcases List.mem_cons.mp hq with rfl | hq
    · rw [hy t]
      exact hB
    · rw [eo q hq] at t
      rw [e66 q hq]
      exact h5 q hq t
  · rcases List.mem_cons.mp hp with rfl | hp2
    · rcases List.mem_cons.mp hq with rfl | hq
      · omega
      · rw [eo q hq] at t1
        rw [e66 q hq, hy t2]
        exact hid q hq t1
    · rcases List.mem_cons.mp hq with rfl | hq
      · have := hn p hp2
        omega
      · rw [eo q hq] at t1
        rw [eo p hp2] at t2
        rw [e66 q hq, e66 p hp2]
        exact h6 q hq p hp2 t1 t2 l
  · rcases List.mem_cons.mp hc with rfl | hc
    · exact ⟨by omega, by omega, by rw [s14]; exact h0.2, by rw [s14, e55]; exact Int.le_refl _, fun q => absurd q n216⟩
    · rw [eo c hc, e55]
      obtain ⟨g1, g2, g3, g4, g5⟩ := h7 c hc
      exact ⟨g1, by omega, g3, g4, g5⟩
  · rw [e55] at hi
    rw [e52]
    obtain ⟨c9, hc9, hl9⟩ := hg9
    rcases List.mem_cons.mp hc9 with z9 | hc9
    · rw [z9, s14] at hl9
      omega
    · rw [eo c9 hc9] at hl9
      have := h8.1 i hi ⟨c9, hc9, hl9⟩
      omega
  · rcases List.mem_cons.mp hc with rfl | hc
    · exact Or.inl (hg q b)
    · rw [eo c hc] at q
      rw [hf c hc q]
      exact h8.2 c hc q b
end
section
/-! both readers: a row less -/
theorem JMQ.drop {S : CS} {s : RS} {L : List CEL} {B59 B29 : Int} {c1 : CEL} (h : JMQ S s (c1 :: L) B59 B29) (nt : ¬ isTy (S.o c1.2.1 0)) (hn : ∀ c ∈ L, c.1 < c1.1) : JMQ S s L B59 B29 := by
  obtain ⟨h1, h2, h3, h4, h5, h6, h7, h8⟩ := h
  have nq : ∀ q ∈ c1 :: L, isTy (S.o q.2.1 0) → q ∈ L := fun q hq t => by
    rcases List.mem_cons.mp hq with rfl | hq
    · exact absurd t nt
    · exact hq
  have saf : ∀ n i : Nat, SAF S (c1 :: L) n i → SAF S L n i := fun n i g q hq => g q (List.mem_cons_of_mem _ hq)
  refine ⟨fun c hc q b hb i r => ?_, fun c hc q b hb r => ?_, fun k hk q hq t r => ?_, fun k k1 k2 => ?_, fun q hq t => h5 q (List.mem_cons_of_mem _ hq) t, fun q hq p hp => h6 q (List.mem_cons_of_mem _ hq) p (List.mem_cons_of_mem _ hp), fun c hc => h7 c (List.mem_cons_of_mem _ hc), ⟨fun i hi hg9 => h8.1 i hi (hg9.elim fun c9 h9 => ⟨c9, List.mem_cons_of_mem _ h9.1, h9.2⟩), fun c hc => h8.2 c (List.mem_cons_of_mem _ hc)⟩⟩
  · rcases h1 c (List.mem_cons_of_mem _ hc) q b hb i r with z | ⟨k, p, hp, t, l, g, y⟩
    · exact Or.inl z
    · exact Or.inr ⟨k, p, nq p hp t, t, l, g, y⟩
  · obtain ⟨i, i1, i2, i3⟩ := h2 c (List.mem_cons_of_mem _ hc) q b hb r
    exact ⟨i, i1, i2, saf _ _ i3⟩
  · obtain ⟨c, hc, g, l, b, hb, p, i, i1, i2, i3⟩ := h3 k hk q (List.mem_cons_of_mem _ hq) t r
    have hc' : c ∈ L := by
      rcases List.mem_cons.mp hc with rfl | hc
      · have := hn q hq
        omega
      · exact hc
    exact ⟨c, hc', g, l, b, hb, p, i, i1, i2, saf _ _ i3⟩
  · rcases h4 k k1 k2 with y | ⟨q, hq, t, r⟩
    · exact Or.inl y
    · exact Or.inr ⟨q, nq q hq t, t, r⟩
theorem LBC.any {S : CS} {s : RS} : ∀ (L : List CEL) (x : Int), LBC S s L x → LBC S s L (-9)
  | [], _, _ => trivial
  | c :: L, x, h => by
    unfold LBC at h ⊢
    by_cases c1 : S.o c.2.1 0 = 303
    · rw [if_pos c1] at h ⊢
      refine ⟨Or.inl rfl, ?_⟩
      rw [if_neg (by decide)]
      exact LBC.any L _ h.2
    · rw [if_neg c1] at h ⊢
      exact h
/-- at a row that is no label it is no matter what is asked -/
theorem LBC.no {S : CS} {s : RS} {c : CEL} {L : List CEL} {x y : Int} (h : LBC S s (c :: L) x) (n : ¬ S.o c.2.1 0 = 303) : LBC S s (c :: L) y := by
  unfold LBC at h ⊢
  rw [if_neg n] at h ⊢
  exact h
theorem LBC.drop {S : CS} {s : RS} {c : CEL} {L : List CEL} {x : Int} (h : LBC S s (c :: L) x) : LBC S s L (-9) := by
  unfold LBC at h
  by_cases c1 : S.o c.2.1 0 = 303
  · rw [if_pos c1] at h
    exact LBC.any L _ h.2
  · rw [if_neg c1] at h
    by_cases c2 : S.o c.2.1 0 = 205 ∨ S.o c.2.1 0 = 206 ∨ S.o c.2.1 0 = 207 ∨ S.o c.2.1 0 = 304
    · rw [if_pos c2] at h
      exact LBC.any L _ h
    · rw [if_neg c2] at h
      exact LBC.any L _ h
/-- the rows below, with what the row above leaves of cases, entries, catches -/
theorem STK.drop {S : CS} {s : RS} {c : CEL} {L : List CEL} {m e k : Int} (h : STK S s (c :: L) m e k) : STK S s L (if S.o c.2.1 0 = 218 then (S.o c.2.1 13).toInt else m) e k := by
  obtain ⟨m', e', k', ⟨q1, q2, q3, q4, q5, q6, q7⟩, h2, h3⟩ := h
  by_cases c1 : S.o c.2.1 0 = 218
  · rw [if_pos c1]
    obtain ⟨x1, x2, -⟩ := q5 c1
    rw [← x1]
    refine h3.hi x2 ?_
    by_cases c2 : isTy (S.o c.2.1 0)
    · exact (q7 c2).1
    · rw [q6 c2]; exact Int.le_refl _
  · rw [if_neg c1]
    obtain ⟨x1, x2⟩ := q4 c1
    rw [← x1]
    refine h3.hi (by rw [x2]; exact Int.le_refl _) ?_
    by_cases c2 : isTy (S.o c.2.1 0)
    · exact (q7 c2).1
    · rw [q6 c2]; exact Int.le_refl _
/-- rows are in order -/
theorem STK.ord {S : CS} {s : RS} : ∀ (L : List CEL) (c : CEL) (m e k : Int), STK S s (c :: L) m e k → ∀ x ∈ L, x.1 < c.1
  | [], _, _, _, _, _, x, hx => absurd hx List.not_mem_nil
  | c0 :: L, c, m, e, k, h, x, hx => by
    obtain ⟨m', e', k', -, h2, h3⟩ := h
    obtain ⟨l1, -⟩ := h2 c0 rfl
    have := l1.1
    rcases List.mem_cons.mp hx with rfl | hx
    · omega
    · have := STK.ord L c0 m' e' k' h3 x hx
      omega
/-- a row more -/
theorem STK.push {S : CS} {s : RS} {c1 c : CEL} {L : List CEL} {m e k m' e' k' : Int} (h : STK S s (c :: L) m' e' k') (q : CST S s c1 m e k m' e' k') (l : LNK S c1 c) (w : LOW S s c) : STK S s (c1 :: c :: L) m e k := ⟨m', e', k', q, fun c0 hc0 => by
  cases hc0
  exact ⟨l, w⟩, h⟩
end
