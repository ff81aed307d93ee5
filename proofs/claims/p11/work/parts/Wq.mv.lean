/-! both readers: rows and frames over a piece -/
/-- the tables, counts aside -/
def TBR (s u : RS) : Prop := (∀ j : Nat, (j : Int) < (s.i 38).toInt → u.b 39 j = s.b 39 j ∧ u.a 40 j = s.a 40 j ∧ u.a 41 j = s.a 41 j) ∧ (∀ j : Nat, (j : Int) < (s.i 43).toInt → u.a 44 j = s.a 44 j ∧ u.b 45 j = s.b 45 j ∧ u.a 46 j = s.a 46 j ∧ u.a 47 j = s.a 47 j ∧ u.a 50 j = s.a 50 j ∧ u.a 51 j = s.a 51 j ∧ u.a 48 j = s.a 48 j ∧ u.a 49 j = s.a 49 j) ∧ (∀ j : Nat, (j : Int) < (s.i 56).toInt → u.a 57 j = s.a 57 j ∧ u.a 58 j = s.a 58 j) ∧ ((s.i 59).toInt ≤ (u.i 59).toInt ∧ (∀ j : Nat, (s.i 59).toInt ≤ (j : Int) → (j : Int) < (u.i 59).toInt → u.a 62 j = -1)) ∧ (∀ j : Nat, (j : Int) < (s.i 59).toInt → u.a 60 j = s.a 60 j ∧ u.a 61 j = s.a 61 j ∧ u.a 62 j = s.a 62 j) ∧ (s.i 29).toInt ≤ (u.i 29).toInt ∧ (∀ j : Nat, (j : Int) < (s.i 29).toInt → u.a 30 j = s.a 30 j) ∧ (s.i 33).toInt ≤ (u.i 33).toInt ∧ (∀ j : Nat, (j : Int) < (s.i 33).toInt → u.a 34 j = s.a 34 j ∧ u.a 37 j = s.a 37 j) ∧ (s.i 24).toInt ≤ (u.i 24).toInt ∧ (∀ j : Nat, (j : Int) < (s.i 24).toInt → u.a 25 j = s.a 25 j ∧ u.a 27 j = s.a 27 j ∧ u.a 28 j = s.a 28 j)
theorem TBZ.r {s u : RS} (h : TBZ s u) : TBR s u := h.2
/-- what a piece keeps of the class's rows, cases, jumps -/
def CKZ (S R : CS) : Prop := R.i 22 = S.i 22 ∧ (∀ k : Nat, (k : Int) < (S.i 53).toInt → R.r 51 k = S.r 51 k) ∧ (∀ k a : Nat, (k : Int) < (S.i 53).toInt → S.r 51 k = some a → R.o a = S.o a ∧ R.ol a = S.ol a) ∧ (∀ k : Nat, (k : Int) < (S.i 22).toInt → R.a 18 k = S.a 18 k) ∧ (S.i 54).toInt ≤ (R.i 54).toInt ∧ (S.i 55).toInt ≤ (R.i 55).toInt ∧ (∀ k : Nat, (k : Int) < (S.i 55).toInt → R.a 52 k = S.a 52 k) ∧ (∀ k : Nat, (S.i 55).toInt ≤ (k : Int) → (k : Int) < (R.i 55).toInt → R.a 52 k = 0 ∨ (2 * (S.i 54).toInt + 1 < (R.a 52 k).toInt ∧ (R.a 52 k).toInt ≤ 2 * (R.i 54).toInt + 1))
theorem CKX.z {S R : CS} (h : CKX S R) : CKZ S R := ⟨h.1.1, h.2.1, h.2.2.1, h.2.2.2.1, h.2.2.2.2.1, h.2.2.2.2.2.1, h.2.2.2.2.2.2.1, h.2.2.2.2.2.2.2.1⟩
theorem FBL.mv {s u : RS} {t T : Nat} (h : FBL s t) (f : FRB T s u) (ht : t + 2 ≤ T) : FBL u t := by
  obtain ⟨h1, h2, h3⟩ := h
  have a := f t (by omega)
  have b := f (t + 1) (by omega)
  exact ⟨a.1.trans h1, a.2.1.trans h2, b.1.trans h3⟩
theorem F301.mv {s u : RS} {t T : Nat} {v : Int32} (h : F301 s t v) (f : FRB T s u) (ht : t + 2 ≤ T) : F301 u t v := ⟨h.1.mv f ht, (f t (by omega)).2.2.1.trans h.2⟩
theorem RFR.mv {S R : CS} {s u : RS} {a t g w T : Nat} (h : RFR S s a t g w) (eo : R.o a = S.o a) (eol : R.ol a = S.ol a) (f : FRB T s u) (ht : t + wid (S.o a 0) ≤ T) (tb : TBR s u) (hg : isGo (S.o a 0) → (g : Int) < (s.i 43).toInt) (hw : isWl (S.o a 0) → (w : Int) < (s.i 56).toInt) : RFR R u a t g w := by
  have w1 : 1 ≤ wid (S.o a 0) := by
    unfold wid
    by_cases c : S.o a 0 = 301 ∨ S.o a 0 = 302 ∨ S.o a 0 = 218
    · rw [if_pos c]; decide
    · rw [if_neg c]
      by_cases c2 : S.o a 0 = 212 ∨ S.o a 0 = 213 ∨ S.o a 0 = 215 ∨ S.o a 0 = 216
      · rw [if_pos c2]; decide
      · rw [if_neg c2]; exact Nat.le_refl _
  have w2 : S.o a 0 = 301 ∨ S.o a 0 = 302 ∨ S.o a 0 = 218 → wid (S.o a 0) = 2 := fun c => by
    unfold wid
    rw [if_pos c]
  have w3 : S.o a 0 = 212 ∨ S.o a 0 = 213 ∨ S.o a 0 = 215 ∨ S.o a 0 = 216 → wid (S.o a 0) = 3 := fun c => by
    unfold wid
    rw [if_neg (by rintro (z | z | z) <;> rw [z] at c <;> revert c <;> decide), if_pos c]
  obtain ⟨f0, f1, f2, f3, f4, f5, f6, f7, f8, f9, f10⟩ := f t (by omega)
  obtain ⟨h1, h2, h3, h4, h5, h6, h7, h8, h9, h10, h11, h12, h13⟩ := h
  unfold RFR
  rw [eo, eol]
  have gg : isGo (S.o a 0) → u.a 44 g = s.a 44 g ∧ u.b 45 g = s.b 45 g := fun q => by
    have z := tb.2.1 g (hg q)
    exact ⟨z.1, z.2.1⟩
  refine ⟨fun q => f0.trans (h1 q), fun q => (h2 q).mv f (by have := w2 (Or.inl q); omega), fun q => ?_, fun q => ?_, fun q => ?_, fun q => ?_, fun q => ?_, fun q => ?_, fun q => ?_, fun q => ?_, fun q => ?_, fun q => ?_, fun q => ?_⟩
  · obtain ⟨z1, z2, z3, z4⟩ := h3 q
    have b := f (t + 1) (by have := w2 (Or.inr (Or.inl q)); omega)
    exact ⟨f0.trans z1, f1.trans z2, f7.trans z3, b.1.trans z4⟩
  · obtain ⟨z1, z2, z3, z4, z5⟩ := h4 q
    have y := gg (Or.inl q)
    exact ⟨f0.trans z1, f1.trans z2, by rw [f2]; exact z3, y.1.trans z4, y.2.trans z5⟩
  · exact ⟨f0.trans (h5 q).1, f1.trans (h5 q).2⟩
  · exact ⟨f0.trans (h6 q).1, f1.trans (h6 q).2.1, f3.trans (h6 q).2.2.1, (h6 q).2.2.2⟩
  · obtain ⟨z1, z2, z3, z4, z5⟩ := h7 q
    have y := gg (Or.inr (Or.inr (Or.inl q)))
    exact ⟨f0.trans z1, f1.trans z2, by rw [f4]; exact z3, f7.trans z4, y.1.trans z5⟩
  · obtain ⟨z1, z2, z3, z4⟩ := h8 q
    have y := gg (Or.inr (Or.inr (Or.inr (Or.inl q))))
    exact ⟨f0.trans z1, f1.trans z2, by rw [f4]; exact z3, y.1.trans z4⟩
  · obtain ⟨z1, z2, z3, z4, z5, z6⟩ := h9 q
    have y := gg (Or.inr (Or.inr (Or.inr (Or.inr (Or.inl q)))))
    exact ⟨f0.trans z1, f1.trans z2, by rw [f9]; exact z3, f7.trans z4, f8.trans z5, y.1.trans z6⟩
  · obtain ⟨⟨z1, z2, z3, z4, z5⟩, z6⟩ := h10 q
    have y := gg (Or.inr (Or.inr (Or.inr (Or.inr (Or.inr q)))))
    exact ⟨⟨f0.trans z1, f1.trans z2, by rw [f9]; exact z3, f7.trans z4, y.1.trans z5⟩, z6⟩
  · obtain ⟨z1, z2, z3⟩ := h11 q
    exact ⟨f0.trans z1, f1.trans z2, z3.mv f (by have := w3 (Or.inl q); omega)⟩
  · obtain ⟨z1, z2, z3, z4, z5, z6⟩ := h12 q
    have y := gg (Or.inr (Or.inl q))
    exact ⟨f0.trans z1, by rw [f8]; exact z2, f7.trans z3, y.1.trans z4, by rw [f4]; exact z5, by rw [f4]; exact z6⟩
  · obtain ⟨⟨z1, z2, z3, z4⟩, ⟨y1, y2, y3, y4, y5⟩⟩ := h13 q
    have l29 := tb.2.2.2.2.2.1
    refine ⟨⟨f0.trans z1, by rw [f2]; omega, by rw [f3, f8]; exact z3, fun p => ?_⟩, fun p => ?_, fun p => ?_, fun p => ?_, fun p => ?_, y5⟩
    · have y := tb.2.2.1 w (hw p)
      have z := z4 p
      exact ⟨by rw [y.1, f2]; exact z.1, by rw [y.2]; exact z.2⟩
    · obtain ⟨x1, x2, x3⟩ := y1 p
      exact ⟨f1.trans x1, x2.mv f (by have := w3 (Or.inr (Or.inl p)); omega), x3⟩
    · obtain ⟨x1, x2, x3, x4⟩ := y2 p
      exact ⟨f1.trans x1, x2.mv f (by have := w3 (Or.inr (Or.inr (Or.inl p))); omega), f7.trans x3, f4.trans x4⟩
    · exact ⟨f1.trans (y3 p).1, f4.trans (y3 p).2⟩
    · obtain ⟨x1, x2, x3⟩ := y4 p
      exact ⟨f1.trans x1, x2.mv f (by have := w3 (Or.inr (Or.inr (Or.inr p))); omega), f4.trans x3⟩
theorem kch.up {s u : RS} (h33 : (s.i 33).toInt ≤ (u.i 33).toInt) (h37 : ∀ j : Nat, (j : Int) < (s.i 33).toInt → u.a 37 j = s.a 37 j) : ∀ (L : List Nat) (k : Int32), kch s k L → kch u k L
  | [], _, h => h
  | j :: L, k, h => ⟨h.1, by have := h.2.1; omega, h.2.2.1, by rw [h37 j h.2.1]; exact kch.up h33 h37 L _ h.2.2.2⟩
theorem kch.lt {s : RS} : ∀ (L : List Nat) (k : Int32), kch s k L → ∀ j ∈ L, (j : Int) < (s.i 33).toInt
  | [], _, _, j, hj => absurd hj List.not_mem_nil
  | a :: L, k, h, j, hj => by
    rcases List.mem_cons.mp hj with rfl | hj
    · exact h.2.1
    · exact kch.lt L _ h.2.2.2 j hj
theorem CST.mv {S R : CS} {s u : RS} {c : CEL} {m e k m' e' k' : Int} {T : Nat} (h : CST S s c m e k m' e' k') (hc : (c.1 : Int) < (S.i 53).toInt) (ck : CKZ S R) (f : FRB T s u) (ht : ceT c + wid (S.o c.2.1 0) ≤ T) (tb : TBR s u) (cd : CDK (s.i 20).toInt s u) (hm : m ≤ (S.i 22).toInt) (he : e ≤ (s.i 24).toInt) (hk : k ≤ (s.i 33).toInt) (hg : isGo (S.o c.2.1 0) → (ceG c : Int) < (s.i 43).toInt) (hw : isWl (S.o c.2.1 0) → (ceW c : Int) < (s.i 56).toInt) : CST R u c m e k m' e' k' := by
  obtain ⟨h1, h2, h3, h4, h5, h6, h7⟩ := h
  obtain ⟨eo, eol⟩ := ck.2.2.1 c.1 c.2.1 hc h1
  have w1 : 1 ≤ wid (S.o c.2.1 0) := by
    unfold wid
    by_cases c1 : S.o c.2.1 0 = 301 ∨ S.o c.2.1 0 = 302 ∨ S.o c.2.1 0 = 218
    · rw [if_pos c1]; decide
    · rw [if_neg c1]
      by_cases c2 : S.o c.2.1 0 = 212 ∨ S.o c.2.1 0 = 213 ∨ S.o c.2.1 0 = 215 ∨ S.o c.2.1 0 = 216
      · rw [if_pos c2]; decide
      · rw [if_neg c2]; exact Nat.le_refl _
  obtain ⟨f0, f1, f2, f3, f4, f5, f6, f7, f8, f9, f10⟩ := f (ceT c) (by omega)
  refine ⟨(ck.2.1 c.1 hc).trans h1, h2, h3.mv eo eol f ht tb hg hw, by rw [eo]; exact h4, ?_, by rw [eo]; exact h6, ?_⟩
  · rw [eo]
    intro q
    obtain ⟨q1, q2, ⟨q3, q4⟩, L, l1, l2, l3, l4⟩ := h5 q
    have l20 := cd.1
    have cl := clampI q3
    have jl := chn.lt L _ l2
    have e2 := tb.2.2.2.2.2.2.2.2.2.2
    refine ⟨q1, q2, ⟨by rw [f2]; exact q3, by rw [f2]; omega⟩, L, ⟨l1.1, ⟨l1.2.1.1, by rw [nd.eq L (fun j hj => (e2 j (jl j hj)).2.2)]; exact l1.2.1.2.1, fun i j i1 i2 hj hz hv => ?_⟩, fun v => ?_⟩, ?_, ?_, l4⟩
    · have z := e2 j (jl j hj)
      rw [z.2.2] at hz
      rw [z.1, ck.2.2.2.1 i (by omega)] at hv
      rw [ndx.eq L (fun k hk => (e2 k (jl k hk)).2.2)]
      exact l1.2.1.2.2 i j i1 i2 hj hz hv
    · have r := l1.2.2 v
      constructor
      · intro ⟨i, i1, i2, i3⟩
        rw [ck.2.2.2.1 i (by omega)] at i3
        obtain ⟨j, j1, j2, j3⟩ := r.mp ⟨i, i1, i2, i3⟩
        have z := e2 j (jl j j1)
        exact ⟨j, j1, by rw [z.2.2]; exact j2, by rw [z.1]; exact j3⟩
      · intro ⟨j, j1, j2, j3⟩
        have z := e2 j (jl j j1)
        rw [z.2.2] at j2
        rw [z.1] at j3
        obtain ⟨i, i1, i2, i3⟩ := r.mpr ⟨j, j1, j2, j3⟩
        exact ⟨i, i1, i2, by rw [ck.2.2.2.1 i (by omega)]; exact i3⟩
    · rw [f2, cd.2 _ (by omega)]
      exact chn.up tb.2.2.2.2.2.2.2.2.2.1 (fun j hj => (e2 j hj).2.1) _ _ l2
    · unfold FQL at *
      rw [f3]
      exact l3
  · rw [eo]
    intro q
    obtain ⟨q1, L, l1, l2, l3, l4⟩ := h7 q
    have z := (h3.2.2.2.2.2.2.2.2.2.2.2.2 q).1.2.1
    have cl := clampI z.1
    have jl := kch.lt L _ l1
    have e2 := tb.2.2.2.2.2.2.2.2.1
    refine ⟨q1, L, ?_, ⟨fun v hv => ?_, fun j hj => by rw [(e2 j (jl j hj)).1]; exact l2.2 j hj⟩, by rw [f8]; exact l3, l4⟩
    · rw [f2, tb.2.2.2.2.2.2.1 _ (by omega)]
      exact kch.up tb.2.2.2.2.2.2.2.1 (fun j hj => (e2 j hj).2) _ _ l1
    · rw [l2.1 v hv]
      constructor
      · intro ⟨j, j1, j2⟩
        exact ⟨j, j1, by rw [(e2 j (jl j j1)).1]; exact j2⟩
      · intro ⟨j, j1, j2⟩
        exact ⟨j, j1, by rw [(e2 j (jl j j1)).1] at j2; exact j2⟩
/-- the rows of a list are there, their frames below T, their goals and walls told -/
def INL (S : CS) (s : RS) (T : Nat) (L : List CEL) : Prop := ∀ c ∈ L, (c.1 : Int) < (S.i 53).toInt ∧ S.r 51 c.1 = some c.2.1 ∧ ceT c + wid (S.o c.2.1 0) ≤ T ∧ (isGo (S.o c.2.1 0) → (ceG c : Int) < (s.i 43).toInt) ∧ (isWl (S.o c.2.1 0) → (ceW c : Int) < (s.i 56).toInt)
theorem INL.o {S R : CS} {s : RS} {T : Nat} {L : List CEL} (h : INL S s T L) (ck : CKZ S R) : ∀ c ∈ L, R.o c.2.1 = S.o c.2.1 ∧ R.ol c.2.1 = S.ol c.2.1 := fun c hc => ck.2.2.1 c.1 c.2.1 (h c hc).1 (h c hc).2.1
theorem STK.mv {S R : CS} {s u : RS} {T : Nat} (ck : CKZ S R) (f : FRB T s u) (tb : TBR s u) (cd : CDK (s.i 20).toInt s u) : ∀ (L : List CEL) (m e k : Int), STK S s L m e k → INL S s T L → m ≤ (S.i 22).toInt → e ≤ (s.i 24).toInt → k ≤ (s.i 33).toInt → STK R u L m e k
  | [], _, _, _, _, _, _, _, _ => trivial
  | c :: L, m, e, k, h, hin, hm, he, hk => by
    obtain ⟨m', e', k', h1, h2, h3⟩ := h
    obtain ⟨i1, i2, i3, i4, i5⟩ := hin c List.mem_cons_self
    have hin' : INL S s T L := fun d hd => hin d (List.mem_cons_of_mem _ hd)
    have l1 : m' ≤ m ∧ e' ≤ e ∧ k' ≤ k := by
      obtain ⟨-, -, -, q1, q2, q3, q4⟩ := h1
      refine ⟨?_, ?_, ?_⟩
      · by_cases z : S.o c.2.1 0 = 218
        · obtain ⟨-, -, -, L', l, -⟩ := q2 z
          exact l.2.1.1
        · rw [(q1 z).1]; exact Int.le_refl _
      · by_cases z : S.o c.2.1 0 = 218
        · exact (q2 z).2.1
        · rw [(q1 z).2]; exact Int.le_refl _
      · by_cases z : isTy (S.o c.2.1 0)
        · exact (q4 z).1
        · rw [q3 z]; exact Int.le_refl _
    refine ⟨m', e', k', h1.mv i1 ck f i3 tb cd hm he hk i4 i5, fun c0 hc0 => ?_, STK.mv ck f tb cd L m' e' k' h3 hin' (by omega) (by omega) (by omega)⟩
    have m0 : c0 ∈ L := List.mem_of_mem_head? hc0
    obtain ⟨j1, j2, j3, j4, j5⟩ := hin' c0 m0
    have eo := (ck.2.2.1 c.1 c.2.1 i1 i2).1
    have e0 := (ck.2.2.1 c0.1 c0.2.1 j1 j2).1
    obtain ⟨a1, a2⟩ := h2 c0 hc0
    refine ⟨?_, ?_⟩
    · unfold LNK at *
      rw [eo, e0]
      exact a1
    · unfold LOW at *
      rw [e0]
      obtain ⟨b1, b2, b3, b4⟩ := a2
      have w1 : 1 ≤ wid (S.o c0.2.1 0) := by
        unfold wid
        by_cases c1 : S.o c0.2.1 0 = 301 ∨ S.o c0.2.1 0 = 302 ∨ S.o c0.2.1 0 = 218
        · rw [if_pos c1]; decide
        · rw [if_neg c1]
          by_cases c2 : S.o c0.2.1 0 = 212 ∨ S.o c0.2.1 0 = 213 ∨ S.o c0.2.1 0 = 215 ∨ S.o c0.2.1 0 = 216
          · rw [if_pos c2]; decide
          · rw [if_neg c2]; exact Nat.le_refl _
      refine ⟨b1, fun q => ?_, fun q => ?_, b4⟩
      · have w2 : wid (S.o c0.2.1 0) = 2 := by
          unfold wid
          rw [if_pos (Or.inr (Or.inr q))]
        obtain ⟨x1, x2⟩ := b2 q
        exact ⟨(f (ceT c0) (by omega)).2.1.trans x1, (f (ceT c0 + 1) (by omega)).1.trans x2⟩
      · have z := f (ceT c0 + wid (S.o c0.2.1 0) - 1) (by omega)
        exact ⟨z.2.1.trans (b3 q).1, z.1.trans (b3 q).2⟩
theorem LBC.mv {S R : CS} {s u : RS} : ∀ (L : List CEL) (x : Int), LBC S s L x → (∀ c ∈ L, R.o c.2.1 = S.o c.2.1) → (∀ c ∈ L, S.o c.2.1 0 = 303 → u.a 46 (ceG c) = s.a 46 (ceG c)) → LBC R u L x
  | [], _, _, _, _ => trivial
  | c :: L, x, h, ho, hg => by
    have eo := ho c List.mem_cons_self
    have ho' : ∀ d ∈ L, R.o d.2.1 = S.o d.2.1 := fun d hd => ho d (List.mem_cons_of_mem _ hd)
    have hg' : ∀ d ∈ L, S.o d.2.1 0 = 303 → u.a 46 (ceG d) = s.a 46 (ceG d) := fun d hd => hg d (List.mem_cons_of_mem _ hd)
    unfold LBC at h ⊢
    rw [eo]
    by_cases c1 : S.o c.2.1 0 = 303
    · rw [if_pos c1] at h ⊢
      refine ⟨?_, LBC.mv L _ h.2 ho' hg'⟩
      rw [hg c List.mem_cons_self c1]
      exact h.1
    · rw [if_neg c1] at h ⊢
      by_cases c2 : S.o c.2.1 0 = 205 ∨ S.o c.2.1 0 = 206 ∨ S.o c.2.1 0 = 207 ∨ S.o c.2.1 0 = 304
      · rw [if_pos c2] at h ⊢
        exact LBC.mv L _ h ho' hg'
      · rw [if_neg c2] at h ⊢
        exact LBC.mv L _ h ho' hg'
theorem JMQ.mv {S R : CS} {s u : RS} {T : Nat} {L : List CEL} {B59 B29 : Int} (h : JMQ S s L B59 B29) (hB : 0 ≤ B29) (h54 : 0 ≤ (S.i 54).toInt) (hin : INL S s T L) (ck : CKZ S R) (f : FRB T s u) (tb : TBR s u) : JMQ R u L B59 B29 := by
  obtain ⟨h1, h2, h3, h4, h5, h6, h7, h8⟩ := h
  have eo := fun c hc => (hin.o ck c hc).1
  have w1 : ∀ v : Int32, 1 ≤ wid v := fun v => by
    unfold wid
    by_cases c1 : v = 301 ∨ v = 302 ∨ v = 218
    · rw [if_pos c1]; decide
    · rw [if_neg c1]
      by_cases c2 : v = 212 ∨ v = 213 ∨ v = 215 ∨ v = 216
      · rw [if_pos c2]; decide
      · rw [if_neg c2]; exact Nat.le_refl _
  have e66 : ∀ c ∈ L, u.a 66 (ceT c) = s.a 66 (ceT c) := fun c hc => by
    have a := (hin c hc).2.2.1
    have b := w1 (S.o c.2.1 0)
    exact (f (ceT c) (by omega)).2.2.1
  have efl : ∀ c ∈ L, isGo (S.o c.2.1 0) → ∀ b : Int, flg u (ceG c) b = flg s (ceG c) b := fun c hc q b => by
    have z := tb.2.1 (ceG c) ((hin c hc).2.2.2.1 q)
    unfold flg
    rw [z.2.2.2.2.1, z.2.2.2.2.2.1]
  have l54 := ck.2.2.2.2.1
  have l55 := ck.2.2.2.2.2.1
  have o52 := ck.2.2.2.2.2.2.1
  have n52 := ck.2.2.2.2.2.2.2
  have l59 := tb.2.2.2.1.1
  have n62 := tb.2.2.2.1.2
  have o59 := tb.2.2.2.2.1
  have z0 : (0 : Int32).toInt = 0 := z_t0
  have em : (-1 : Int32).toInt = -1 := by decide
  have rc : ∀ c ∈ L, ∀ b : Int, b = 0 ∨ b = 1 → ∀ i : Nat, RCD R c b i ↔ RCD S c b i := fun c hc b hb i => by
    have g := h7 c hc
    unfold RCD
    rw [eo c hc]
    constructor
    · intro ⟨q1, q2⟩
      by_cases z : (i : Int) < (S.i 55).toInt
      · rw [o52 i z] at q2
        exact ⟨z, q2⟩
      · exfalso
        rcases n52 i (by omega) q1 with y | y
        · rw [y, z0] at q2
          omega
        · omega
    · intro ⟨q1, q2⟩
      exact ⟨by omega, by rw [o52 i q1]; exact q2⟩
  have inr : ∀ q ∈ L, ∀ i : Nat, INR R q i ↔ INR S q i := fun q hq i => by
    unfold INR
    rw [eo q hq]
  have saf : ∀ n i : Nat, SAF S L n i → SAF R L n i := fun n i g q hq t l y => g q hq (by rw [← eo q hq]; exact t) l ((inr q hq i).mp y)
  have pn : ∀ c q, q ∈ L → ∀ (b : Int) (k : Nat), PND s c q b k → PND u c q b k := fun c q hq b k g => by
    obtain ⟨g1, g2, g3, g4⟩ := g
    obtain ⟨y1, y2, y3⟩ := o59 k g1
    exact ⟨by omega, by rw [y1]; exact g2, by rw [y2]; exact g3, by rw [y3, e66 q hq]; exact g4⟩
  refine ⟨fun c hc q b hb i r => ?_, fun c hc q b hb r => ?_, fun k hk q hq t r => ?_, fun k k1 k2 => ?_, fun q hq t => ?_, fun q hq p hp t1 t2 l => ?_, fun c hc => ?_, ⟨fun i hi hg9 => ?_, fun c hc q b => ?_⟩⟩
  · rw [eo c hc] at q
    rcases h1 c hc q b hb i ((rc c hc b hb i).mp r) with z | ⟨k, p, hp, t, l, g, y⟩
    · exact Or.inl (by rw [efl c hc q]; exact z)
    · exact Or.inr ⟨k, p, hp, by rw [eo p hp]; exact t, l, pn c p hp b k g, (inr p hp i).mpr y⟩
  · rw [eo c hc] at q
    rw [efl c hc q] at r
    obtain ⟨i, i1, i2, i3⟩ := h2 c hc q b hb r
    exact ⟨i, (rc c hc b hb i).mpr i1, by rw [eo c hc]; exact i2, saf _ _ i3⟩
  · rw [eo q hq] at t
    rw [e66 q hq] at r
    by_cases z : (k : Int) < (s.i 59).toInt
    · rw [(o59 k z).2.2] at r
      obtain ⟨c, hc, g, l, b, hb, p, i, i1, i2, i3⟩ := h3 k z q hq t r
      exact ⟨c, hc, by rw [eo c hc]; exact g, l, b, hb, pn c q hq b k p, i, (rc c hc b hb i).mpr i1, (inr q hq i).mpr i2, saf _ _ i3⟩
    · exfalso
      rw [n62 k (by omega) hk] at r
      have := h5 q hq t
      rw [← r, em] at this
      omega
  · by_cases z : (k : Int) < (s.i 59).toInt
    · rw [(o59 k z).2.2]
      rcases h4 k k1 z with y | ⟨q, hq, t, r⟩
      · exact Or.inl y
      · exact Or.inr ⟨q, hq, by rw [eo q hq]; exact t, by rw [e66 q hq]; exact r⟩
    · exact Or.inl (n62 k (by omega) k2)
  · rw [eo q hq] at t
    rw [e66 q hq]
    exact h5 q hq t
  · rw [eo q hq] at t1
    rw [eo p hp] at t2
    rw [e66 q hq, e66 p hp]
    exact h6 q hq p hp t1 t2 l
  · rw [eo c hc]
    obtain ⟨g1, g2, g3, g4, g5⟩ := h7 c hc
    exact ⟨g1, by omega, g3, by omega, fun q => by have := g5 q; omega⟩
  · by_cases z : (i : Int) < (S.i 55).toInt
    · rw [o52 i z]
      obtain ⟨c9, hc9, hl9⟩ := hg9
      rw [eo c9 hc9] at hl9
      have := h8.1 i z ⟨c9, hc9, hl9⟩
      omega
    · rcases n52 i (by omega) hi with y | y
      · rw [y, z0]
        omega
      · exact y.2
  · rw [eo c hc] at q
    rw [efl c hc q]
    exact h8.2 c hc q b
/-- more entries, more catches: nothing changes -/
theorem STK.hi {S : CS} {s : RS} {m e k e2 k2 : Int} : ∀ {L : List CEL}, STK S s L m e k → e ≤ e2 → k ≤ k2 → STK S s L m e2 k2
  | [], _, _, _ => trivial
  | c :: L, h, he, hk => by
    obtain ⟨m', e', k', ⟨q1, q2, q3, q4, q5, q6, q7⟩, h2, h3⟩ := h
    by_cases c1 : S.o c.2.1 0 = 218
    · obtain ⟨x1, x2, x3, l, x4, x5, x6, x7⟩ := q5 c1
      by_cases c2 : isTy (S.o c.2.1 0)
      · exfalso
        rcases c2 with z | z | z | z <;> rw [c1] at z <;> exact absurd z (by decide)
      · have ek := q6 c2
        subst ek
        exact ⟨m', e', k2, ⟨q1, q2, q3, fun z => absurd c1 z, fun _ => ⟨x1, by omega, x3, l, x4, x5, x6, fun j hj => by have := x7 j hj; omega⟩, fun _ => rfl, fun z => absurd z c2⟩, h2, STK.hi h3 (Int.le_refl _) hk⟩
    · obtain ⟨em, ee⟩ := q4 c1
      subst ee
      by_cases c2 : isTy (S.o c.2.1 0)
      · obtain ⟨x1, l, x4, x5, x6, x7⟩ := q7 c2
        exact ⟨m', e2, k', ⟨q1, q2, q3, fun _ => ⟨em, rfl⟩, fun z => absurd z c1, fun z => absurd c2 z, fun _ => ⟨by omega, l, x4, x5, x6, fun j hj => by have := x7 j hj; omega⟩⟩, h2, STK.hi h3 he (Int.le_refl _)⟩
      · have ek := q6 c2
        subst ek
        exact ⟨m', e2, k2, ⟨q1, q2, q3, fun _ => ⟨em, rfl⟩, fun z => absurd z c1, fun _ => rfl, fun z => absurd z c2⟩, h2, STK.hi h3 he hk⟩
