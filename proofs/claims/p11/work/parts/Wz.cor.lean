/-! both readers: what stands between two turns -/
def dbt (v : Int32) : Int := if v = 205 ∨ v = 207 then 1 else if v = 304 then 2 else 0
def DSM (S : CS) : List CEL → Int
  | [] => 0
  | c :: L => (nDp (S.o c.2.1 0) : Int) + DSM S L
def PDM (S : CS) : List CEL → Int
  | [] => 0
  | c :: L => dbt (S.o c.2.1 0) + PDM S L
theorem DSM.eq {S R : CS} : ∀ (L : List CEL), (∀ c ∈ L, R.o c.2.1 = S.o c.2.1) → DSM R L = DSM S L ∧ PDM R L = PDM S L
  | [], _ => ⟨rfl, rfl⟩
  | c :: L, h => by
    obtain ⟨h1, h2⟩ := DSM.eq L (fun d hd => h d (List.mem_cons_of_mem _ hd))
    unfold DSM PDM
    rw [h1, h2, h c List.mem_cons_self]
    exact ⟨rfl, rfl⟩
theorem PDM.ge (S : CS) : ∀ L : List CEL, 0 ≤ PDM S L ∧ 0 ≤ DSM S L
  | [] => ⟨Int.le_refl _, Int.le_refl _⟩
  | c :: L => by
    obtain ⟨h1, h2⟩ := PDM.ge S L
    unfold PDM DSM dbt
    refine ⟨?_, by omega⟩
    by_cases c1 : S.o c.2.1 0 = 205 ∨ S.o c.2.1 0 = 207
    · rw [if_pos c1]; omega
    · rw [if_neg c1]
      by_cases c2 : S.o c.2.1 0 = 304
      · rw [if_pos c2]; omega
      · rw [if_neg c2]; omega
/-- the reference's tables below b's counts -/
def TBB (b s : RS) : Prop := (b.i 38).toInt ≤ (s.i 38).toInt ∧ (b.i 43).toInt ≤ (s.i 43).toInt ∧ (b.i 56).toInt ≤ (s.i 56).toInt ∧ (∀ j : Nat, (j : Int) < (b.i 38).toInt → s.b 39 j = b.b 39 j ∧ s.a 40 j = b.a 40 j ∧ s.a 41 j = b.a 41 j) ∧ (∀ j : Nat, (j : Int) < (b.i 43).toInt → s.a 44 j = b.a 44 j ∧ s.b 45 j = b.b 45 j ∧ s.a 46 j = b.a 46 j ∧ s.a 47 j = b.a 47 j ∧ s.a 50 j = b.a 50 j ∧ s.a 51 j = b.a 51 j ∧ s.a 48 j = b.a 48 j ∧ s.a 49 j = b.a 49 j) ∧ (∀ j : Nat, (j : Int) < (b.i 56).toInt → s.a 57 j = b.a 57 j ∧ s.a 58 j = b.a 58 j) ∧ (b.i 59).toInt ≤ (s.i 59).toInt ∧ (∀ j : Nat, (j : Int) < (b.i 59).toInt → s.a 60 j = b.a 60 j ∧ s.a 61 j = b.a 61 j ∧ s.a 62 j = b.a 62 j) ∧ (b.i 29).toInt ≤ (s.i 29).toInt ∧ (∀ j : Nat, (j : Int) < (b.i 29).toInt → s.a 30 j = b.a 30 j) ∧ (b.i 33).toInt ≤ (s.i 33).toInt ∧ (∀ j : Nat, (j : Int) < (b.i 33).toInt → s.a 34 j = b.a 34 j ∧ s.a 37 j = b.a 37 j) ∧ (b.i 24).toInt ≤ (s.i 24).toInt ∧ (∀ j : Nat, (j : Int) < (b.i 24).toInt → s.a 25 j = b.a 25 j ∧ s.a 27 j = b.a 27 j ∧ s.a 28 j = b.a 28 j)
theorem TBB.mv {b s u : RS} (h : TBB b s) (g : TBR s u) (h38 : (b.i 38).toInt ≤ (u.i 38).toInt) (h43 : (b.i 43).toInt ≤ (u.i 43).toInt) (h56 : (b.i 56).toInt ≤ (u.i 56).toInt) : TBB b u := by
  obtain ⟨a1, a2, a3, p0, p1, p2, p3, p4, p5, p6, p7, p8, p9, p10⟩ := h
  obtain ⟨q0, q1, q2, ⟨q3a, q3b⟩, q4, q5, q6, q7, q8, q9, q10⟩ := g
  refine ⟨h38, h43, h56, fun j hj => ?_, fun j hj => ?_, fun j hj => ?_, by omega, fun j hj => ?_, by omega, fun j hj => (q6 j (by omega)).trans (p6 j hj), by omega, fun j hj => ?_, by omega, fun j hj => ?_⟩
  · obtain ⟨x1, x2, x3⟩ := p0 j hj
    obtain ⟨y1, y2, y3⟩ := q0 j (by omega)
    exact ⟨y1.trans x1, y2.trans x2, y3.trans x3⟩
  · obtain ⟨x1, x2, x3, x4, x5, x6, x7, x8⟩ := p1 j hj
    obtain ⟨y1, y2, y3, y4, y5, y6, y7, y8⟩ := q1 j (by omega)
    exact ⟨y1.trans x1, y2.trans x2, y3.trans x3, y4.trans x4, y5.trans x5, y6.trans x6, y7.trans x7, y8.trans x8⟩
  · obtain ⟨x1, x2⟩ := p2 j hj
    obtain ⟨y1, y2⟩ := q2 j (by omega)
    exact ⟨y1.trans x1, y2.trans x2⟩
  · obtain ⟨x1, x2, x3⟩ := p4 j hj
    obtain ⟨y1, y2, y3⟩ := q4 j (by omega)
    exact ⟨y1.trans x1, y2.trans x2, y3.trans x3⟩
  · obtain ⟨x1, x2⟩ := p8 j hj
    obtain ⟨y1, y2⟩ := q8 j (by omega)
    exact ⟨y1.trans x1, y2.trans x2⟩
  · obtain ⟨x1, x2, x3⟩ := p10 j hj
    obtain ⟨y1, y2, y3⟩ := q10 j (by omega)
    exact ⟨y1.trans x1, y2.trans x2, y3.trans x3⟩
/-- the class since the base -/
def CBB (B S : CS) : Prop := (∀ k : Nat, (k : Int) < (B.i 53).toInt → S.r 51 k = B.r 51 k) ∧ (∀ k a : Nat, (k : Int) < (B.i 53).toInt → B.r 51 k = some a → S.o a = B.o a ∧ S.ol a = B.ol a) ∧ (B.i 53).toInt ≤ (S.i 53).toInt ∧ (B.i 22).toInt ≤ (S.i 22).toInt ∧ (∀ k : Nat, (k : Int) < (B.i 22).toInt → S.a 18 k = B.a 18 k) ∧ (B.i 54).toInt ≤ (S.i 54).toInt ∧ (B.i 55).toInt ≤ (S.i 55).toInt ∧ (∀ k : Nat, (k : Int) < (B.i 55).toInt → S.a 52 k = B.a 52 k) ∧ (∀ k : Nat, (B.i 55).toInt ≤ (k : Int) → (k : Int) < (S.i 55).toInt → S.a 52 k = 0 ∨ 2 * (B.i 54).toInt + 1 < (S.a 52 k).toInt) ∧ RTE B S ∧ S.i 56 = B.i 56
theorem CBB.mv {B S R : CS} (h : CBB B S) (ck : CKZ S R) (r : RTE S R) (h53 : (B.i 53).toInt ≤ (R.i 53).toInt) (e56 : R.i 56 = S.i 56) : CBB B R := by
  obtain ⟨a1, a2, a3, a4, a5, a6, a7, a8, a9, a10, a11⟩ := h
  obtain ⟨c1, c2, c3, c4, c5, c6, c7, c8⟩ := ck
  refine ⟨fun k hk => (c2 k (by omega)).trans (a1 k hk), fun k a hk ha => ?_, h53, by rw [c1]; exact a4, fun k hk => (c4 k (by omega)).trans (a5 k hk), by omega, by omega, fun k hk => (c7 k (by omega)).trans (a8 k hk), fun k h1 h2 => ?_, ?_, e56.trans a11⟩
  · have e := a2 k a hk ha
    have f := c3 k a (by omega) ((a1 k hk).trans ha)
    exact ⟨f.1.trans e.1, f.2.trans e.2⟩
  · by_cases c : (k : Int) < (S.i 55).toInt
    · rw [c7 k c]
      exact a9 k h1 c
    · rcases c8 k (by omega) h2 with z | z
      · exact Or.inl z
      · exact Or.inr (by omega)
  · unfold RTE at *
    omega
/-- where the cases of the base end -/
def cfl (S : CS) : List CEL → Int → Int
  | [], m => m
  | c :: L, m => cfl S L (if S.o c.2.1 0 = 218 then (S.o c.2.1 13).toInt else m)
theorem cfl.eq {S R : CS} : ∀ (L : List CEL) (m : Int), (∀ y ∈ L, R.o y.2.1 = S.o y.2.1) → cfl R L m = cfl S L m
  | [], _, _ => rfl
  | c :: L, m, h => by
    unfold cfl
    rw [h c List.mem_cons_self]
    exact cfl.eq L _ (fun y hy => h y (List.mem_cons_of_mem _ hy))
/-- a row's names are not fewer than at the base; the cases below the rows' are the base's -/
def OBS (B : CS) (b : RS) (S : CS) (s : RS) (L : List CEL) : Prop := (∀ y ∈ L, (b.i 38).toInt ≤ (S.o y.2.1 3).toInt ∧ (S.o y.2.1 3).toInt ≤ (S.i 50).toInt) ∧ (∀ y ∈ L, ∀ z ∈ L, y.1 < z.1 → (S.o y.2.1 3).toInt ≤ (S.o z.2.1 3).toInt) ∧ cfl S L (S.i 22).toInt = (B.i 22).toInt ∧ ∀ y ∈ L, (isTy (S.o y.2.1 0) → 0 ≤ (s.a 72 (ceT y)).toInt → (b.i 33).toInt ≤ (s.a 72 (ceT y)).toInt) ∧ (S.o y.2.1 0 = 218 → 0 ≤ (s.a 67 (ceT y)).toInt → (b.i 24).toInt ≤ (s.a 67 (ceT y)).toInt)
theorem FRB72 {S : CS} {s u : RS} {T : Nat} {L : List CEL} (hin : INL S s T L) (f : FRB T s u) : ∀ y ∈ L, u.a 72 (ceT y) = s.a 72 (ceT y) ∧ u.a 67 (ceT y) = s.a 67 (ceT y) := fun y hy => by
  have a := (hin y hy).2.2.1
  have w1 : 1 ≤ wid (S.o y.2.1 0) := by
    unfold wid
    by_cases c1 : S.o y.2.1 0 = 301 ∨ S.o y.2.1 0 = 302 ∨ S.o y.2.1 0 = 218
    · rw [if_pos c1]; decide
    · rw [if_neg c1]
      by_cases c2 : S.o y.2.1 0 = 212 ∨ S.o y.2.1 0 = 213 ∨ S.o y.2.1 0 = 215 ∨ S.o y.2.1 0 = 216
      · rw [if_pos c2]; decide
      · rw [if_neg c2]; exact Nat.le_refl _
  exact ⟨(f (ceT y) (by omega)).2.2.2.2.2.2.2.2.1, (f (ceT y) (by omega)).2.2.2.1⟩
theorem OBS.mv {B : CS} {b : RS} {S R : CS} {s u : RS} {L : List CEL} (h : OBS B b S s L) (e : ∀ y ∈ L, R.o y.2.1 = S.o y.2.1) (e22 : R.i 22 = S.i 22) (l : (S.i 50).toInt ≤ (R.i 50).toInt) (e72 : ∀ y ∈ L, u.a 72 (ceT y) = s.a 72 (ceT y) ∧ u.a 67 (ceT y) = s.a 67 (ceT y)) : OBS B b R u L := by
  refine ⟨fun y hy => ?_, fun y hy z hz q => ?_, ?_, fun y hy => ⟨fun t z => ?_, fun t z => ?_⟩⟩
  · rw [e y hy]
    have := h.1 y hy
    omega
  · rw [e y hy, e z hz]
    exact h.2.1 y hy z hz q
  · rw [cfl.eq L _ e, e22]
    exact h.2.2.1
  · rw [e y hy] at t
    rw [(e72 y hy).1] at z ⊢
    exact (h.2.2.2 y hy).1 t z
  · rw [e y hy] at t
    rw [(e72 y hy).2] at z ⊢
    exact (h.2.2.2 y hy).2 t z
/-- the sign of a row -/
def nSg (v : Int32) : Nat := if v = 301 ∨ v = 302 ∨ v = 212 ∨ v = 213 ∨ v = 215 ∨ v = 216 ∨ v = 218 then 1 else 0
def SSM (S : CS) : List CEL → Int
  | [] => 0
  | c :: L => (nSg (S.o c.2.1 0) : Int) + SSM S L
theorem SSM.eq {S R : CS} : ∀ (L : List CEL), (∀ c ∈ L, R.o c.2.1 0 = S.o c.2.1 0) → SSM R L = SSM S L
  | [], _ => rfl
  | c :: L, h => by
    have z := SSM.eq L (fun d hd => h d (List.mem_cons_of_mem _ hd))
    unfold SSM
    rw [z, h c List.mem_cons_self]
theorem SSM.ge (S : CS) : ∀ L : List CEL, 0 ≤ SSM S L
  | [] => Int.le_refl _
  | c :: L => by
    have := SSM.ge S L
    unfold SSM
    omega
theorem SSM.eo {S R : CS} (L : List CEL) (h : ∀ c ∈ L, R.o c.2.1 = S.o c.2.1) : SSM R L = SSM S L := SSM.eq L (fun c hc => by rw [h c hc])
theorem rsI_id {r : RS} {k : Nat} {v : Int32} (h : r.i k = v) : RS.setI r k v = r := by
  have e : va_up r.i k v = r.i := by
    funext j
    show (if j = k then v else r.i j) = r.i j
    by_cases z : j = k
    · rw [if_pos z, z, h]
    · exact if_neg z
  show ((va_up r.i k v, r.l, r.a, r.b) : RS) = r
  rw [e]
  rfl
/-- all that stands, with L the rows from the top down to the base's; x: what the labels at the top must have -/
def COR (d : Int32) (B : CS) (b : RS) (t0 : Nat) (L : List CEL) (x : Int) (S : CS) (s : RS) : Prop := ENV d S s ∧ STK S s L (S.i 22).toInt (s.i 24).toInt (s.i 33).toInt ∧ JMQ S s L (b.i 59).toInt (b.i 29).toInt ∧ LBC S s L x ∧ CBB B S ∧ (FRB t0 b s ∧ TBB b s ∧ CDK (b.i 20).toInt b s ∧ (s.i 2 = b.i 2 ∧ s.i 3 = b.i 3 ∧ s.i 8 = b.i 8 ∧ s.a 1 = b.a 1 ∧ s.a 4 = b.a 4 ∧ s.b 9 = b.b 9)) ∧ ((b.i 11).toInt + 1 ≤ (s.i 11).toInt ∧ phI b + PDM S L ≤ phI s ∧ (b.i 17).toInt ≤ (s.i 17).toInt ∧ (s.i 19).toInt = (b.i 19).toInt + SSM S L) ∧ ((S.i 38).toInt = (B.i 38).toInt + DSM S L ∧ OBS B b S s L) ∧ ((S.i 21).toInt ≤ 3 * (s.i 11).toInt ∧ 8 * ((s.i 38).toInt - 2) ≤ (s.i 11).toInt ∧ (S.i 54).toInt ≤ (s.i 11).toInt + 1) ∧ IAR S s ∧ (0 ≤ (b.i 29).toInt ∧ 3 ≤ phI b ∧ 0 ≤ (b.i 20).toInt ∧ ∃ col : Nat → Option (Nat × Bool), COL S s L col (b.i 20).toInt)
/-- the row at the top -/
def TOP (S : CS) (s : RS) (c : CEL) : Prop := (S.i 53).toInt = (c.1 : Int) + 1 ∧ (s.i 43).toInt = (ceG c : Int) + (nGo (S.o c.2.1 0) : Int) ∧ (s.i 56).toInt = (ceW c : Int) + (nWl (S.o c.2.1 0) : Int)
/-- the rows, their frames, goals and walls lie where they should -/
theorem STK.inl {S : CS} {s : RS} : ∀ (L : List CEL) (c : CEL) (m e k : Int), STK S s (c :: L) m e k → (c.1 : Int) < (S.i 53).toInt → (ceG c : Int) + (nGo (S.o c.2.1 0) : Int) ≤ (s.i 43).toInt → (ceW c : Int) + (nWl (S.o c.2.1 0) : Int) ≤ (s.i 56).toInt → INL S s (ceT c + wid (S.o c.2.1 0)) (c :: L)
  | L, c, m, e, k, h, h1, h2, h3 => by
    obtain ⟨m', e', k', q1, q2, q3⟩ := h
    have gg : isGo (S.o c.2.1 0) → nGo (S.o c.2.1 0) = 1 := fun q => by
      unfold nGo
      exact if_pos q
    have ww : isWl (S.o c.2.1 0) → nWl (S.o c.2.1 0) = 1 := fun q => by
      unfold nWl
      exact if_pos q
    have here : (c.1 : Int) < (S.i 53).toInt ∧ S.r 51 c.1 = some c.2.1 ∧ ceT c + wid (S.o c.2.1 0) ≤ ceT c + wid (S.o c.2.1 0) ∧ (isGo (S.o c.2.1 0) → (ceG c : Int) < (s.i 43).toInt) ∧ (isWl (S.o c.2.1 0) → (ceW c : Int) < (s.i 56).toInt) := ⟨h1, q1.1, Nat.le_refl _, fun q => by have := gg q; omega, fun q => by have := ww q; omega⟩
    cases L with
    | nil =>
      intro x hx
      rcases List.mem_cons.mp hx with rfl | hx
      · exact here
      · exact absurd hx List.not_mem_nil
    | cons c0 L =>
      obtain ⟨l1, -⟩ := q2 c0 rfl
      obtain ⟨y1, y2, y3, y4, -⟩ := l1
      have ih0 := STK.inl L c0 m' e' k' q3 (by omega) (by omega) (by omega)
      intro x hx
      rcases List.mem_cons.mp hx with rfl | hx
      · exact here
      · obtain ⟨z1, z2, z3, z4, z5⟩ := ih0 x hx
        exact ⟨z1, z2, by omega, z4, z5⟩
/-- over a piece that keeps all rows -/
theorem COR.mv {d : Int32} {B : CS} {b : RS} {t0 T : Nat} {L : List CEL} {x : Int} {S R : CS} {s u : RS} (h : COR d B b t0 L x S s) (hin : INL S s T L) (hT : t0 ≤ T) (ev : ENV d R u) (f : FRB T s u) (tb : TBR s u) (cd : CDK (s.i 20).toInt s u) (nm : NMO s u) (ck : CKZ S R) (i3 : R.i 38 = S.i 38 ∧ R.i 53 = S.i 53 ∧ R.i 56 = S.i 56) (rt : RTE S R) (q : (s.i 11).toInt ≤ (u.i 11).toInt ∧ phI s ≤ phI u ∧ (s.i 17).toInt ≤ (u.i 17).toInt ∧ (u.i 19).toInt = (s.i 19).toInt) (n8 : 8 * ((u.i 38).toInt - 2) ≤ (u.i 11).toInt) (l38 : (s.i 38).toInt ≤ (u.i 38).toInt) : COR d B b t0 L x R u := by
  obtain ⟨h1, h2, h3, h4, h5, ⟨h6, h7, h8, h9⟩, ⟨h10, h11, h12, hsg⟩, h13, ⟨h14, h15, h16⟩, h17, ⟨h18, h19, h20, col, h21⟩⟩ := h
  have eo := fun c hc => (hin.o ck c hc).1
  obtain ⟨d1, d2⟩ := DSM.eq L eo
  obtain ⟨m1, m2, m3, m4, m5, m6, m7, m8, m9⟩ := nm
  have k11 := h1.1.2.2.2.1.1
  have k11' := ev.1.2.2.2.1.1
  have rt' := rt
  unfold RTE at rt'
  rw [k11, k11'] at rt'
  have sj := h1.sj
  refine ⟨ev, ?_, h3.mv h18 sj.1 hin ck f tb, LBC.mv L x h4 eo (fun c hc z => ?_), h5.mv ck rt (by rw [i3.2.1]; exact h5.2.2.1) i3.2.2, ⟨h6.tr (f.mo hT), h7.mv tb (by have := h7.1; omega) (by rw [m4]; exact h7.2.1) (by rw [m6]; exact h7.2.2.1), h8.tr (cd.wk h8.1), ⟨m1.trans h9.1, m2.trans h9.2.1, m3.trans h9.2.2.1, m7.trans h9.2.2.2.1, m8.trans h9.2.2.2.2.1, m9.trans h9.2.2.2.2.2⟩⟩, ⟨by omega, by rw [d2]; omega, by omega, by rw [SSM.eo L eo]; omega⟩, ⟨by rw [i3.1, d1]; exact h13.1, h13.2.mv eo ck.1 (by rw [h1.2.1.1, ev.2.1.1]; exact l38) (FRB72 hin f)⟩, ⟨by omega, n8, by omega⟩, ?_, h18, h19, h20, col, h21.mv h20 hin ck f tb cd⟩
  · have st := STK.mv ck f tb cd L _ _ _ h2 hin (Int.le_refl _) (Int.le_refl _) (Int.le_refl _)
    rw [ck.1]
    exact st.hi (tb.2.2.2.2.2.2.2.2.2.1) (tb.2.2.2.2.2.2.2.1)
  · exact (tb.2.1 (ceG c) ((hin c hc).2.2.2.1 (Or.inl z))).2.2.1
  · obtain ⟨⟨a1, a2⟩, a3⟩ := h17
    unfold IAR
    rw [i3.2.2, i3.2.1, m4]
    refine ⟨⟨fun z => ?_, fun z => ?_⟩, fun z => ?_⟩
    · obtain ⟨g, g1, g2⟩ := a1 z
      exact ⟨g, g1, (tb.2.1 g g1).1.trans g2⟩
    · obtain ⟨g, g1, g2⟩ := z
      exact a2 ⟨g, g1, (tb.2.1 g g1).1.symm.trans g2⟩
    · obtain ⟨y1, y2, a, y3⟩ := a3 z
      exact ⟨y1, y2, a, (ck.2.1 _ (by omega)).trans y3⟩
/-- the base's signs are counted otherwise -/
theorem COR.rb {d : Int32} {B : CS} {b : RS} {t0 : Nat} {L : List CEL} {x : Int} {S : CS} {s : RS} {w : Int32} (h : COR d B b t0 L x S s) (hw : (s.i 19).toInt = w.toInt + SSM S L) : COR d B (RS.setI b 19 w) t0 L x S s := by
  obtain ⟨h1, h2, h3, h4, h5, h6, ⟨h10, h11, h12, -⟩, h13, h14, h17, h18⟩ := h
  exact ⟨h1, h2, h3, h4, h5, h6, ⟨h10, h11, h12, hw⟩, h13, h14, h17, h18⟩
